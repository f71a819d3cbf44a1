/-! METHODS (printed by wip/t4) -/
def qcX3_init_r_123_131_k1z : zQ := ((4, 4), ([(2, 1, 0), (2, 2, 0), (2, 3, 0), (0, 0, 1)], ([(0, 0, 0)], [], [], []), ([(2, 123), (3, 131)], [], [], [(1, 3, [(3, 0, 0), (3, 0, 0), (3, 0, 0), (3, 0, 0), (0, 0, 0), (0, 0, 0), (0, 0, 0), (3, 0, 0), (0, 0, 0), (1, 0, 0), (0, 0, 0), (0, 0, 0), (0, 0, 0), (1, 0, 0)])], [], [])), [(none, ([(0, 0, 0)], [], [], []), ([(1, 128)], [], [], [], [], []))], ([], []), (19, 608))
def mcX3_init_r_123_131_k1z : zM := (yX3_init, cX3_init, 5, none, { frames := 2, cells := 19, slots := 608, locals := 44 }, qcX3_init_r_123_131_k1z)
def hcX3_init_r_123_131_k1z : zH := ([], [(74, [(6, 62), (1, 128)])], [], [(7, 60), (15, 61)], ([], 0, 0), 1)
theorem jcX3_init_r_123_131_k1z : zk_txok RX3 hcX3_init_r_123_131_k1z.2.2.2.2.1 := zk_txb_ok (p := (0, 0)) (by decide +kernel)
def xcX3_init_r_123_131_k1z : List zX := [(24, 3, 2, mcX2_init_rz)]
theorem wcX3_init_r_123_131_k1z : zk_hwsb zcl RX3 mcX3_init_r_123_131_k1z.rm xcX3_init_r_123_131_k1z [(314, 84, 312, 313, 0)] = true := by decide +kernel
theorem icX3_init_r_123_131_k1z : zk_idb zcl RX3 3 true mcX3_init_r_123_131_k1z = true := by decide +kernel
theorem ecX3_init_r_123_131_k1z : zk_run zcl zft zTT1 zPF1 zPB1 zk_noSU zLX3 3 true mcX3_init_r_123_131_k1z ftX3_init hcX3_init_r_123_131_k1z zULf0 xcX3_init_r_123_131_k1z 127 = true := by decide +kernel
theorem gcX3_init_r_123_131_k1z {D : zD} {l : Launch} (hD : zWD1 D) : zCs D l xcX3_init_r_123_131_k1z := ⟨tcX2_init_rz hD, trivial⟩
theorem tcX3_init_r_123_131_k1z {D : zD} {l : Launch} (hD : zWD1 D) : zC D l mcX3_init_r_123_131_k1z := zk_methC1 hD poolX3 icX3_init_r_123_131_k1z jcX3_init_r_123_131_k1z ftX3_init_ok (gcX3_init_r_123_131_k1z hD) wcX3_init_r_123_131_k1z ecX3_init_r_123_131_k1z
def ftX4_init : List (Nat × List (Nat × Instr × Nat)) := [(26, [(0, .aload_n 0, 1), (1, .invokespecial 3, 3), (4, .aload_n 0, 1), (5, .bipush 80, 2), (7, .newarray .long, 2), (9, .putfield 9, 3), (12, .aload_n 0, 1), (13, .bipush 80, 2), (15, .newarray .long, 2), (17, .putfield 15, 3), (20, .aload_n 0, 1), (21, .bipush 80, 2), (23, .newarray .int, 2), (25, .putfield 18, 3)]), (45, [(28, .aload_n 0, 1), (29, .bipush 80, 2), (31, .newarray .int, 2), (33, .putfield 22, 3), (36, .aload_n 0, 1), (37, .bipush 80, 2), (39, .newarray .int, 2), (41, .putfield 25, 3), (44, .return_, 1)])]
theorem ftX4_init_ok : zk_ftb cX4_init ftX4_init = true := by decide +kernel
def qcX4_init_rz : zQ := ((2, 2), ([(2, 1, 0)], ([(0, 0, 0)], [], [], []), ([], [], [], [(1, 4, [(3, 0, 0), (3, 0, 0), (3, 0, 0), (3, 0, 0), (3, 0, 0), (0, 0, 0), (0, 0, 0)])], [], [])), [(none, ([(0, 0, 0)], [], [], []), ([(1, 31)], [], [], [], [], []))], ([], []), (5, 400))
def mcX4_init_rz : zM := (yX4_init, cX4_init, 1, none, { frames := 1, cells := 5, slots := 400, locals := 24 }, qcX4_init_rz)
def hcX4_init_rz : zH := ([], [(44, [(1, 31)])], [], [(7, 47), (15, 48), (23, 49), (31, 50), (39, 51)], ([], 0, 0), 1)
theorem jcX4_init_rz : zk_txok RX4 hcX4_init_rz.2.2.2.2.1 := zk_txb_ok (p := (0, 0)) (by decide +kernel)
def xcX4_init_rz : List zX := []
theorem wcX4_init_rz : zk_hwsb zcl RX4 mcX4_init_rz.rm xcX4_init_rz [] = true := by decide +kernel
theorem icX4_init_rz : zk_idb zcl RX4 4 true mcX4_init_rz = true := by decide +kernel
theorem ecX4_init_rz : zk_run zcl zft zTT1 zPF1 zPB1 zk_noSU zLX4 4 true mcX4_init_rz ftX4_init hcX4_init_rz zULf0 xcX4_init_rz 25 = true := by decide +kernel
theorem gcX4_init_rz {D : zD} {l : Launch} (hD : zWD1 D) : zCs D l xcX4_init_rz := trivial
theorem tcX4_init_rz {D : zD} {l : Launch} (hD : zWD1 D) : zC D l mcX4_init_rz := zk_methC1 hD poolX4 icX4_init_rz jcX4_init_rz ftX4_init_ok (gcX4_init_rz hD) wcX4_init_rz ecX4_init_rz
def ftX5_init : List (Nat × List (Nat × Instr × Nat)) := [(18, [(0, .aload_n 0, 1), (1, .invokespecial 3, 3), (4, .aload_n 0, 1), (5, .iconst 2, 1), (6, .anewarray 9, 3), (9, .dup, 1), (10, .iconst 0, 1), (11, .aload_n 1, 1), (12, .aastore, 1), (13, .dup, 1), (14, .iconst 1, 1), (15, .aload_n 2, 1), (16, .aastore, 1), (17, .putfield 11, 3)]), (21, [(20, .return_, 1)])]
theorem ftX5_init_ok : zk_ftb cX5_init ftX5_init = true := by decide +kernel
def qcX5_init_r_37_127z : zQ := ((4, 4), ([(2, 1, 0), (2, 2, 0), (2, 3, 0)], ([(0, 0, 0)], [], [], []), ([(2, 37), (3, 127)], [], [], [(1, 5, [(3, 0, 0), (0, 0, 0), (0, 0, 0), (0, 0, 0)])], [], [])), [(none, ([(0, 0, 0)], [], [], []), ([(1, 39)], [], [], [], [], []))], ([], []), (1, 2))
def mcX5_init_r_37_127z : zM := (yX5_init, cX5_init, 3, none, { frames := 1, cells := 1, slots := 2, locals := 24 }, qcX5_init_r_37_127z)
def hcX5_init_r_37_127z : zH := ([], [(20, [(4, 64), (1, 39)])], [], [], ([], 0, 0), 1)
theorem jcX5_init_r_37_127z : zk_txok RX5 hcX5_init_r_37_127z.2.2.2.2.1 := zk_txb_ok (p := (0, 0)) (by decide +kernel)
def xcX5_init_r_37_127z : List zX := []
theorem wcX5_init_r_37_127z : zk_hwsb zcl RX5 mcX5_init_r_37_127z.rm xcX5_init_r_37_127z [] = true := by decide +kernel
theorem icX5_init_r_37_127z : zk_idb zcl RX5 5 true mcX5_init_r_37_127z = true := by decide +kernel
theorem ecX5_init_r_37_127z : zk_run zcl zft zTT1 zPF1 zPB1 zk_noSU zLX5 5 true mcX5_init_r_37_127z ftX5_init hcX5_init_r_37_127z zULf0 xcX5_init_r_37_127z 17 = true := by decide +kernel
theorem gcX5_init_r_37_127z {D : zD} {l : Launch} (hD : zWD1 D) : zCs D l xcX5_init_r_37_127z := trivial
theorem tcX5_init_r_37_127z {D : zD} {l : Launch} (hD : zWD1 D) : zC D l mcX5_init_r_37_127z := zk_methC1 hD poolX5 icX5_init_r_37_127z jcX5_init_r_37_127z ftX5_init_ok (gcX5_init_r_37_127z hD) wcX5_init_r_37_127z ecX5_init_r_37_127z
def qcX5_init_r_38_128z : zQ := ((4, 4), ([(2, 1, 0), (2, 2, 0), (2, 3, 0)], ([(0, 0, 0)], [], [], []), ([(2, 38), (3, 128)], [], [], [(1, 5, [(3, 0, 0), (0, 0, 0), (0, 0, 0), (0, 0, 0)])], [], [])), [(none, ([(0, 0, 0)], [], [], []), ([(1, 40)], [], [], [], [], []))], ([], []), (1, 2))
def mcX5_init_r_38_128z : zM := (yX5_init, cX5_init, 3, none, { frames := 1, cells := 1, slots := 2, locals := 24 }, qcX5_init_r_38_128z)
def hcX5_init_r_38_128z : zH := ([], [(20, [(4, 65), (1, 40)])], [], [], ([], 0, 0), 1)
theorem jcX5_init_r_38_128z : zk_txok RX5 hcX5_init_r_38_128z.2.2.2.2.1 := zk_txb_ok (p := (0, 0)) (by decide +kernel)
def xcX5_init_r_38_128z : List zX := []
theorem wcX5_init_r_38_128z : zk_hwsb zcl RX5 mcX5_init_r_38_128z.rm xcX5_init_r_38_128z [] = true := by decide +kernel
theorem icX5_init_r_38_128z : zk_idb zcl RX5 5 true mcX5_init_r_38_128z = true := by decide +kernel
theorem ecX5_init_r_38_128z : zk_run zcl zft zTT1 zPF1 zPB1 zk_noSU zLX5 5 true mcX5_init_r_38_128z ftX5_init hcX5_init_r_38_128z zULf0 xcX5_init_r_38_128z 17 = true := by decide +kernel
theorem gcX5_init_r_38_128z {D : zD} {l : Launch} (hD : zWD1 D) : zCs D l xcX5_init_r_38_128z := trivial
theorem tcX5_init_r_38_128z {D : zD} {l : Launch} (hD : zWD1 D) : zC D l mcX5_init_r_38_128z := zk_methC1 hD poolX5 icX5_init_r_38_128z jcX5_init_r_38_128z ftX5_init_ok (gcX5_init_r_38_128z hD) wcX5_init_r_38_128z ecX5_init_r_38_128z
def ftX6_init : List (Nat × List (Nat × Instr × Nat)) := [(20, [(0, .aload_n 0, 1), (1, .invokespecial 3, 3), (4, .aload_n 0, 1), (5, .aload_n 1, 1), (6, .putfield 9, 3), (9, .aload_n 0, 1), (10, .iconst 0, 1), (11, .putfield 15, 3), (14, .aload_n 0, 1), (15, .iconst (-1), 1), (16, .putfield 19, 3), (19, .return_, 1)])]
theorem ftX6_init_ok : zk_ftb cX6_init ftX6_init = true := by decide +kernel
def qcX6_init_r_30z : zQ := ((3, 3), ([(2, 1, 0), (2, 2, 0)], ([(0, 0, 0)], [], [], []), ([(2, 30)], [], [], [(1, 6, [(3, 0, 0), (0, 0, 0), (0, 0, 0), (1, 0, 0), (0, 0, 0), (0, 0, 0), (0, 0, 0)])], [], [])), [(none, ([(0, 0, 0)], [], [], []), ([(1, 34)], [(1, 6, 0, (2, 2, 0))], [], [], [], []))], ([], []), (0, 0))
def mcX6_init_r_30z : zM := (yX6_init, cX6_init, 2, none, { frames := 1, cells := 0, slots := 0, locals := 24 }, qcX6_init_r_30z)
def hcX6_init_r_30z : zH := ([], [(19, [(1, 34)])], [], [], ([], 0, 0), 1)
theorem jcX6_init_r_30z : zk_txok RX6 hcX6_init_r_30z.2.2.2.2.1 := zk_txb_ok (p := (0, 0)) (by decide +kernel)
def xcX6_init_r_30z : List zX := []
theorem wcX6_init_r_30z : zk_hwsb zcl RX6 mcX6_init_r_30z.rm xcX6_init_r_30z [] = true := by decide +kernel
theorem icX6_init_r_30z : zk_idb zcl RX6 6 true mcX6_init_r_30z = true := by decide +kernel
theorem ecX6_init_r_30z : zk_run zcl zft zTT1 zPF1 zPB1 zk_noSU zLX6 6 true mcX6_init_r_30z ftX6_init hcX6_init_r_30z zULf0 xcX6_init_r_30z 14 = true := by decide +kernel
theorem gcX6_init_r_30z {D : zD} {l : Launch} (hD : zWD1 D) : zCs D l xcX6_init_r_30z := trivial
theorem tcX6_init_r_30z {D : zD} {l : Launch} (hD : zWD1 D) : zC D l mcX6_init_r_30z := zk_methC1 hD poolX6 icX6_init_r_30z jcX6_init_r_30z ftX6_init_ok (gcX6_init_r_30z hD) wcX6_init_r_30z ecX6_init_r_30z
def ftX7_clear : List (Nat × List (Nat × Instr × Nat)) := [(21, [(0, .iconst 0, 1), (1, .istore_n 1, 1), (2, .iload_n 1, 1), (3, .bipush 26, 2), (5, .if_icmp .gt 23, 3), (8, .aload_n 0, 1), (9, .getfield 9, 3), (12, .iload_n 1, 1), (13, .iload_n 1, 1), (14, .iastore, 1), (15, .aload_n 0, 1), (16, .getfield 15, 3), (19, .iload_n 1, 1), (20, .iconst 0, 1)]), (44, [(21, .bastore, 1), (22, .iinc 1 1, 3), (25, .goto (-23), 3), (28, .aload_n 0, 1), (29, .iconst 0, 1), (30, .putfield 22, 3), (33, .aload_n 0, 1), (34, .iconst 0, 1), (35, .putfield 26, 3), (38, .aload_n 0, 1), (39, .iconst 0, 1), (40, .putfield 30, 3), (43, .return_, 1)])]
theorem ftX7_clear_ok : zk_ftb cX7_clear ftX7_clear = true := by decide +kernel
def qcX7_clearz : zQ := ((2, 2), ([(2, 1, 0)], ([(0, 0, 0)], [], [], []), ([(1, 32)], [], [], [], [], [])), [(none, ([(0, 0, 0)], [], [], []), ([], [], [], [], [], []))], ([(32, 2), (32, 3), (32, 4)], [45, 46]), (0, 0))
def mcX7_clearz : zM := (yX7_clear, cX7_clear, 2, none, { frames := 1, cells := 0, slots := 0, locals := 12 }, qcX7_clearz)
def hcX7_clearz : zH := ([(2, [([(0, (2, 1, 0)), (1, (0, 2, 0))], [], ([(0, 0, 0), (2, 0, 27)], [], [], []), ([(1, 32)], [], [], [], [], []), (3, ([(2, (-1))], 27), 0, 0))])], [], [], [], ([], 0, 0), 55)
theorem jcX7_clearz : zk_txok RX7 hcX7_clearz.2.2.2.2.1 := zk_txb_ok (p := (0, 0)) (by decide +kernel)
def xcX7_clearz : List zX := []
theorem wcX7_clearz : zk_hwsb zcl RX7 mcX7_clearz.rm xcX7_clearz [] = true := by decide +kernel
theorem icX7_clearz : zk_idb zcl RX7 7 false mcX7_clearz = true := by decide +kernel
theorem ecX7_clearz : zk_run zcl zft zTT1 zPF1 zPB1 zk_noSU zLX7 7 false mcX7_clearz ftX7_clear hcX7_clearz zULf0 xcX7_clearz 17 = true := by decide +kernel
theorem gcX7_clearz {D : zD} {l : Launch} (hD : zWD1 D) : zCs D l xcX7_clearz := trivial
theorem tcX7_clearz {D : zD} {l : Launch} (hD : zWD1 D) : zC D l mcX7_clearz := zk_methC1 hD poolX7 icX7_clearz jcX7_clearz ftX7_clear_ok (gcX7_clearz hD) wcX7_clearz ecX7_clearz
def ftX7_init : List (Nat × List (Nat × Instr × Nat)) := [(25, [(0, .aload_n 0, 1), (1, .invokespecial 3, 3), (4, .aload_n 0, 1), (5, .bipush 27, 2), (7, .newarray .int, 2), (9, .putfield 9, 3), (12, .aload_n 0, 1), (13, .bipush 27, 2), (15, .newarray .boolean, 2), (17, .putfield 15, 3), (20, .aload_n 0, 1), (21, .invokevirtual 19, 3), (24, .return_, 1)])]
theorem ftX7_init_ok : zk_ftb cX7_init ftX7_init = true := by decide +kernel
def qcX7_init_rz : zQ := ((2, 4), ([(2, 1, 0)], ([(0, 0, 0)], [], [], []), ([], [], [], [(1, 7, [(3, 0, 0), (3, 0, 0), (0, 0, 0), (0, 0, 0), (0, 0, 0)])], [], [])), [(none, ([(0, 0, 0)], [], [], []), ([(1, 32), (2, 45), (3, 46)], [(1, 7, 0, (2, 2, 0)), (1, 7, 1, (2, 3, 0))], [], [], [], []))], ([(32, 2), (32, 3), (32, 4)], [45, 46]), (2, 54))
def mcX7_init_rz : zM := (yX7_init, cX7_init, 1, none, { frames := 2, cells := 2, slots := 54, locals := 33 }, qcX7_init_rz)
def hcX7_init_rz : zH := ([], [(21, [(1, 32)])], [], [(7, 45), (15, 46)], ([], 0, 0), 1)
theorem jcX7_init_rz : zk_txok RX7 hcX7_init_rz.2.2.2.2.1 := zk_txb_ok (p := (0, 0)) (by decide +kernel)
def xcX7_init_rz : List zX := [(19, 2, 7, mcX7_clearz)]
theorem wcX7_init_rz : zk_hwsb zcl RX7 mcX7_init_rz.rm xcX7_init_rz [(179, 78, 176, 177, 178)] = true := by decide +kernel
theorem icX7_init_rz : zk_idb zcl RX7 7 true mcX7_init_rz = true := by decide +kernel
theorem ecX7_init_rz : zk_run zcl zft zTT1 zPF1 zPB1 zk_noSU zLX7 7 true mcX7_init_rz ftX7_init hcX7_init_rz zULf0 xcX7_init_rz 15 = true := by decide +kernel
theorem gcX7_init_rz {D : zD} {l : Launch} (hD : zWD1 D) : zCs D l xcX7_init_rz := ⟨tcX7_clearz hD, trivial⟩
theorem tcX7_init_rz {D : zD} {l : Launch} (hD : zWD1 D) : zC D l mcX7_init_rz := zk_methC1 hD poolX7 icX7_init_rz jcX7_init_rz ftX7_init_ok (gcX7_init_rz hD) wcX7_init_rz ecX7_init_rz
def ftX8_init : List (Nat × List (Nat × Instr × Nat)) := [(14, [(0, .aload_n 0, 1), (1, .invokespecial 3, 3), (4, .aload_n 0, 1), (5, .sipush 1200, 3), (8, .newarray .byte, 2), (10, .putfield 9, 3), (13, .return_, 1)])]
theorem ftX8_init_ok : zk_ftb cX8_init ftX8_init = true := by decide +kernel
def qcX8_init_rz : zQ := ((2, 3), ([(2, 1, 0)], ([(0, 0, 0)], [], [], []), ([], [], [], [(1, 8, [(3, 0, 0), (0, 0, 0), (0, 0, 0), (0, 0, 0), (0, 0, 0), (0, 0, 0), (1, 0, 0), (0, 0, 0)])], [], [])), [(none, ([(0, 0, 0)], [], [], []), ([(1, 30), (2, 44)], [(1, 8, 1, (0, 0, 0)), (1, 8, 0, (2, 2, 0))], [], [], [], []))], ([], []), (1, 1200))
def mcX8_init_rz : zM := (yX8_init, cX8_init, 1, none, { frames := 1, cells := 1, slots := 1200, locals := 24 }, qcX8_init_rz)
def hcX8_init_rz : zH := ([], [(13, [(1, 30)])], [], [(8, 44)], ([], 0, 0), 1)
theorem jcX8_init_rz : zk_txok RX8 hcX8_init_rz.2.2.2.2.1 := zk_txb_ok (p := (0, 0)) (by decide +kernel)
def xcX8_init_rz : List zX := []
theorem wcX8_init_rz : zk_hwsb zcl RX8 mcX8_init_rz.rm xcX8_init_rz [] = true := by decide +kernel
theorem icX8_init_rz : zk_idb zcl RX8 8 true mcX8_init_rz = true := by decide +kernel
theorem ecX8_init_rz : zk_run zcl zft zTT1 zPF1 zPB1 zk_noSU zLX8 8 true mcX8_init_rz ftX8_init hcX8_init_rz zULf0 xcX8_init_rz 9 = true := by decide +kernel
theorem gcX8_init_rz {D : zD} {l : Launch} (hD : zWD1 D) : zCs D l xcX8_init_rz := trivial
theorem tcX8_init_rz {D : zD} {l : Launch} (hD : zWD1 D) : zC D l mcX8_init_rz := zk_methC1 hD poolX8 icX8_init_rz jcX8_init_rz ftX8_init_ok (gcX8_init_rz hD) wcX8_init_rz ecX8_init_rz
def ftX9_init : List (Nat × List (Nat × Instr × Nat)) := [(24, [(0, .aload_n 0, 1), (1, .invokespecial 3, 3), (4, .aload_n 0, 1), (5, .bipush 60, 2), (7, .newarray .int, 2), (9, .putfield 9, 3), (12, .aload_n 0, 1), (13, .iconst 0, 1), (14, .putfield 15, 3), (17, .aload_n 0, 1), (18, .iconst 0, 1), (19, .putfield 19, 3), (22, .aload_n 0, 1), (23, .iconst 1, 1)]), (34, [(24, .putfield 23, 3), (27, .aload_n 0, 1), (28, .bipush 101, 2), (30, .putfield 26, 3), (33, .return_, 1)])]
theorem ftX9_init_ok : zk_ftb cX9_init ftX9_init = true := by decide +kernel
def qcX9_init_r_Az : zQ := ((2, 2), ([(2, 1, 0)], ([(0, 0, 0)], [], [], []), ([], [], [], [(1, 9, [(3, 0, 0), (0, 0, 0), (0, 0, 0), (0, 0, 0), (0, 0, 0)])], [], [])), [(none, ([(0, 0, 0)], [], [], []), ([(1, 122)], [], [], [], [], []))], ([], []), (1, 60))
def mcX9_init_r_Az : zM := (yX9_init, cX9_init, 1, none, { frames := 1, cells := 1, slots := 60, locals := 24 }, qcX9_init_r_Az)
def hcX9_init_r_Az : zH := ([], [(33, [(1, 122)])], [], [(7, 124)], ([], 0, 0), 1)
theorem jcX9_init_r_Az : zk_txok RX9 hcX9_init_r_Az.2.2.2.2.1 := zk_txb_ok (p := (0, 0)) (by decide +kernel)
def xcX9_init_r_Az : List zX := []
theorem wcX9_init_r_Az : zk_hwsb zcl RX9 mcX9_init_r_Az.rm xcX9_init_r_Az [] = true := by decide +kernel
theorem icX9_init_r_Az : zk_idb zcl RX9 9 true mcX9_init_r_Az = true := by decide +kernel
theorem ecX9_init_r_Az : zk_run zcl zft zTT1 zPF1 zPB1 zk_noSU zLX9 9 true mcX9_init_r_Az ftX9_init hcX9_init_r_Az zULf0 xcX9_init_r_Az 21 = true := by decide +kernel
theorem gcX9_init_r_Az {D : zD} {l : Launch} (hD : zWD1 D) : zCs D l xcX9_init_r_Az := trivial
theorem tcX9_init_r_Az {D : zD} {l : Launch} (hD : zWD1 D) : zC D l mcX9_init_r_Az := zk_methC1 hD poolX9 icX9_init_r_Az jcX9_init_r_Az ftX9_init_ok (gcX9_init_r_Az hD) wcX9_init_r_Az ecX9_init_r_Az
def qcX9_init_r_Bz : zQ := ((2, 2), ([(2, 1, 0)], ([(0, 0, 0)], [], [], []), ([], [], [], [(1, 9, [(3, 0, 0), (0, 0, 0), (0, 0, 0), (0, 0, 0), (0, 0, 0)])], [], [])), [(none, ([(0, 0, 0)], [], [], []), ([(1, 123)], [], [], [], [], []))], ([], []), (1, 60))
def mcX9_init_r_Bz : zM := (yX9_init, cX9_init, 1, none, { frames := 1, cells := 1, slots := 60, locals := 24 }, qcX9_init_r_Bz)
def hcX9_init_r_Bz : zH := ([], [(33, [(1, 123)])], [], [(7, 125)], ([], 0, 0), 1)
theorem jcX9_init_r_Bz : zk_txok RX9 hcX9_init_r_Bz.2.2.2.2.1 := zk_txb_ok (p := (0, 0)) (by decide +kernel)
def xcX9_init_r_Bz : List zX := []
theorem wcX9_init_r_Bz : zk_hwsb zcl RX9 mcX9_init_r_Bz.rm xcX9_init_r_Bz [] = true := by decide +kernel
theorem icX9_init_r_Bz : zk_idb zcl RX9 9 true mcX9_init_r_Bz = true := by decide +kernel
theorem ecX9_init_r_Bz : zk_run zcl zft zTT1 zPF1 zPB1 zk_noSU zLX9 9 true mcX9_init_r_Bz ftX9_init hcX9_init_r_Bz zULf0 xcX9_init_r_Bz 21 = true := by decide +kernel
theorem gcX9_init_r_Bz {D : zD} {l : Launch} (hD : zWD1 D) : zCs D l xcX9_init_r_Bz := trivial
theorem tcX9_init_r_Bz {D : zD} {l : Launch} (hD : zWD1 D) : zC D l mcX9_init_r_Bz := zk_methC1 hD poolX9 icX9_init_r_Bz jcX9_init_r_Bz ftX9_init_ok (gcX9_init_r_Bz hD) wcX9_init_r_Bz ecX9_init_r_Bz
def qcX9_init_rz : zQ := ((2, 2), ([(2, 1, 0)], ([(0, 0, 0)], [], [], []), ([], [], [], [(1, 9, [(3, 0, 0), (0, 0, 0), (0, 0, 0), (0, 0, 0), (0, 0, 0)])], [], [])), [(none, ([(0, 0, 0)], [], [], []), ([(1, 35)], [], [], [], [], []))], ([], []), (1, 60))
def mcX9_init_rz : zM := (yX9_init, cX9_init, 1, none, { frames := 1, cells := 1, slots := 60, locals := 24 }, qcX9_init_rz)
def hcX9_init_rz : zH := ([], [(33, [(1, 35)])], [], [(7, 58)], ([], 0, 0), 1)
theorem jcX9_init_rz : zk_txok RX9 hcX9_init_rz.2.2.2.2.1 := zk_txb_ok (p := (0, 0)) (by decide +kernel)
def xcX9_init_rz : List zX := []
theorem wcX9_init_rz : zk_hwsb zcl RX9 mcX9_init_rz.rm xcX9_init_rz [] = true := by decide +kernel
theorem icX9_init_rz : zk_idb zcl RX9 9 true mcX9_init_rz = true := by decide +kernel
theorem ecX9_init_rz : zk_run zcl zft zTT1 zPF1 zPB1 zk_noSU zLX9 9 true mcX9_init_rz ftX9_init hcX9_init_rz zULf0 xcX9_init_rz 21 = true := by decide +kernel
theorem gcX9_init_rz {D : zD} {l : Launch} (hD : zWD1 D) : zCs D l xcX9_init_rz := trivial
theorem tcX9_init_rz {D : zD} {l : Launch} (hD : zWD1 D) : zC D l mcX9_init_rz := zk_methC1 hD poolX9 icX9_init_rz jcX9_init_rz ftX9_init_ok (gcX9_init_rz hD) wcX9_init_rz ecX9_init_rz
def ftX11_init : List (Nat × List (Nat × Instr × Nat)) := [(28, [(0, .aload_n 0, 1), (1, .invokespecial 3, 3), (4, .aload_n 0, 1), (5, .new 9, 3), (8, .dup, 1), (9, .invokespecial 11, 3), (12, .putfield 12, 3), (15, .aload_n 0, 1), (16, .new 16, 3), (19, .dup, 1), (20, .aload_n 0, 1), (21, .getfield 12, 3), (24, .invokespecial 18, 3), (27, .putfield 21, 3)]), (58, [(30, .aload_n 0, 1), (31, .new 25, 3), (34, .dup, 1), (35, .invokespecial 27, 3), (38, .putfield 28, 3), (41, .aload_n 0, 1), (42, .new 25, 3), (45, .dup, 1), (46, .invokespecial 27, 3), (49, .putfield 32, 3), (52, .aload_n 0, 1), (53, .iconst 4, 1), (54, .anewarray 35, 3), (57, .dup, 1)]), (80, [(58, .iconst 0, 1), (59, .new 35, 3), (62, .dup, 1), (63, .invokespecial 37, 3), (66, .aastore, 1), (67, .dup, 1), (68, .iconst 1, 1), (69, .new 35, 3), (72, .dup, 1), (73, .invokespecial 37, 3), (76, .aastore, 1), (77, .dup, 1), (78, .iconst 2, 1), (79, .new 35, 3)]), (106, [(82, .dup, 1), (83, .invokespecial 37, 3), (86, .aastore, 1), (87, .dup, 1), (88, .iconst 3, 1), (89, .new 35, 3), (92, .dup, 1), (93, .invokespecial 37, 3), (96, .aastore, 1), (97, .putfield 38, 3), (100, .aload_n 0, 1), (101, .new 42, 3), (104, .dup, 1), (105, .invokespecial 44, 3)]), (135, [(108, .putfield 45, 3), (111, .aload_n 0, 1), (112, .new 42, 3), (115, .dup, 1), (116, .invokespecial 44, 3), (119, .putfield 49, 3), (122, .aload_n 0, 1), (123, .bipush 101, 2), (125, .putfield 52, 3), (128, .aload_n 0, 1), (129, .iconst 2, 1), (130, .anewarray 56, 3), (133, .dup, 1), (134, .iconst 0, 1)]), (159, [(135, .new 56, 3), (138, .dup, 1), (139, .invokespecial 58, 3), (142, .aastore, 1), (143, .dup, 1), (144, .iconst 1, 1), (145, .new 56, 3), (148, .dup, 1), (149, .invokespecial 58, 3), (152, .aastore, 1), (153, .putfield 59, 3), (156, .aload_n 0, 1), (157, .iconst 2, 1), (158, .newarray .int, 2)]), (180, [(160, .dup, 1), (161, .iconst 0, 1), (162, .iconst 1, 1), (163, .iastore, 1), (164, .dup, 1), (165, .iconst 1, 1), (166, .iconst 1, 1), (167, .iastore, 1), (168, .putfield 63, 3), (171, .aload_n 0, 1), (172, .bipush 40, 2), (174, .newarray .int, 2), (176, .putfield 67, 3), (179, .sipush 1830, 3)]), (206, [(182, .newarray .int, 2), (184, .astore_n 1, 1), (185, .sipush 1830, 3), (188, .newarray .int, 2), (190, .astore_n 2, 1), (191, .aload_n 0, 1), (192, .new 70, 3), (195, .dup, 1), (196, .new 72, 3), (199, .dup, 1), (200, .aload_n 0, 1), (201, .getfield 59, 3), (204, .iconst 0, 1), (205, .aaload, 1)]), (230, [(206, .aload_n 1, 1), (207, .iconst 0, 1), (208, .invokespecial 74, 3), (211, .new 72, 3), (214, .dup, 1), (215, .aload_n 0, 1), (216, .getfield 59, 3), (219, .iconst 1, 1), (220, .aaload, 1), (221, .aload_n 2, 1), (222, .iconst 0, 1), (223, .invokespecial 74, 3), (226, .invokespecial 77, 3), (229, .putfield 80, 3)]), (256, [(232, .new 70, 3), (235, .dup, 1), (236, .new 72, 3), (239, .dup, 1), (240, .aload_n 0, 1), (241, .getfield 59, 3), (244, .iconst 0, 1), (245, .aaload, 1), (246, .aload_n 1, 1), (247, .iconst 1, 1), (248, .invokespecial 74, 3), (251, .new 72, 3), (254, .dup, 1), (255, .aload_n 0, 1)]), (281, [(256, .getfield 59, 3), (259, .iconst 1, 1), (260, .aaload, 1), (261, .aload_n 2, 1), (262, .iconst 1, 1), (263, .invokespecial 74, 3), (266, .invokespecial 77, 3), (269, .astore_n 3, 1), (270, .new 56, 3), (273, .dup, 1), (274, .invokespecial 58, 3), (277, .astore 4, 2), (279, .aload_n 0, 1), (280, .iconst 2, 1)]), (304, [(281, .anewarray 84, 3), (284, .dup, 1), (285, .iconst 0, 1), (286, .new 84, 3), (289, .dup, 1), (290, .aload_n 3, 1), (291, .aload 4, 2), (293, .invokespecial 86, 3), (296, .aastore, 1), (297, .dup, 1), (298, .iconst 1, 1), (299, .new 84, 3), (302, .dup, 1), (303, .aload_n 3, 1)]), (329, [(304, .aload 4, 2), (306, .invokespecial 86, 3), (309, .aastore, 1), (310, .putfield 89, 3), (313, .aload_n 0, 1), (314, .iconst 0, 1), (315, .putfield 93, 3), (318, .aload_n 0, 1), (319, .iconst 0, 1), (320, .putfield 97, 3), (323, .aload_n 0, 1), (324, .iconst 0, 1), (325, .putfield 100, 3), (328, .return_, 1)])]
theorem ftX11_init_ok : zk_ftb cX11_init ftX11_init = true := by decide +kernel
def qcX11_init_rz : zQ := ((2, 11), ([(2, 1, 0)], ([(0, 0, 0)], [], [], []), ([], [], [], [(1, 11, [(3, 0, 0), (3, 0, 0), (3, 0, 0), (3, 0, 0), (3, 0, 0), (3, 0, 0), (3, 0, 0), (0, 0, 0), (3, 0, 0), (3, 0, 0), (3, 0, 0), (3, 0, 0), (3, 0, 0), (0, 0, 0), (0, 0, 0), (0, 0, 0)])], [], [])), [(none, ([(0, 0, 0)], [], [], []), ([(1, 42), (2, 30), (3, 44), (4, 34), (5, 32), (6, 45), (7, 46), (8, 32), (9, 45), (10, 46)], [(1, 11, 0, (2, 2, 0)), (2, 8, 1, (0, 0, 0)), (2, 8, 0, (2, 3, 0)), (1, 11, 1, (2, 4, 0)), (4, 6, 0, (2, 2, 0)), (1, 11, 3, (2, 5, 0)), (5, 7, 0, (2, 6, 0)), (5, 7, 1, (2, 7, 0)), (1, 11, 2, (2, 8, 0)), (8, 7, 0, (2, 9, 0)), (8, 7, 1, (2, 10, 0))], [], [], [], []))], ([(32, 2), (32, 3), (32, 4)], [45, 46, 70]), (150, 10226))
def mcX11_init_rz : zM := (yX11_init, cX11_init, 5, none, { frames := 3, cells := 150, slots := 10226, locals := 68 }, qcX11_init_rz)
def hcX11_init_rz : zH := ([], [(328, [(11, 68), (22, 69), (36, 72), (1, 42)])], [], [(158, 70), (174, 71), (182, 63), (188, 131)], ([], 0, 0), 1)
theorem jcX11_init_rz : zk_txok RX11 hcX11_init_rz.2.2.2.2.1 := zk_txb_ok (p := (0, 0)) (by decide +kernel)
def xcX11_init_rz : List zX := [(11, 3, 8, mcX8_init_rz), (18, 3, 6, mcX6_init_r_30z), (27, 3, 7, mcX7_init_rz), (37, 3, 4, mcX4_init_rz), (44, 3, 10, mcX10_init_r_Bz), (44, 3, 10, mcX10_init_rz), (58, 3, 9, mcX9_init_r_Az), (58, 3, 9, mcX9_init_r_Bz), (58, 3, 9, mcX9_init_rz), (74, 3, 3, mcX3_init_r_122_63_k0z), (74, 3, 3, mcX3_init_r_122_63_k1z), (74, 3, 3, mcX3_init_r_123_131_k0z), (74, 3, 3, mcX3_init_r_123_131_k1z), (77, 3, 5, mcX5_init_r_37_127z), (77, 3, 5, mcX5_init_r_38_128z), (86, 3, 0, mcX0_init_r_40_35z)]
theorem wcX11_init_rz : zk_hwsb zcl RX11 mcX11_init_rz.rm xcX11_init_rz [(105, 76, 103, 104, 0), (142, 77, 140, 141, 0), (174, 78, 172, 173, 0), (207, 79, 205, 206, 0), (247, 80, 245, 246, 0), (247, 80, 245, 246, 0), (282, 81, 280, 281, 0), (282, 81, 280, 281, 0), (282, 81, 280, 281, 0), (307, 83, 305, 306, 0), (307, 83, 305, 306, 0), (307, 83, 305, 306, 0), (307, 83, 305, 306, 0), (404, 82, 402, 403, 0), (404, 82, 402, 403, 0), (431, 85, 429, 430, 0)] = true := by decide +kernel
theorem icX11_init_rz : zk_idb zcl RX11 11 true mcX11_init_rz = true := by decide +kernel
theorem ecX11_init_rz : zk_run zcl zft zTT1 zPF1 zPB1 zk_noSU zLX11 11 true mcX11_init_rz ftX11_init hcX11_init_rz zULf0 xcX11_init_rz 184 = true := by decide +kernel
theorem gcX11_init_rz {D : zD} {l : Launch} (hD : zWD1 D) : zCs D l xcX11_init_rz := ⟨tcX8_init_rz hD, tcX6_init_r_30z hD, tcX7_init_rz hD, tcX4_init_rz hD, tcX10_init_r_Bz hD, tcX10_init_rz hD, tcX9_init_r_Az hD, tcX9_init_r_Bz hD, tcX9_init_rz hD, tcX3_init_r_122_63_k0z hD, tcX3_init_r_122_63_k1z hD, tcX3_init_r_123_131_k0z hD, tcX3_init_r_123_131_k1z hD, tcX5_init_r_37_127z hD, tcX5_init_r_38_128z hD, tcX0_init_r_40_35z hD, trivial⟩
theorem tcX11_init_rz {D : zD} {l : Launch} (hD : zWD1 D) : zC D l mcX11_init_rz := zk_methC1 hD poolX11 icX11_init_rz jcX11_init_rz ftX11_init_ok (gcX11_init_rz hD) wcX11_init_rz ecX11_init_rz
