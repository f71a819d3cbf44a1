/-! METHODS (printed by wip/t6) -/
def ftX7_init : List (Nat × List (Nat × Instr × Nat)) := [(25, [(0, .aload_n 0, 1), (1, .invokespecial 3, 3), (4, .aload_n 0, 1), (5, .bipush 27, 2), (7, .newarray .int, 2), (9, .putfield 9, 3), (12, .aload_n 0, 1), (13, .bipush 27, 2), (15, .newarray .boolean, 2), (17, .putfield 15, 3), (20, .aload_n 0, 1), (21, .invokevirtual 19, 3), (24, .return_, 1)])]
theorem ftX7_init_ok : zk_ftb cX7_init ftX7_init = true := by decide +kernel
def qcX7_init_r_Bz : zQ := ((2, 4), ([(2, 1, 0)], ([(0, 0, 0)], [], [], []), ([], [], [], [(1, 7, [(3, 0, 0), (3, 0, 0), (0, 0, 0), (0, 0, 0), (0, 0, 0)])], [], [])), [(none, ([(0, 0, 0)], [], [], []), ([(1, 129), (2, 136), (3, 46)], [(1, 7, 0, (2, 2, 0)), (1, 7, 1, (2, 3, 0)), (1, 7, 2, (0, 0, 0)), (1, 7, 3, (0, 0, 0))], [], [], [], []))], ([(129, 2), (129, 3), (129, 4)], [46, 136]), (2, 54))
def mcX7_init_r_Bz : zM := (yX7_init, cX7_init, 1, none, { frames := 2, cells := 2, slots := 54, locals := 33 }, qcX7_init_r_Bz)
def hcX7_init_r_Bz : zH := ([], [(21, [(1, 129)])], [], [(7, 136), (15, 46)], ([], 0, 0), 1)
theorem jcX7_init_r_Bz : zk_txok RX7 hcX7_init_r_Bz.2.2.2.2.1 := zk_txb_ok (p := (0, 0)) (by decide +kernel)
def xcX7_init_r_Bz : List zX := [(19, 2, 7, mcX7_clear_129z)]
theorem wcX7_init_r_Bz : zk_hwsb zcl RX7 mcX7_init_r_Bz.rm xcX7_init_r_Bz [(179, 78, 176, 177, 178)] = true := by decide +kernel
theorem icX7_init_r_Bz : zk_idb zcl RX7 7 true mcX7_init_r_Bz = true := by decide +kernel
theorem ecX7_init_r_Bz : zk_run zcl zft zTT1 zPF1 zPB1 zk_noSU zLX7 7 true mcX7_init_r_Bz ftX7_init hcX7_init_r_Bz zULf0 xcX7_init_r_Bz 15 = true := by decide +kernel
theorem gcX7_init_r_Bz {D : zD} {l : Launch} (hD : zWD1 D) : zCs D l xcX7_init_r_Bz := ⟨tcX7_clear_129z hD, trivial⟩
theorem tcX7_init_r_Bz {D : zD} {l : Launch} (hD : zWD1 D) : zC D l mcX7_init_r_Bz := zk_methC1 hD poolX7 icX7_init_r_Bz jcX7_init_r_Bz ftX7_init_ok (gcX7_init_r_Bz hD) wcX7_init_r_Bz ecX7_init_r_Bz
def qcX7_clearz : zQ := ((2, 3), ([(2, 1, 0)], ([(0, 0, 0)], [], [], []), ([(1, 32)], [], [], [], [], [])), [(none, ([(0, 0, 0)], [], [], []), ([(2, 45)], [(1, 7, 0, (2, 2, 0)), (1, 7, 2, (0, 0, 0)), (1, 7, 3, (0, 0, 0))], [(2, 45, (0, 0, 0), (0, 0, 0)), (2, 45, (0, 0, 1), (0, 0, 1)), (2, 45, (0, 0, 2), (0, 0, 2)), (2, 45, (0, 0, 3), (0, 0, 3)), (2, 45, (0, 0, 4), (0, 0, 4)), (2, 45, (0, 0, 5), (0, 0, 5)), (2, 45, (0, 0, 6), (0, 0, 6)), (2, 45, (0, 0, 7), (0, 0, 7)), (2, 45, (0, 0, 8), (0, 0, 8)), (2, 45, (0, 0, 9), (0, 0, 9)), (2, 45, (0, 0, 10), (0, 0, 10)), (2, 45, (0, 0, 11), (0, 0, 11)), (2, 45, (0, 0, 12), (0, 0, 12)), (2, 45, (0, 0, 13), (0, 0, 13)), (2, 45, (0, 0, 14), (0, 0, 14)), (2, 45, (0, 0, 15), (0, 0, 15)), (2, 45, (0, 0, 16), (0, 0, 16)), (2, 45, (0, 0, 17), (0, 0, 17)), (2, 45, (0, 0, 18), (0, 0, 18)), (2, 45, (0, 0, 19), (0, 0, 19)), (2, 45, (0, 0, 20), (0, 0, 20)), (2, 45, (0, 0, 21), (0, 0, 21)), (2, 45, (0, 0, 22), (0, 0, 22)), (2, 45, (0, 0, 23), (0, 0, 23)), (2, 45, (0, 0, 24), (0, 0, 24)), (2, 45, (0, 0, 25), (0, 0, 25)), (2, 45, (0, 0, 26), (0, 0, 26))], [], [], []))], ([(32, 2), (32, 3), (32, 4)], [45, 46]), (0, 0))
def mcX7_clearz : zM := (yX7_clear, cX7_clear, 2, none, { frames := 1, cells := 0, slots := 0, locals := 12 }, qcX7_clearz)
def hcX7_clearz : zH := ([], [], [], [], ([], 0, 0), 1)
theorem jcX7_clearz : zk_txok RX7 hcX7_clearz.2.2.2.2.1 := zk_txb_ok (p := (0, 0)) (by decide +kernel)
def xcX7_clearz : List zX := []
theorem wcX7_clearz : zk_hwsb zcl RX7 mcX7_clearz.rm xcX7_clearz [] = true := by decide +kernel
theorem icX7_clearz : zk_idb zcl RX7 7 false mcX7_clearz = true := by decide +kernel
theorem ecX7_clearz : zk_run zcl zft zTT1 zPF1 zPB1 zk_noSU zLX7 7 false mcX7_clearz ftX7_clear hcX7_clearz zULf0 xcX7_clearz 422 = true := by decide +kernel
theorem gcX7_clearz {D : zD} {l : Launch} (hD : zWD1 D) : zCs D l xcX7_clearz := trivial
theorem tcX7_clearz {D : zD} {l : Launch} (hD : zWD1 D) : zC D l mcX7_clearz := zk_methC1 hD poolX7 icX7_clearz jcX7_clearz ftX7_clear_ok (gcX7_clearz hD) wcX7_clearz ecX7_clearz
def qcX7_init_rz : zQ := ((2, 4), ([(2, 1, 0)], ([(0, 0, 0)], [], [], []), ([], [], [], [(1, 7, [(3, 0, 0), (3, 0, 0), (0, 0, 0), (0, 0, 0), (0, 0, 0)])], [], [])), [(none, ([(0, 0, 0)], [], [], []), ([(1, 32), (2, 45), (3, 46)], [(1, 7, 0, (2, 2, 0)), (1, 7, 1, (2, 3, 0)), (1, 7, 2, (0, 0, 0)), (1, 7, 3, (0, 0, 0))], [(2, 45, (0, 0, 0), (0, 0, 0)), (2, 45, (0, 0, 1), (0, 0, 1)), (2, 45, (0, 0, 2), (0, 0, 2)), (2, 45, (0, 0, 3), (0, 0, 3)), (2, 45, (0, 0, 4), (0, 0, 4)), (2, 45, (0, 0, 5), (0, 0, 5)), (2, 45, (0, 0, 6), (0, 0, 6)), (2, 45, (0, 0, 7), (0, 0, 7)), (2, 45, (0, 0, 8), (0, 0, 8)), (2, 45, (0, 0, 9), (0, 0, 9)), (2, 45, (0, 0, 10), (0, 0, 10)), (2, 45, (0, 0, 11), (0, 0, 11)), (2, 45, (0, 0, 12), (0, 0, 12)), (2, 45, (0, 0, 13), (0, 0, 13)), (2, 45, (0, 0, 14), (0, 0, 14)), (2, 45, (0, 0, 15), (0, 0, 15)), (2, 45, (0, 0, 16), (0, 0, 16)), (2, 45, (0, 0, 17), (0, 0, 17)), (2, 45, (0, 0, 18), (0, 0, 18)), (2, 45, (0, 0, 19), (0, 0, 19)), (2, 45, (0, 0, 20), (0, 0, 20)), (2, 45, (0, 0, 21), (0, 0, 21)), (2, 45, (0, 0, 22), (0, 0, 22)), (2, 45, (0, 0, 23), (0, 0, 23)), (2, 45, (0, 0, 24), (0, 0, 24)), (2, 45, (0, 0, 25), (0, 0, 25)), (2, 45, (0, 0, 26), (0, 0, 26))], [], [], []))], ([(32, 2), (32, 3), (32, 4)], [45, 46]), (2, 54))
def mcX7_init_rz : zM := (yX7_init, cX7_init, 1, none, { frames := 2, cells := 2, slots := 54, locals := 33 }, qcX7_init_rz)
def hcX7_init_rz : zH := ([], [(21, [(1, 32)])], [], [(7, 45), (15, 46)], ([], 0, 0), 1)
theorem jcX7_init_rz : zk_txok RX7 hcX7_init_rz.2.2.2.2.1 := zk_txb_ok (p := (0, 0)) (by decide +kernel)
def xcX7_init_rz : List zX := [(19, 2, 7, mcX7_clearz)]
theorem wcX7_init_rz : zk_hwsb zcl RX7 mcX7_init_rz.rm xcX7_init_rz [(179, 78, 176, 177, 178)] = true := by decide +kernel
theorem icX7_init_rz : zk_idb zcl RX7 7 true mcX7_init_rz = true := by decide +kernel
theorem ecX7_init_rz : zk_run zcl zft zTT1 zPF1 zPB1 zk_noSU zLX7 7 true mcX7_init_rz ftX7_init hcX7_init_rz zULf0 xcX7_init_rz 15 = true := by decide +kernel
theorem gcX7_init_rz {D : zD} {l : Launch} (hD : zWD1 D) : zCs D l xcX7_init_rz := ⟨tcX7_clearz hD, trivial⟩
theorem tcX7_init_rz {D : zD} {l : Launch} (hD : zWD1 D) : zC D l mcX7_init_rz := zk_methC1 hD poolX7 icX7_init_rz jcX7_init_rz ftX7_init_ok (gcX7_init_rz hD) wcX7_init_rz ecX7_init_rz
def ftX8_init : List (Nat × List (Nat × Instr × Nat)) := [(14, [(0, .aload_n 0, 1), (1, .invokespecial 3, 3), (4, .aload_n 0, 1), (5, .sipush 1200, 3), (8, .newarray .byte, 2), (10, .putfield 9, 3), (13, .return_, 1)])]
theorem ftX8_init_ok : zk_ftb cX8_init ftX8_init = true := by decide +kernel
def qcX8_init_rz : zQ := ((2, 3), ([(2, 1, 0)], ([(0, 0, 0)], [], [], []), ([], [], [], [(1, 8, [(3, 0, 0), (0, 0, 0), (0, 0, 0), (0, 0, 0), (0, 0, 0), (0, 0, 0), (1, 0, 0), (0, 0, 0)])], [], [])), [(none, ([(0, 0, 0)], [], [], []), ([(1, 30), (2, 44)], [(1, 8, 1, (0, 0, 0)), (1, 8, 0, (2, 2, 0))], [], [], [], []))], ([], []), (1, 1200))
def mcX8_init_rz : zM := (yX8_init, cX8_init, 1, none, { frames := 1, cells := 1, slots := 1200, locals := 24 }, qcX8_init_rz)
def hcX8_init_rz : zH := ([], [(13, [(1, 30)])], [], [(8, 44)], ([], 0, 0), 1)
theorem jcX8_init_rz : zk_txok RX8 hcX8_init_rz.2.2.2.2.1 := zk_txb_ok (p := (0, 0)) (by decide +kernel)
def xcX8_init_rz : List zX := []
theorem wcX8_init_rz : zk_hwsb zcl RX8 mcX8_init_rz.rm xcX8_init_rz [] = true := by decide +kernel
theorem icX8_init_rz : zk_idb zcl RX8 8 true mcX8_init_rz = true := by decide +kernel
theorem ecX8_init_rz : zk_run zcl zft zTT1 zPF1 zPB1 zk_noSU zLX8 8 true mcX8_init_rz ftX8_init hcX8_init_rz zULf0 xcX8_init_rz 9 = true := by decide +kernel
theorem gcX8_init_rz {D : zD} {l : Launch} (hD : zWD1 D) : zCs D l xcX8_init_rz := trivial
theorem tcX8_init_rz {D : zD} {l : Launch} (hD : zWD1 D) : zC D l mcX8_init_rz := zk_methC1 hD poolX8 icX8_init_rz jcX8_init_rz ftX8_init_ok (gcX8_init_rz hD) wcX8_init_rz ecX8_init_rz
