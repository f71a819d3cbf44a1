/-! METHODS (printed by wip/t6) -/
def qcX10_add_ta_k1 : zQ := ((12, 12), ([(2, 1, 0), (0, 0, 1), (0, 2, 0), (0, 3, 0), (0, 4, 0)], ([(0, 0, 0), (2, 0, 5), (3, 0, 7), (4, 0, 60), (7, 0, 29)], [], [], []), ([(1, 33), (5, 56), (6, 57)], [(1, 10, 4, (2, 5, 0)), (1, 10, 5, (2, 6, 0)), (1, 10, 6, (0, 7, 0))], [], [], [], [(109, []), (100, []), (370, [(0, 8, 0), (0, 9, 0), (2, 5, 0), (2, 6, 0), (0, 0, 5), (0, 10, 0), (0, 11, 0), (0, 0, 1), (0, 2, 0), (0, 3, 0)])])), [(none, ([(0, 0, 0)], [], [], []), ([], [(1, 10, 6, (0, 7, 1))], [], [], [], [(372, [(0, 8, 0), (0, 9, 0), (2, 5, 0), (2, 6, 0), (0, 0, 5), (0, 10, 0), (0, 11, 0), (0, 0, 1), (0, 2, 0), (0, 3, 0)]), (109, []), (100, [])]))], ([(33, 6)], [52, 53, 54, 55, 56, 57]), (0, 0))
def mcX10_add_ta_k1 : zM := (yX10_add, cX10_add, 7, none, { frames := 2, cells := 0, slots := 0, locals := 33 }, qcX10_add_ta_k1)
def hcX10_add_ta_k1 : zH := ([], [], [(85, [(9, 400, 0)]), (101, [(9, 400, 0)]), (135, [(9, 523, 0), (9, 524, 0)])], [], ([], 0, 0), 1)
theorem jcX10_add_ta_k1 : zk_txok RX10 hcX10_add_ta_k1.2.2.2.2.1 := zk_txb_ok (p := (0, 0)) (by decide +kernel)
def xcX10_add_ta_k1 : List zX := [(35, 0, 0, mcX10_placeOf_k0), (35, 0, 0, mcX10_placeOf_k1)]
theorem wcX10_add_ta_k1 : zk_hwsb zcl RX10 mcX10_add_ta_k1.rm xcX10_add_ta_k1 [(766, 80, 764, 765, 0), (766, 80, 764, 765, 0)] = true := by decide +kernel
theorem icX10_add_ta_k1 : zk_idb zcl RX10 10 false mcX10_add_ta_k1 = true := by decide +kernel
theorem ecX10_add_ta_k1 : zk_run zcl zft zTT zPF zPB zSUf zLX10 10 false mcX10_add_ta_k1 ftX10_add hcX10_add_ta_k1 zULf xcX10_add_ta_k1 68 = true := by decide +kernel
theorem gcX10_add_ta_k1 {D : zD} {l : Launch} (hD : zWD D) : zCs D l xcX10_add_ta_k1 := ⟨tcX10_placeOf_k0 hD, tcX10_placeOf_k1 hD, trivial⟩
theorem tcX10_add_ta_k1 {D : zD} {l : Launch} (hD : zWD D) : zC D l mcX10_add_ta_k1 := zk_methC ⟨rfl, rfl⟩ hD poolX10 icX10_add_ta_k1 jcX10_add_ta_k1 ftX10_add_ok (gcX10_add_ta_k1 hD) wcX10_add_ta_k1 ecX10_add_ta_k1
def qcX10_add_tb_k0 : zQ := ((12, 12), ([(2, 1, 0), (0, 0, 0), (0, 2, 0), (0, 3, 0), (0, 4, 0)], ([(0, 0, 0), (2, 6, 7), (3, 0, 7), (4, 0, 7), (7, 0, 29)], [], [], []), ([(1, 33), (5, 56), (6, 57)], [(1, 10, 4, (2, 5, 0)), (1, 10, 5, (2, 6, 0)), (1, 10, 6, (0, 7, 0))], [], [], [], [(109, []), (100, []), (370, [(0, 8, 0), (0, 9, 0), (2, 5, 0), (2, 6, 0), (0, 0, 5), (0, 10, 0), (0, 11, 0), (0, 0, 0), (0, 2, 0), (0, 3, 0)])])), [(none, ([(0, 0, 0)], [], [], []), ([], [(1, 10, 6, (0, 7, 1))], [], [], [], [(372, [(0, 8, 0), (0, 9, 0), (2, 5, 0), (2, 6, 0), (0, 0, 5), (0, 10, 0), (0, 11, 0), (0, 0, 0), (0, 2, 0), (0, 3, 0)]), (109, []), (100, [])]))], ([(33, 6)], [52, 53, 54, 55]), (0, 0))
def mcX10_add_tb_k0 : zM := (yX10_add, cX10_add, 7, none, { frames := 2, cells := 0, slots := 0, locals := 33 }, qcX10_add_tb_k0)
def hcX10_add_tb_k0 : zH := ([], [], [(85, [(9, 400, 0)]), (101, [(9, 400, 0)]), (135, [(9, 523, 0), (9, 524, 0)])], [], ([], 0, 0), 1)
theorem jcX10_add_tb_k0 : zk_txok RX10 hcX10_add_tb_k0.2.2.2.2.1 := zk_txb_ok (p := (0, 0)) (by decide +kernel)
def xcX10_add_tb_k0 : List zX := [(35, 0, 0, mcX10_placeOf_k0)]
theorem wcX10_add_tb_k0 : zk_hwsb zcl RX10 mcX10_add_tb_k0.rm xcX10_add_tb_k0 [(766, 80, 764, 765, 0)] = true := by decide +kernel
theorem icX10_add_tb_k0 : zk_idb zcl RX10 10 false mcX10_add_tb_k0 = true := by decide +kernel
theorem ecX10_add_tb_k0 : zk_run zcl zft zTT zPF zPB zSUf zLX10 10 false mcX10_add_tb_k0 ftX10_add hcX10_add_tb_k0 zULf xcX10_add_tb_k0 49 = true := by decide +kernel
theorem gcX10_add_tb_k0 {D : zD} {l : Launch} (hD : zWD D) : zCs D l xcX10_add_tb_k0 := ⟨tcX10_placeOf_k0 hD, trivial⟩
theorem tcX10_add_tb_k0 {D : zD} {l : Launch} (hD : zWD D) : zC D l mcX10_add_tb_k0 := zk_methC ⟨rfl, rfl⟩ hD poolX10 icX10_add_tb_k0 jcX10_add_tb_k0 ftX10_add_ok (gcX10_add_tb_k0 hD) wcX10_add_tb_k0 ecX10_add_tb_k0
def qcX10_add_tb_k1 : zQ := ((12, 12), ([(2, 1, 0), (0, 0, 1), (0, 2, 0), (0, 3, 0), (0, 4, 0)], ([(0, 0, 0), (2, 6, 7), (3, 0, 7), (4, 0, 7), (7, 0, 29)], [], [], []), ([(1, 33), (5, 56), (6, 57)], [(1, 10, 4, (2, 5, 0)), (1, 10, 5, (2, 6, 0)), (1, 10, 6, (0, 7, 0))], [], [], [], [(109, []), (100, []), (370, [(0, 8, 0), (0, 9, 0), (2, 5, 0), (2, 6, 0), (0, 0, 5), (0, 10, 0), (0, 11, 0), (0, 0, 1), (0, 2, 0), (0, 3, 0)])])), [(none, ([(0, 0, 0)], [], [], []), ([], [(1, 10, 6, (0, 7, 1))], [], [], [], [(372, [(0, 8, 0), (0, 9, 0), (2, 5, 0), (2, 6, 0), (0, 0, 5), (0, 10, 0), (0, 11, 0), (0, 0, 1), (0, 2, 0), (0, 3, 0)]), (109, []), (100, [])]))], ([(33, 6)], [52, 53, 54, 55]), (0, 0))
def mcX10_add_tb_k1 : zM := (yX10_add, cX10_add, 7, none, { frames := 2, cells := 0, slots := 0, locals := 33 }, qcX10_add_tb_k1)
def hcX10_add_tb_k1 : zH := ([], [], [(85, [(9, 400, 0)]), (101, [(9, 400, 0)]), (135, [(9, 523, 0), (9, 524, 0)])], [], ([], 0, 0), 1)
theorem jcX10_add_tb_k1 : zk_txok RX10 hcX10_add_tb_k1.2.2.2.2.1 := zk_txb_ok (p := (0, 0)) (by decide +kernel)
def xcX10_add_tb_k1 : List zX := [(35, 0, 0, mcX10_placeOf_k1)]
theorem wcX10_add_tb_k1 : zk_hwsb zcl RX10 mcX10_add_tb_k1.rm xcX10_add_tb_k1 [(766, 80, 764, 765, 0)] = true := by decide +kernel
theorem icX10_add_tb_k1 : zk_idb zcl RX10 10 false mcX10_add_tb_k1 = true := by decide +kernel
theorem ecX10_add_tb_k1 : zk_run zcl zft zTT zPF zPB zSUf zLX10 10 false mcX10_add_tb_k1 ftX10_add hcX10_add_tb_k1 zULf xcX10_add_tb_k1 49 = true := by decide +kernel
theorem gcX10_add_tb_k1 {D : zD} {l : Launch} (hD : zWD D) : zCs D l xcX10_add_tb_k1 := ⟨tcX10_placeOf_k1 hD, trivial⟩
theorem tcX10_add_tb_k1 {D : zD} {l : Launch} (hD : zWD D) : zC D l mcX10_add_tb_k1 := zk_methC ⟨rfl, rfl⟩ hD poolX10 icX10_add_tb_k1 jcX10_add_tb_k1 ftX10_add_ok (gcX10_add_tb_k1 hD) wcX10_add_tb_k1 ecX10_add_tb_k1
def qcX8_says_30_10_t10 : zQ := ((9, 9), ([(2, 1, 0), (2, 2, 0)], ([(0, 0, 0), (4, 0, 1200), (5, 0, 4), (6, 0, 1200), (7, 0, 1200), (8, (-9223372036854775808), 9223372036854775807)], [], [], []), ([(1, 30), (2, 10), (3, 44)], [(1, 8, 0, (2, 3, 0)), (1, 8, 1, (0, 4, 0)), (1, 8, 3, (0, 5, 0)), (1, 8, 4, (0, 6, 0)), (1, 8, 5, (0, 7, 0)), (1, 8, 6, (1, 8, 0))], [], [], [], [(0, []), (109, []), (356, [(2, 3, 0), (0, 4, 0), (0, 5, 0), (0, 6, 0), (0, 7, 0), (1, 8, 0)])])), [(some (0, 0, 0), ([(0, 0, 0)], [], [], []), ([], [], [], [], [], [(240, [(0, 5, 0), (1, 8, 0), (0, 0, 10)]), (109, [])])), (some (0, 0, 1), ([(0, 0, 0), (4, 6, 1200), (5, 1, 1), (6, 0, 1194), (7, 6, 6)], [], [], []), ([], [], [], [], [], [(239, [(0, 5, 0), (1, 8, 0), (0, 0, 10)]), (109, [])]))], ([], []), (0, 0))
def mcX8_says_30_10_t10 : zM := (yX8_says, cX8_says, 3, (some .boolean), { frames := 5, cells := 0, slots := 0, locals := 97 }, qcX8_says_30_10_t10)
def hcX8_says_30_10_t10 : zH := ([], [], [(0, [(9, 460, 0)]), (5, [(9, 400, 0)]), (16, [(9, 441, 0), (9, 400, 0)]), (27, [(8, 0, 0)]), (28, [(9, 440, 0)]), (35, [(9, 448, 0), (9, 449, 0), (9, 489, 0), (9, 889, 0)]), (37, [(9, 442, 0)]), (57, [(4, 0, 0)]), (63, [(9, 400, 0), (9, 485, 0), (9, 486, 0), (9, 487, 0)]), (74, [(9, 488, 0)])], [], ([], 54, 59), 1)
theorem jcX8_says_30_10_t10 : zk_txok RX8 hcX8_says_30_10_t10.2.2.2.2.1 := zk_txb_ok (p := (560, 570)) (by decide +kernel)
def xcX8_says_30_10_t10 : List zX := []
theorem wcX8_says_30_10_t10 : zk_hwsb zcl RX8 mcX8_says_30_10_t10.rm xcX8_says_30_10_t10 [] = true := by decide +kernel
theorem icX8_says_30_10_t10 : zk_idb zcl RX8 8 false mcX8_says_30_10_t10 = true := by decide +kernel
theorem ecX8_says_30_10_t10 : zk_run zcl zft zTT zPF zPB zSUf zLX8 8 false mcX8_says_30_10_t10 ftX8_says hcX8_says_30_10_t10 zULf xcX8_says_30_10_t10 129 = true := by decide +kernel
theorem gcX8_says_30_10_t10 {D : zD} {l : Launch} (hD : zWD D) : zCs D l xcX8_says_30_10_t10 := trivial
theorem tcX8_says_30_10_t10 {D : zD} {l : Launch} (hD : zWD D) : zC D l mcX8_says_30_10_t10 := zk_methC ⟨rfl, rfl⟩ hD poolX8 icX8_says_30_10_t10 jcX8_says_30_10_t10 ftX8_says_ok (gcX8_says_30_10_t10 hD) wcX8_says_30_10_t10 ecX8_says_30_10_t10
def qcX8_says_30_11_t11 : zQ := ((9, 9), ([(2, 1, 0), (2, 2, 0)], ([(0, 0, 0), (4, 0, 1200), (5, 0, 4), (6, 0, 1200), (7, 0, 1200), (8, (-9223372036854775808), 9223372036854775807)], [], [], []), ([(1, 30), (2, 11), (3, 44)], [(1, 8, 0, (2, 3, 0)), (1, 8, 1, (0, 4, 0)), (1, 8, 3, (0, 5, 0)), (1, 8, 4, (0, 6, 0)), (1, 8, 5, (0, 7, 0)), (1, 8, 6, (1, 8, 0))], [], [], [], [(0, []), (109, []), (356, [(2, 3, 0), (0, 4, 0), (0, 5, 0), (0, 6, 0), (0, 7, 0), (1, 8, 0)])])), [(some (0, 0, 0), ([(0, 0, 0)], [], [], []), ([], [], [], [], [], [(240, [(0, 5, 0), (1, 8, 0), (0, 0, 11)]), (109, [])])), (some (0, 0, 1), ([(0, 0, 0), (4, 4, 1200), (5, 1, 1), (6, 0, 1196), (7, 4, 4)], [], [], []), ([], [], [], [], [], [(239, [(0, 5, 0), (1, 8, 0), (0, 0, 11)]), (109, [])]))], ([], []), (0, 0))
def mcX8_says_30_11_t11 : zM := (yX8_says, cX8_says, 3, (some .boolean), { frames := 5, cells := 0, slots := 0, locals := 97 }, qcX8_says_30_11_t11)
def hcX8_says_30_11_t11 : zH := ([], [], [(0, [(9, 461, 0)]), (5, [(9, 400, 0)]), (16, [(9, 441, 0), (9, 400, 0)]), (27, [(8, 0, 0)]), (28, [(9, 440, 0)]), (35, [(9, 448, 0), (9, 449, 0), (9, 489, 0), (9, 889, 0)]), (37, [(9, 442, 0)]), (57, [(4, 0, 0)]), (63, [(9, 400, 0), (9, 485, 0), (9, 486, 0), (9, 487, 0)]), (74, [(9, 488, 0)])], [], ([], 54, 59), 1)
theorem jcX8_says_30_11_t11 : zk_txok RX8 hcX8_says_30_11_t11.2.2.2.2.1 := zk_txb_ok (p := (560, 570)) (by decide +kernel)
def xcX8_says_30_11_t11 : List zX := []
theorem wcX8_says_30_11_t11 : zk_hwsb zcl RX8 mcX8_says_30_11_t11.rm xcX8_says_30_11_t11 [] = true := by decide +kernel
theorem icX8_says_30_11_t11 : zk_idb zcl RX8 8 false mcX8_says_30_11_t11 = true := by decide +kernel
theorem ecX8_says_30_11_t11 : zk_run zcl zft zTT zPF zPB zSUf zLX8 8 false mcX8_says_30_11_t11 ftX8_says hcX8_says_30_11_t11 zULf xcX8_says_30_11_t11 95 = true := by decide +kernel
theorem gcX8_says_30_11_t11 {D : zD} {l : Launch} (hD : zWD D) : zCs D l xcX8_says_30_11_t11 := trivial
theorem tcX8_says_30_11_t11 {D : zD} {l : Launch} (hD : zWD D) : zC D l mcX8_says_30_11_t11 := zk_methC ⟨rfl, rfl⟩ hD poolX8 icX8_says_30_11_t11 jcX8_says_30_11_t11 ftX8_says_ok (gcX8_says_30_11_t11 hD) wcX8_says_30_11_t11 ecX8_says_30_11_t11
