/-! METHODS (printed by wip/t4) -/
def qcX8_says_30_8_t8 : zQ := ((9, 9), ([(2, 1, 0), (2, 2, 0)], ([(0, 0, 0), (4, 0, 1200), (5, 0, 4), (6, 0, 1200), (7, 0, 1200), (8, (-9223372036854775808), 9223372036854775807)], [], [], []), ([(1, 30), (2, 8), (3, 44)], [(1, 8, 0, (2, 3, 0)), (1, 8, 1, (0, 4, 0)), (1, 8, 3, (0, 5, 0)), (1, 8, 4, (0, 6, 0)), (1, 8, 5, (0, 7, 0)), (1, 8, 6, (1, 8, 0))], [], [], [], [(0, []), (109, []), (356, [(2, 3, 0), (0, 4, 0), (0, 5, 0), (0, 6, 0), (0, 7, 0), (1, 8, 0)])])), [(some (0, 0, 0), ([(0, 0, 0)], [], [], []), ([], [], [], [], [], [(240, [(0, 5, 0), (1, 8, 0), (0, 0, 8)]), (109, [])])), (some (0, 0, 1), ([(0, 0, 0), (4, 5, 1200), (5, 1, 1), (6, 0, 1195), (7, 5, 5)], [], [], []), ([], [], [], [], [], [(239, [(0, 5, 0), (1, 8, 0), (0, 0, 8)]), (109, [])]))], ([], []), (0, 0))
def mcX8_says_30_8_t8 : zM := (yX8_says, cX8_says, 3, (some .boolean), { frames := 5, cells := 0, slots := 0, locals := 97 }, qcX8_says_30_8_t8)
def hcX8_says_30_8_t8 : zH := ([], [], [(0, [(9, 458, 0)]), (5, [(9, 400, 0)]), (16, [(9, 441, 0), (9, 400, 0)]), (27, [(8, 0, 0)]), (28, [(9, 440, 0)]), (35, [(9, 448, 0), (9, 449, 0), (9, 489, 0), (9, 889, 0)]), (37, [(9, 442, 0)]), (57, [(4, 0, 0)]), (63, [(9, 400, 0), (9, 485, 0), (9, 486, 0), (9, 487, 0)]), (74, [(9, 488, 0)])], [], ([], 54, 59), 1)
theorem jcX8_says_30_8_t8 : zk_txok RX8 hcX8_says_30_8_t8.2.2.2.2.1 := zk_txb_ok (p := (560, 570)) (by decide +kernel)
def xcX8_says_30_8_t8 : List zX := []
theorem wcX8_says_30_8_t8 : zk_hwsb zcl RX8 mcX8_says_30_8_t8.rm xcX8_says_30_8_t8 [] = true := by decide +kernel
theorem icX8_says_30_8_t8 : zk_idb zcl RX8 8 false mcX8_says_30_8_t8 = true := by decide +kernel
theorem ecX8_says_30_8_t8 : zk_run zcl zft zTT zPF zPB zSUf zLX8 8 false mcX8_says_30_8_t8 ftX8_says hcX8_says_30_8_t8 zULf xcX8_says_30_8_t8 112 = true := by decide +kernel
theorem gcX8_says_30_8_t8 {D : zD} {l : Launch} (hD : zWD D) : zCs D l xcX8_says_30_8_t8 := trivial
theorem tcX8_says_30_8_t8 {D : zD} {l : Launch} (hD : zWD D) : zC D l mcX8_says_30_8_t8 := zk_methC ⟨rfl, rfl⟩ hD poolX8 icX8_says_30_8_t8 jcX8_says_30_8_t8 ftX8_says_ok (gcX8_says_30_8_t8 hD) wcX8_says_30_8_t8 ecX8_says_30_8_t8
def qcX8_says_30_9_t9 : zQ := ((9, 9), ([(2, 1, 0), (2, 2, 0)], ([(0, 0, 0), (4, 0, 1200), (5, 0, 4), (6, 0, 1200), (7, 0, 1200), (8, (-9223372036854775808), 9223372036854775807)], [], [], []), ([(1, 30), (2, 9), (3, 44)], [(1, 8, 0, (2, 3, 0)), (1, 8, 1, (0, 4, 0)), (1, 8, 3, (0, 5, 0)), (1, 8, 4, (0, 6, 0)), (1, 8, 5, (0, 7, 0)), (1, 8, 6, (1, 8, 0))], [], [], [], [(0, []), (109, []), (356, [(2, 3, 0), (0, 4, 0), (0, 5, 0), (0, 6, 0), (0, 7, 0), (1, 8, 0)])])), [(some (0, 0, 0), ([(0, 0, 0)], [], [], []), ([], [], [], [], [], [(240, [(0, 5, 0), (1, 8, 0), (0, 0, 9)]), (109, [])])), (some (0, 0, 1), ([(0, 0, 0), (4, 5, 1200), (5, 1, 1), (6, 0, 1195), (7, 5, 5)], [], [], []), ([], [], [], [], [], [(239, [(0, 5, 0), (1, 8, 0), (0, 0, 9)]), (109, [])]))], ([], []), (0, 0))
def mcX8_says_30_9_t9 : zM := (yX8_says, cX8_says, 3, (some .boolean), { frames := 5, cells := 0, slots := 0, locals := 97 }, qcX8_says_30_9_t9)
def hcX8_says_30_9_t9 : zH := ([], [], [(0, [(9, 459, 0)]), (5, [(9, 400, 0)]), (16, [(9, 441, 0), (9, 400, 0)]), (27, [(8, 0, 0)]), (28, [(9, 440, 0)]), (35, [(9, 448, 0), (9, 449, 0), (9, 489, 0), (9, 889, 0)]), (37, [(9, 442, 0)]), (57, [(4, 0, 0)]), (63, [(9, 400, 0), (9, 485, 0), (9, 486, 0), (9, 487, 0)]), (74, [(9, 488, 0)])], [], ([], 54, 59), 1)
theorem jcX8_says_30_9_t9 : zk_txok RX8 hcX8_says_30_9_t9.2.2.2.2.1 := zk_txb_ok (p := (560, 570)) (by decide +kernel)
def xcX8_says_30_9_t9 : List zX := []
theorem wcX8_says_30_9_t9 : zk_hwsb zcl RX8 mcX8_says_30_9_t9.rm xcX8_says_30_9_t9 [] = true := by decide +kernel
theorem icX8_says_30_9_t9 : zk_idb zcl RX8 8 false mcX8_says_30_9_t9 = true := by decide +kernel
theorem ecX8_says_30_9_t9 : zk_run zcl zft zTT zPF zPB zSUf zLX8 8 false mcX8_says_30_9_t9 ftX8_says hcX8_says_30_9_t9 zULf xcX8_says_30_9_t9 112 = true := by decide +kernel
theorem gcX8_says_30_9_t9 {D : zD} {l : Launch} (hD : zWD D) : zCs D l xcX8_says_30_9_t9 := trivial
theorem tcX8_says_30_9_t9 {D : zD} {l : Launch} (hD : zWD D) : zC D l mcX8_says_30_9_t9 := zk_methC ⟨rfl, rfl⟩ hD poolX8 icX8_says_30_9_t9 jcX8_says_30_9_t9 ftX8_says_ok (gcX8_says_30_9_t9 hD) wcX8_says_30_9_t9 ecX8_says_30_9_t9
def qcX8_isBlank_tk : zQ := ((2, 2), ([(0, 1, 0)], ([(0, 0, 0), (1, (-128), 127)], [], [], []), ([], [], [], [], [], [(109, [])])), [(some (0, 0, 0), ([(0, 0, 0)], [], [], []), ([], [], [], [], [], [(225, [(0, 1, 0)]), (109, [])])), (some (0, 0, 1), ([(0, 0, 0), (1, 10, 32)], [], [], []), ([], [], [], [], [], [(228, [(0, 1, 0)]), (109, [])]))], ([], []), (0, 0))
def mcX8_isBlank_tk : zM := (yX8_isBlank, cX8_isBlank, 1, (some .boolean), { frames := 1, cells := 0, slots := 0, locals := 12 }, qcX8_isBlank_tk)
def hcX8_isBlank_tk : zH := ([], [], [(0, [(0, 0, 9), (0, 0, 10), (0, 0, 31), (0, 0, 32)]), (17, [(9, 401, 0), (9, 402, 0), (9, 403, 0), (9, 404, 0), (9, 405, 0)])], [], ([], 0, 0), 1)
theorem jcX8_isBlank_tk : zk_txok RX8 hcX8_isBlank_tk.2.2.2.2.1 := zk_txb_ok (p := (0, 0)) (by decide +kernel)
def xcX8_isBlank_tk : List zX := []
theorem wcX8_isBlank_tk : zk_hwsb zcl RX8 mcX8_isBlank_tk.rm xcX8_isBlank_tk [] = true := by decide +kernel
theorem icX8_isBlank_tk : zk_idb zcl RX8 8 false mcX8_isBlank_tk = true := by decide +kernel
theorem ecX8_isBlank_tk : zk_run zcl zft zTT zPF zPB zSUf zLX8 8 false mcX8_isBlank_tk ftX8_isBlank hcX8_isBlank_tk zULf xcX8_isBlank_tk 11 = true := by decide +kernel
theorem gcX8_isBlank_tk {D : zD} {l : Launch} (hD : zWD D) : zCs D l xcX8_isBlank_tk := trivial
theorem tcX8_isBlank_tk {D : zD} {l : Launch} (hD : zWD D) : zC D l mcX8_isBlank_tk := zk_methC ⟨rfl, rfl⟩ hD poolX8 icX8_isBlank_tk jcX8_isBlank_tk ftX8_isBlank_ok (gcX8_isBlank_tk hD) wcX8_isBlank_tk ecX8_isBlank_tk
def qcX8_isDigit_tk : zQ := ((2, 2), ([(0, 1, 0)], ([(0, 0, 0), (1, (-128), 127)], [], [], []), ([], [], [], [], [], [(109, [])])), [(some (0, 0, 0), ([(0, 0, 0)], [], [], []), ([], [], [], [], [], [(227, [(0, 1, 0)]), (109, [])])), (some (0, 0, 1), ([(0, 0, 0), (1, 48, 57)], [], [], []), ([], [], [], [], [], [(109, [])]))], ([], []), (0, 0))
def mcX8_isDigit_tk : zM := (yX8_isDigit, cX8_isDigit, 1, (some .boolean), { frames := 1, cells := 0, slots := 0, locals := 12 }, qcX8_isDigit_tk)
def hcX8_isDigit_tk : zH := ([], [], [(17, [(9, 408, 0), (9, 409, 0)])], [], ([], 0, 0), 1)
theorem jcX8_isDigit_tk : zk_txok RX8 hcX8_isDigit_tk.2.2.2.2.1 := zk_txb_ok (p := (0, 0)) (by decide +kernel)
def xcX8_isDigit_tk : List zX := []
theorem wcX8_isDigit_tk : zk_hwsb zcl RX8 mcX8_isDigit_tk.rm xcX8_isDigit_tk [] = true := by decide +kernel
theorem icX8_isDigit_tk : zk_idb zcl RX8 8 false mcX8_isDigit_tk = true := by decide +kernel
theorem ecX8_isDigit_tk : zk_run zcl zft zTT zPF zPB zSUf zLX8 8 false mcX8_isDigit_tk ftX8_isDigit hcX8_isDigit_tk zULf xcX8_isDigit_tk 11 = true := by decide +kernel
theorem gcX8_isDigit_tk {D : zD} {l : Launch} (hD : zWD D) : zCs D l xcX8_isDigit_tk := trivial
theorem tcX8_isDigit_tk {D : zD} {l : Launch} (hD : zWD D) : zC D l mcX8_isDigit_tk := zk_methC ⟨rfl, rfl⟩ hD poolX8 icX8_isDigit_tk jcX8_isDigit_tk ftX8_isDigit_ok (gcX8_isDigit_tk hD) wcX8_isDigit_tk ecX8_isDigit_tk
def qcX8_isSmall_tk : zQ := ((2, 2), ([(0, 1, 0)], ([(0, 0, 0), (1, (-128), 127)], [], [], []), ([], [], [], [], [], [(109, [])])), [(some (0, 0, 0), ([(0, 0, 0)], [], [], []), ([], [], [], [], [], [(226, [(0, 1, 0)]), (109, [])])), (some (0, 0, 1), ([(0, 0, 0), (1, 97, 122)], [], [], []), ([], [], [], [], [], [(109, [])]))], ([], []), (0, 0))
def mcX8_isSmall_tk : zM := (yX8_isSmall, cX8_isSmall, 1, (some .boolean), { frames := 1, cells := 0, slots := 0, locals := 12 }, qcX8_isSmall_tk)
def hcX8_isSmall_tk : zH := ([], [], [(17, [(9, 406, 0), (9, 407, 0)])], [], ([], 0, 0), 1)
theorem jcX8_isSmall_tk : zk_txok RX8 hcX8_isSmall_tk.2.2.2.2.1 := zk_txb_ok (p := (0, 0)) (by decide +kernel)
def xcX8_isSmall_tk : List zX := []
theorem wcX8_isSmall_tk : zk_hwsb zcl RX8 mcX8_isSmall_tk.rm xcX8_isSmall_tk [] = true := by decide +kernel
theorem icX8_isSmall_tk : zk_idb zcl RX8 8 false mcX8_isSmall_tk = true := by decide +kernel
theorem ecX8_isSmall_tk : zk_run zcl zft zTT zPF zPB zSUf zLX8 8 false mcX8_isSmall_tk ftX8_isSmall hcX8_isSmall_tk zULf xcX8_isSmall_tk 11 = true := by decide +kernel
theorem gcX8_isSmall_tk {D : zD} {l : Launch} (hD : zWD D) : zCs D l xcX8_isSmall_tk := trivial
theorem tcX8_isSmall_tk {D : zD} {l : Launch} (hD : zWD D) : zC D l mcX8_isSmall_tk := zk_methC ⟨rfl, rfl⟩ hD poolX8 icX8_isSmall_tk jcX8_isSmall_tk ftX8_isSmall_ok (gcX8_isSmall_tk hD) wcX8_isSmall_tk ecX8_isSmall_tk
def qcX8_takeNumber_tk : zQ := ((5, 9), ([(2, 1, 0)], ([(0, 0, 0), (3, 0, 1200), (4, 0, 1200)], [], [], []), ([(1, 30), (2, 44)], [(1, 8, 0, (2, 2, 0)), (1, 8, 1, (0, 3, 0)), (1, 8, 2, (0, 4, 0)), (1, 8, 5, (0, 0, 0)), (1, 8, 7, (0, 0, 0))], [], [], [], [(109, []), (353, [(2, 2, 0), (0, 3, 0), (0, 4, 0)])])), [(none, ([(0, 0, 0), (5, 0, 1200), (6, 2, 4), (7, 0, 1200), (8, 0, 2147483645)], [(4, 5, 0), (6, 5, 3), (7, 5, 0), (6, 3, 3), (6, 7, 2), (7, 6, 1196), (7, 3, 1199)], [], []), ([], [(1, 8, 2, (0, 5, 0)), (1, 8, 3, (0, 6, 0)), (1, 8, 5, (0, 7, 0)), (1, 8, 7, (0, 8, 0))], [], [], [], [(354, [(2, 2, 0), (0, 3, 0), (0, 6, 0), (0, 4, 0), (0, 5, 0), (0, 0, 0), (0, 8, 0)]), (109, [])]))], ([(30, 2), (30, 3), (30, 5), (30, 7)], []), (0, 0))
def mcX8_takeNumber_tk : zM := (yX8_takeNumber, cX8_takeNumber, 1, none, { frames := 2, cells := 0, slots := 0, locals := 32 }, qcX8_takeNumber_tk)
def hcX8_takeNumber_tk : zH := ([(0, [([(0, (2, 1, 0))], [], ([(0, 0, 0), (5, 1, 1200), (6, 1, 1200), (7, 0, 2147483645), (3, 1, 1200), (4, 0, 1199)], [(5, 3, 0), (6, 5, 0), (4, 5, (-1)), (4, 3, (-1))], [], []), ([(1, 30), (2, 44)], [(1, 8, 2, (0, 5, 0)), (1, 8, 5, (0, 6, 0)), (1, 8, 7, (0, 7, 0)), (1, 8, 0, (2, 2, 0)), (1, 8, 1, (0, 3, 0))], [], [], [], [(27, [(0, 0, 10), (0, 0, 0), (0, 0, 0)]), (109, []), (109, []), (347, [(2, 2, 0), (0, 3, 0), (0, 4, 0), (0, 5, 0), (0, 6, 0), (0, 7, 0)]), (353, [(2, 2, 0), (0, 3, 0), (0, 4, 0)])]), (8, ([(5, (-1))], 1200), 0, 0))])], [], [(0, [(9, 420, 0)]), (34, [(9, 744, 0)]), (41, [(8, 0, 0)]), (54, [(8, 0, 0)]), (55, [(3, 0, 0), (9, 421, 0)]), (58, [(9, 422, 0)]), (65, [(4, 0, 0)]), (81, [(9, 423, 0), (9, 424, 0)]), (98, [(9, 425, 0), (9, 426, 0)])], [], ([], 0, 0), 2401)
theorem jcX8_takeNumber_tk : zk_txok RX8 hcX8_takeNumber_tk.2.2.2.2.1 := zk_txb_ok (p := (0, 0)) (by decide +kernel)
def xcX8_takeNumber_tk : List zX := [(48, 0, 0, mcX8_isDigit_tk)]
theorem wcX8_takeNumber_tk : zk_hwsb zcl RX8 mcX8_takeNumber_tk.rm xcX8_takeNumber_tk [(550, 76, 548, 549, 0)] = true := by decide +kernel
theorem icX8_takeNumber_tk : zk_idb zcl RX8 8 false mcX8_takeNumber_tk = true := by decide +kernel
theorem ecX8_takeNumber_tk : zk_run zcl zft zTT zPF zPB zSUf zLX8 8 false mcX8_takeNumber_tk ftX8_takeNumber hcX8_takeNumber_tk zULf xcX8_takeNumber_tk 45 = true := by decide +kernel
theorem gcX8_takeNumber_tk {D : zD} {l : Launch} (hD : zWD D) : zCs D l xcX8_takeNumber_tk := ⟨tcX8_isDigit_tk hD, trivial⟩
theorem tcX8_takeNumber_tk {D : zD} {l : Launch} (hD : zWD D) : zC D l mcX8_takeNumber_tk := zk_methC ⟨rfl, rfl⟩ hD poolX8 icX8_takeNumber_tk jcX8_takeNumber_tk ftX8_takeNumber_ok (gcX8_takeNumber_tk hD) wcX8_takeNumber_tk ecX8_takeNumber_tk
