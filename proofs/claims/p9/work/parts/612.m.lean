/-! METHODS (printed by wip/t4) -/
def qcX10_add_b_k1 : zQ := ((5, 5), ([(2, 1, 0), (0, 0, 1), (0, 2, 0), (0, 3, 0), (0, 4, 0)], ([(0, 0, 0), (2, 0, 7), (3, 0, 7), (4, 0, 7)], [], [], []), ([(1, 33)], [], [], [], [], [(100, [])])), [(none, ([(0, 0, 0)], [], [], []), ([], [], [], [], [], [(100, [])]))], ([(33, 6)], [52, 53, 54, 55, 56, 57]), (0, 0))
def mcX10_add_b_k1 : zM := (yX10_add, cX10_add, 7, none, { frames := 2, cells := 0, slots := 0, locals := 33 }, qcX10_add_b_k1)
def hcX10_add_b_k1 : zH := ([], [], [], [], ([], 0, 0), 1)
theorem jcX10_add_b_k1 : zk_txok RX10 hcX10_add_b_k1.2.2.2.2.1 := zk_txb_ok (p := (0, 0)) (by decide +kernel)
def xcX10_add_b_k1 : List zX := [(35, 0, 0, mcX10_placeOf_k0), (35, 0, 0, mcX10_placeOf_k1)]
theorem wcX10_add_b_k1 : zk_hwsb zcl RX10 mcX10_add_b_k1.rm xcX10_add_b_k1 [(766, 80, 764, 765, 0), (766, 80, 764, 765, 0)] = true := by decide +kernel
theorem icX10_add_b_k1 : zk_idb zcl RX10 10 false mcX10_add_b_k1 = true := by decide +kernel
theorem ecX10_add_b_k1 : zk_run zcl zft zTT zPF zPB zSUf zLX10 10 false mcX10_add_b_k1 ftX10_add hcX10_add_b_k1 zULf xcX10_add_b_k1 68 = true := by decide +kernel
theorem gcX10_add_b_k1 {D : zD} {l : Launch} (hD : zWD D) : zCs D l xcX10_add_b_k1 := ⟨tcX10_placeOf_k0 hD, tcX10_placeOf_k1 hD, trivial⟩
theorem tcX10_add_b_k1 {D : zD} {l : Launch} (hD : zWD D) : zC D l mcX10_add_b_k1 := zk_methC ⟨rfl, rfl⟩ hD poolX10 icX10_add_b_k1 jcX10_add_b_k1 ftX10_add_ok (gcX10_add_b_k1 hD) wcX10_add_b_k1 ecX10_add_b_k1
def qcX8_says_30_10 : zQ := ((3, 3), ([(2, 1, 0), (2, 2, 0)], ([(0, 0, 0)], [], [], []), ([(1, 30), (2, 10)], [], [], [], [], [(0, [])])), [(some (0, 0, 0), ([(0, 0, 0)], [], [], []), ([], [], [], [], [], [])), (some (0, 0, 1), ([(0, 0, 0)], [], [], []), ([], [], [], [], [], []))], ([], []), (0, 0))
def mcX8_says_30_10 : zM := (yX8_says, cX8_says, 3, (some .boolean), { frames := 5, cells := 0, slots := 0, locals := 97 }, qcX8_says_30_10)
def hcX8_says_30_10 : zH := ([], [], [(57, [(4, 0, 0)])], [], ([], 54, 59), 1)
theorem jcX8_says_30_10 : zk_txok RX8 hcX8_says_30_10.2.2.2.2.1 := zk_txb_ok (p := (560, 570)) (by decide +kernel)
def xcX8_says_30_10 : List zX := []
theorem wcX8_says_30_10 : zk_hwsb zcl RX8 mcX8_says_30_10.rm xcX8_says_30_10 [] = true := by decide +kernel
theorem icX8_says_30_10 : zk_idb zcl RX8 8 false mcX8_says_30_10 = true := by decide +kernel
theorem ecX8_says_30_10 : zk_run zcl zft zTT zPF zPB zSUf zLX8 8 false mcX8_says_30_10 ftX8_says hcX8_says_30_10 zULf xcX8_says_30_10 129 = true := by decide +kernel
theorem gcX8_says_30_10 {D : zD} {l : Launch} (hD : zWD D) : zCs D l xcX8_says_30_10 := trivial
theorem tcX8_says_30_10 {D : zD} {l : Launch} (hD : zWD D) : zC D l mcX8_says_30_10 := zk_methC ⟨rfl, rfl⟩ hD poolX8 icX8_says_30_10 jcX8_says_30_10 ftX8_says_ok (gcX8_says_30_10 hD) wcX8_says_30_10 ecX8_says_30_10
def qcX8_says_30_11 : zQ := ((3, 3), ([(2, 1, 0), (2, 2, 0)], ([(0, 0, 0)], [], [], []), ([(1, 30), (2, 11)], [], [], [], [], [(0, [])])), [(some (0, 0, 0), ([(0, 0, 0)], [], [], []), ([], [], [], [], [], [])), (some (0, 0, 1), ([(0, 0, 0)], [], [], []), ([], [], [], [], [], []))], ([], []), (0, 0))
def mcX8_says_30_11 : zM := (yX8_says, cX8_says, 3, (some .boolean), { frames := 5, cells := 0, slots := 0, locals := 97 }, qcX8_says_30_11)
def hcX8_says_30_11 : zH := ([], [], [(57, [(4, 0, 0)])], [], ([], 54, 59), 1)
theorem jcX8_says_30_11 : zk_txok RX8 hcX8_says_30_11.2.2.2.2.1 := zk_txb_ok (p := (560, 570)) (by decide +kernel)
def xcX8_says_30_11 : List zX := []
theorem wcX8_says_30_11 : zk_hwsb zcl RX8 mcX8_says_30_11.rm xcX8_says_30_11 [] = true := by decide +kernel
theorem icX8_says_30_11 : zk_idb zcl RX8 8 false mcX8_says_30_11 = true := by decide +kernel
theorem ecX8_says_30_11 : zk_run zcl zft zTT zPF zPB zSUf zLX8 8 false mcX8_says_30_11 ftX8_says hcX8_says_30_11 zULf xcX8_says_30_11 95 = true := by decide +kernel
theorem gcX8_says_30_11 {D : zD} {l : Launch} (hD : zWD D) : zCs D l xcX8_says_30_11 := trivial
theorem tcX8_says_30_11 {D : zD} {l : Launch} (hD : zWD D) : zC D l mcX8_says_30_11 := zk_methC ⟨rfl, rfl⟩ hD poolX8 icX8_says_30_11 jcX8_says_30_11 ftX8_says_ok (gcX8_says_30_11 hD) wcX8_says_30_11 ecX8_says_30_11
def qcX8_says_30_12 : zQ := ((3, 3), ([(2, 1, 0), (2, 2, 0)], ([(0, 0, 0)], [], [], []), ([(1, 30), (2, 12)], [], [], [], [], [(0, [])])), [(some (0, 0, 0), ([(0, 0, 0)], [], [], []), ([], [], [], [], [], [])), (some (0, 0, 1), ([(0, 0, 0)], [], [], []), ([], [], [], [], [], []))], ([], []), (0, 0))
def mcX8_says_30_12 : zM := (yX8_says, cX8_says, 3, (some .boolean), { frames := 5, cells := 0, slots := 0, locals := 97 }, qcX8_says_30_12)
def hcX8_says_30_12 : zH := ([], [], [(57, [(4, 0, 0)])], [], ([], 54, 59), 1)
theorem jcX8_says_30_12 : zk_txok RX8 hcX8_says_30_12.2.2.2.2.1 := zk_txb_ok (p := (560, 570)) (by decide +kernel)
def xcX8_says_30_12 : List zX := []
theorem wcX8_says_30_12 : zk_hwsb zcl RX8 mcX8_says_30_12.rm xcX8_says_30_12 [] = true := by decide +kernel
theorem icX8_says_30_12 : zk_idb zcl RX8 8 false mcX8_says_30_12 = true := by decide +kernel
theorem ecX8_says_30_12 : zk_run zcl zft zTT zPF zPB zSUf zLX8 8 false mcX8_says_30_12 ftX8_says hcX8_says_30_12 zULf xcX8_says_30_12 112 = true := by decide +kernel
theorem gcX8_says_30_12 {D : zD} {l : Launch} (hD : zWD D) : zCs D l xcX8_says_30_12 := trivial
theorem tcX8_says_30_12 {D : zD} {l : Launch} (hD : zWD D) : zC D l mcX8_says_30_12 := zk_methC ⟨rfl, rfl⟩ hD poolX8 icX8_says_30_12 jcX8_says_30_12 ftX8_says_ok (gcX8_says_30_12 hD) wcX8_says_30_12 ecX8_says_30_12
