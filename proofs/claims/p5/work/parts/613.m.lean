/-! METHODS (printed by wip/t4) -/
def qcX8_says_30_11 : zQ := ((3, 3), ([(2, 1, 0), (2, 2, 0)], ([(0, 0, 0)], [], [], []), ([(1, 30), (2, 11)], [], [], [], [], [(0, [])])), [(some (0, 0, 0), ([(0, 0, 0)], [], [], []), ([], [], [], [], [], [])), (some (0, 0, 1), ([(0, 0, 0)], [], [], []), ([], [], [], [], [], []))], ([], []), (0, 0))
def mcX8_says_30_11 : zM := (yX8_says, cX8_says, 3, (some .boolean), { frames := 5, cells := 0, slots := 0, locals := 97 }, qcX8_says_30_11)
def hcX8_says_30_11 : zH := ([], [], [(57, [(4, 0, 0)])], [], ([], 54, 59), 1)
theorem jcX8_says_30_11 : zk_txok RX8 hcX8_says_30_11.2.2.2.2.1 := zk_txb_ok (p := (560, 570)) (by decide +kernel)
def xcX8_says_30_11 : List zX := []
theorem wcX8_says_30_11 : zk_hwsb zcl RX8 mcX8_says_30_11.rm xcX8_says_30_11 [] = true := by decide +kernel
theorem icX8_says_30_11 : zk_idb zcl RX8 8 false mcX8_says_30_11 = true := by decide +kernel
theorem ecX8_says_30_11 : zk_run zcl zft zTT zPF zPB zSUf zLX8 8 false mcX8_says_30_11 ftX8_says hcX8_says_30_11 zULf xcX8_says_30_11 95 = true := by decide +kernel
theorem gcX8_says_30_11 {D : zD} {l : Launch} (hD : zWD D) : zCs D l xcX8_says_30_11 := trivial
theorem tcX8_says_30_11 {D : zD} {l : Launch} (hD : zWD D) : zC D l mcX8_says_30_11 := zk_methC ⟨rfl, rfl⟩ hD poolX8 icX8_says_30_11 jcX8_says_30_11 ftX8_says_ok (gcX8_says_30_11 hD) wcX8_says_30_11 ecX8_says_30_11
def qcX8_says_30_12 : zQ := ((3, 3), ([(2, 1, 0), (2, 2, 0)], ([(0, 0, 0)], [], [], []), ([(1, 30), (2, 12)], [], [], [], [], [(0, [])])), [(some (0, 0, 0), ([(0, 0, 0)], [], [], []), ([], [], [], [], [], [])), (some (0, 0, 1), ([(0, 0, 0)], [], [], []), ([], [], [], [], [], []))], ([], []), (0, 0))
def mcX8_says_30_12 : zM := (yX8_says, cX8_says, 3, (some .boolean), { frames := 5, cells := 0, slots := 0, locals := 97 }, qcX8_says_30_12)
def hcX8_says_30_12 : zH := ([], [], [(57, [(4, 0, 0)])], [], ([], 54, 59), 1)
theorem jcX8_says_30_12 : zk_txok RX8 hcX8_says_30_12.2.2.2.2.1 := zk_txb_ok (p := (560, 570)) (by decide +kernel)
def xcX8_says_30_12 : List zX := []
theorem wcX8_says_30_12 : zk_hwsb zcl RX8 mcX8_says_30_12.rm xcX8_says_30_12 [] = true := by decide +kernel
theorem icX8_says_30_12 : zk_idb zcl RX8 8 false mcX8_says_30_12 = true := by decide +kernel
theorem ecX8_says_30_12 : zk_run zcl zft zTT zPF zPB zSUf zLX8 8 false mcX8_says_30_12 ftX8_says hcX8_says_30_12 zULf xcX8_says_30_12 112 = true := by decide +kernel
theorem gcX8_says_30_12 {D : zD} {l : Launch} (hD : zWD D) : zCs D l xcX8_says_30_12 := trivial
theorem tcX8_says_30_12 {D : zD} {l : Launch} (hD : zWD D) : zC D l mcX8_says_30_12 := zk_methC ⟨rfl, rfl⟩ hD poolX8 icX8_says_30_12 jcX8_says_30_12 ftX8_says_ok (gcX8_says_30_12 hD) wcX8_says_30_12 ecX8_says_30_12
def qcX8_says_30_13 : zQ := ((3, 3), ([(2, 1, 0), (2, 2, 0)], ([(0, 0, 0)], [], [], []), ([(1, 30), (2, 13)], [], [], [], [], [(0, [])])), [(some (0, 0, 0), ([(0, 0, 0)], [], [], []), ([], [], [], [], [], [])), (some (0, 0, 1), ([(0, 0, 0)], [], [], []), ([], [], [], [], [], []))], ([], []), (0, 0))
def mcX8_says_30_13 : zM := (yX8_says, cX8_says, 3, (some .boolean), { frames := 5, cells := 0, slots := 0, locals := 97 }, qcX8_says_30_13)
def hcX8_says_30_13 : zH := ([], [], [(57, [(4, 0, 0)])], [], ([], 54, 59), 1)
theorem jcX8_says_30_13 : zk_txok RX8 hcX8_says_30_13.2.2.2.2.1 := zk_txb_ok (p := (560, 570)) (by decide +kernel)
def xcX8_says_30_13 : List zX := []
theorem wcX8_says_30_13 : zk_hwsb zcl RX8 mcX8_says_30_13.rm xcX8_says_30_13 [] = true := by decide +kernel
theorem icX8_says_30_13 : zk_idb zcl RX8 8 false mcX8_says_30_13 = true := by decide +kernel
theorem ecX8_says_30_13 : zk_run zcl zft zTT zPF zPB zSUf zLX8 8 false mcX8_says_30_13 ftX8_says hcX8_says_30_13 zULf xcX8_says_30_13 95 = true := by decide +kernel
theorem gcX8_says_30_13 {D : zD} {l : Launch} (hD : zWD D) : zCs D l xcX8_says_30_13 := trivial
theorem tcX8_says_30_13 {D : zD} {l : Launch} (hD : zWD D) : zC D l mcX8_says_30_13 := zk_methC ⟨rfl, rfl⟩ hD poolX8 icX8_says_30_13 jcX8_says_30_13 ftX8_says_ok (gcX8_says_30_13 hD) wcX8_says_30_13 ecX8_says_30_13
def qcX8_says_30_6 : zQ := ((3, 3), ([(2, 1, 0), (2, 2, 0)], ([(0, 0, 0)], [], [], []), ([(1, 30), (2, 6)], [], [], [], [], [(0, [])])), [(some (0, 0, 0), ([(0, 0, 0)], [], [], []), ([], [], [], [], [], [])), (some (0, 0, 1), ([(0, 0, 0)], [], [], []), ([], [], [], [], [], []))], ([], []), (0, 0))
def mcX8_says_30_6 : zM := (yX8_says, cX8_says, 3, (some .boolean), { frames := 5, cells := 0, slots := 0, locals := 97 }, qcX8_says_30_6)
def hcX8_says_30_6 : zH := ([], [], [(57, [(4, 0, 0)])], [], ([], 54, 59), 1)
theorem jcX8_says_30_6 : zk_txok RX8 hcX8_says_30_6.2.2.2.2.1 := zk_txb_ok (p := (560, 570)) (by decide +kernel)
def xcX8_says_30_6 : List zX := []
theorem wcX8_says_30_6 : zk_hwsb zcl RX8 mcX8_says_30_6.rm xcX8_says_30_6 [] = true := by decide +kernel
theorem icX8_says_30_6 : zk_idb zcl RX8 8 false mcX8_says_30_6 = true := by decide +kernel
theorem ecX8_says_30_6 : zk_run zcl zft zTT zPF zPB zSUf zLX8 8 false mcX8_says_30_6 ftX8_says hcX8_says_30_6 zULf xcX8_says_30_6 112 = true := by decide +kernel
theorem gcX8_says_30_6 {D : zD} {l : Launch} (hD : zWD D) : zCs D l xcX8_says_30_6 := trivial
theorem tcX8_says_30_6 {D : zD} {l : Launch} (hD : zWD D) : zC D l mcX8_says_30_6 := zk_methC ⟨rfl, rfl⟩ hD poolX8 icX8_says_30_6 jcX8_says_30_6 ftX8_says_ok (gcX8_says_30_6 hD) wcX8_says_30_6 ecX8_says_30_6
