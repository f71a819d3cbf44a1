/-! METHODS (printed by wip/t6) -/
def qcX8_isSmall : zQ := ((2, 2), ([(0, 1, 0)], ([(0, 0, 0), (1, (-128), 127)], [], [], []), ([], [], [], [], [], [])), [(some (0, 0, 0), ([(0, 0, 0)], [], [], []), ([], [], [], [], [], [])), (some (0, 0, 1), ([(0, 0, 0), (1, 97, 122)], [], [], []), ([], [], [], [], [], []))], ([], []), (0, 0))
def mcX8_isSmall : zM := (yX8_isSmall, cX8_isSmall, 1, (some .boolean), { frames := 1, cells := 0, slots := 0, locals := 12 }, qcX8_isSmall)
def hcX8_isSmall : zH := ([], [], [], [], ([], 0, 0), 1)
theorem jcX8_isSmall : zk_txok RX8 hcX8_isSmall.2.2.2.2.1 := zk_txb_ok (p := (0, 0)) (by decide +kernel)
def xcX8_isSmall : List zX := []
theorem wcX8_isSmall : zk_hwsb zcl RX8 mcX8_isSmall.rm xcX8_isSmall [] = true := by decide +kernel
theorem icX8_isSmall : zk_idb zcl RX8 8 false mcX8_isSmall = true := by decide +kernel
theorem ecX8_isSmall : zk_run zcl zft zTT zPF zPB zSUf zLX8 8 false mcX8_isSmall ftX8_isSmall hcX8_isSmall zULf xcX8_isSmall 11 = true := by decide +kernel
theorem gcX8_isSmall {D : zD} {l : Launch} (hD : zWD D) : zCs D l xcX8_isSmall := trivial
theorem tcX8_isSmall {D : zD} {l : Launch} (hD : zWD D) : zC D l mcX8_isSmall := zk_methC ⟨rfl, rfl⟩ hD poolX8 icX8_isSmall jcX8_isSmall ftX8_isSmall_ok (gcX8_isSmall hD) wcX8_isSmall ecX8_isSmall
def qcX8_takeNumber : zQ := ((2, 2), ([(2, 1, 0)], ([(0, 0, 0)], [], [], []), ([(1, 30)], [(1, 8, 5, (0, 0, 0))], [], [], [], [])), [(none, ([(0, 0, 0)], [], [], []), ([], [], [], [], [], []))], ([(30, 2), (30, 3), (30, 5), (30, 7)], []), (0, 0))
def mcX8_takeNumber : zM := (yX8_takeNumber, cX8_takeNumber, 1, none, { frames := 2, cells := 0, slots := 0, locals := 32 }, qcX8_takeNumber)
def hcX8_takeNumber : zH := ([(0, [([(0, (2, 1, 0))], [], ([(0, 0, 0), (2, 1, 1200), (3, 1, 1200), (4, (-2147483648), 2147483647), (6, 1, 1200)], [(2, 6, 0), (3, 2, 0)], [], []), ([(5, 44), (1, 30)], [(1, 8, 2, (0, 2, 0)), (1, 8, 5, (0, 3, 0)), (1, 8, 7, (0, 4, 0)), (1, 8, 0, (2, 5, 0)), (1, 8, 1, (0, 6, 0))], [], [], [], []), (7, ([(2, (-1))], 1200), 0, 0))])], [], [(65, [(4, 0, 0)])], [], ([], 0, 0), 2401)
theorem jcX8_takeNumber : zk_txok RX8 hcX8_takeNumber.2.2.2.2.1 := zk_txb_ok (p := (0, 0)) (by decide +kernel)
def xcX8_takeNumber : List zX := [(48, 0, 0, mcX8_isDigit)]
theorem wcX8_takeNumber : zk_hwsb zcl RX8 mcX8_takeNumber.rm xcX8_takeNumber [(550, 76, 548, 549, 0)] = true := by decide +kernel
theorem icX8_takeNumber : zk_idb zcl RX8 8 false mcX8_takeNumber = true := by decide +kernel
theorem ecX8_takeNumber : zk_run zcl zft zTT zPF zPB zSUf zLX8 8 false mcX8_takeNumber ftX8_takeNumber hcX8_takeNumber zULf xcX8_takeNumber 45 = true := by decide +kernel
theorem gcX8_takeNumber {D : zD} {l : Launch} (hD : zWD D) : zCs D l xcX8_takeNumber := ⟨tcX8_isDigit hD, trivial⟩
theorem tcX8_takeNumber {D : zD} {l : Launch} (hD : zWD D) : zC D l mcX8_takeNumber := zk_methC ⟨rfl, rfl⟩ hD poolX8 icX8_takeNumber jcX8_takeNumber ftX8_takeNumber_ok (gcX8_takeNumber hD) wcX8_takeNumber ecX8_takeNumber
def qcX8_takeWord : zQ := ((2, 2), ([(2, 1, 0)], ([(0, 0, 0)], [], [], []), ([(1, 30)], [(1, 8, 5, (0, 0, 0))], [], [], [], [])), [(none, ([(0, 0, 0)], [], [], []), ([], [], [], [], [], []))], ([(30, 2), (30, 3), (30, 5), (30, 6)], []), (0, 0))
def mcX8_takeWord : zM := (yX8_takeWord, cX8_takeWord, 1, none, { frames := 2, cells := 0, slots := 0, locals := 32 }, qcX8_takeWord)
def hcX8_takeWord : zH := ([(0, [([(0, (2, 1, 0))], [], ([(0, 0, 0), (2, 1, 1200), (3, 1, 1200), (4, (-9223372036854775808), 9223372036854775807), (6, 1, 1200)], [(2, 6, 0), (3, 2, 0)], [], []), ([(5, 44), (1, 30)], [(1, 8, 2, (0, 2, 0)), (1, 8, 5, (0, 3, 0)), (1, 8, 6, (1, 4, 0)), (1, 8, 0, (2, 5, 0)), (1, 8, 1, (0, 6, 0))], [], [], [], []), (7, ([(2, (-1))], 1200), 0, 0))])], [], [(59, [(4, 0, 0)])], [], ([], 0, 0), 2401)
theorem jcX8_takeWord : zk_txok RX8 hcX8_takeWord.2.2.2.2.1 := zk_txb_ok (p := (0, 0)) (by decide +kernel)
def xcX8_takeWord : List zX := [(42, 0, 0, mcX8_isSmall)]
theorem wcX8_takeWord : zk_hwsb zcl RX8 mcX8_takeWord.rm xcX8_takeWord [(543, 76, 541, 542, 0)] = true := by decide +kernel
theorem icX8_takeWord : zk_idb zcl RX8 8 false mcX8_takeWord = true := by decide +kernel
theorem ecX8_takeWord : zk_run zcl zft zTT zPF zPB zSUf zLX8 8 false mcX8_takeWord ftX8_takeWord hcX8_takeWord zULf xcX8_takeWord 44 = true := by decide +kernel
theorem gcX8_takeWord {D : zD} {l : Launch} (hD : zWD D) : zCs D l xcX8_takeWord := ⟨tcX8_isSmall hD, trivial⟩
theorem tcX8_takeWord {D : zD} {l : Launch} (hD : zWD D) : zC D l mcX8_takeWord := zk_methC ⟨rfl, rfl⟩ hD poolX8 icX8_takeWord jcX8_takeWord ftX8_takeWord_ok (gcX8_takeWord hD) wcX8_takeWord ecX8_takeWord
def qcX8_step : zQ := ((2, 2), ([(2, 1, 0)], ([(0, 0, 0)], [], [], []), ([(1, 30)], [], [], [], [], [])), [(none, ([(0, 0, 0)], [], [], []), ([], [], [], [], [], []))], ([(30, 2), (30, 3), (30, 4), (30, 5), (30, 6), (30, 7)], []), (0, 0))
def mcX8_step : zM := (yX8_step, cX8_step, 1, none, { frames := 3, cells := 0, slots := 0, locals := 52 }, qcX8_step)
def hcX8_step : zH := ([(0, [([(0, (2, 1, 0))], [], ([(0, 0, 0), (2, 1, 1200), (4, 1, 1200)], [(2, 4, 0)], [], []), ([(3, 44), (1, 30)], [(1, 8, 2, (0, 2, 0)), (1, 8, 0, (2, 3, 0)), (1, 8, 1, (0, 4, 0))], [], [], [], []), (5, ([(2, (-1))], 1200), 0, 0))])], [], [], [], ([], 0, 0), 2401)
theorem jcX8_step : zk_txok RX8 hcX8_step.2.2.2.2.1 := zk_txb_ok (p := (0, 0)) (by decide +kernel)
def xcX8_step : List zX := [(22, 0, 0, mcX8_isBlank), (42, 0, 0, mcX8_isSmall), (45, 2, 8, mcX8_takeWord), (48, 0, 0, mcX8_isDigit), (51, 2, 8, mcX8_takeNumber)]
theorem wcX8_step : zk_hwsb zcl RX8 mcX8_step.rm xcX8_step [(540, 76, 538, 539, 0), (543, 76, 541, 542, 0), (547, 76, 544, 546, 1), (550, 76, 548, 549, 0), (554, 76, 551, 553, 2)] = true := by decide +kernel
theorem icX8_step : zk_idb zcl RX8 8 false mcX8_step = true := by decide +kernel
theorem ecX8_step : zk_run zcl zft zTT zPF zPB zSUf zLX8 8 false mcX8_step ftX8_step hcX8_step zULf xcX8_step 64 = true := by decide +kernel
theorem gcX8_step {D : zD} {l : Launch} (hD : zWD D) : zCs D l xcX8_step := ⟨tcX8_isBlank hD, tcX8_isSmall hD, tcX8_takeWord hD, tcX8_isDigit hD, tcX8_takeNumber hD, trivial⟩
theorem tcX8_step {D : zD} {l : Launch} (hD : zWD D) : zC D l mcX8_step := zk_methC ⟨rfl, rfl⟩ hD poolX8 icX8_step jcX8_step ftX8_step_ok (gcX8_step hD) wcX8_step ecX8_step
