/-! METHODS (printed by wip/t6) -/
def ftX11_isNextDay : List (Nat × List (Nat × Instr × Nat)) := [(21, [(0, .iload_n 1, 1), (1, .aload_n 0, 1), (2, .getfield 100, 3), (5, .if_icmp .lt 14, 3), (8, .iload_n 1, 1), (9, .sipush 400, 3), (12, .if_icmp .gt 7, 3), (15, .iconst 1, 1), (16, .goto 4, 3), (19, .iconst 0, 1), (20, .ireturn, 1)])]
theorem ftX11_isNextDay_ok : zk_ftb cX11_isNextDay ftX11_isNextDay = true := by decide +kernel
def qcX11_isNextDay : zQ := ((3, 3), ([(2, 1, 0), (0, 2, 0)], ([(0, 0, 0), (2, (-2147483648), 2147483647)], [], [], []), ([(1, 42)], [], [], [], [], [])), [(some (0, 0, 0), ([(0, 0, 0)], [], [], []), ([], [], [], [], [], [])), (some (0, 0, 1), ([(0, 0, 0), (2, 0, 400)], [], [], []), ([], [], [], [], [], []))], ([], []), (0, 0))
def mcX11_isNextDay : zM := (yX11_isNextDay, cX11_isNextDay, 2, (some .boolean), { frames := 1, cells := 0, slots := 0, locals := 12 }, qcX11_isNextDay)
def hcX11_isNextDay : zH := ([], [], [], [], ([], 0, 0), 1)
theorem jcX11_isNextDay : zk_txok RX11 hcX11_isNextDay.2.2.2.2.1 := zk_txb_ok (p := (0, 0)) (by decide +kernel)
def xcX11_isNextDay : List zX := []
theorem wcX11_isNextDay : zk_hwsb zcl RX11 mcX11_isNextDay.rm xcX11_isNextDay [] = true := by decide +kernel
theorem icX11_isNextDay : zk_idb zcl RX11 11 false mcX11_isNextDay = true := by decide +kernel
theorem ecX11_isNextDay : zk_run zcl zft zTT zPF zPB zSUf zLX11 11 false mcX11_isNextDay ftX11_isNextDay hcX11_isNextDay zULf xcX11_isNextDay 12 = true := by decide +kernel
theorem gcX11_isNextDay {D : zD} {l : Launch} (hD : zWD D) : zCs D l xcX11_isNextDay := trivial
theorem tcX11_isNextDay {D : zD} {l : Launch} (hD : zWD D) : zC D l mcX11_isNextDay := zk_methC ⟨rfl, rfl⟩ hD poolX11 icX11_isNextDay jcX11_isNextDay ftX11_isNextDay_ok (gcX11_isNextDay hD) wcX11_isNextDay ecX11_isNextDay
def qcX4_add_ta0 : zQ := ((14, 14), ([(2, 1, 0), (1, 2, 0), (1, 3, 0), (0, 4, 0), (0, 5, 0)], ([(0, 0, 0), (2, (-9223372036854775808), 9223372036854775807), (3, (-9223372036854775808), 9223372036854775807), (4, (-2147483648), 2147483647), (5, 0, 400), (6, 0, 40), (11, 0, 40), (13, 0, 40)], [], [], []), ([(1, 31), (7, 78), (8, 79), (9, 80), (10, 31), (12, 31)], [], [], [], [], [(109, []), (460, [(2, 1, 0), (0, 6, 0), (2, 7, 0), (2, 8, 0), (2, 9, 0)]), (461, [(2, 10, 0), (0, 11, 0), (2, 7, 0), (2, 8, 0), (2, 9, 0)]), (462, [(2, 12, 0), (0, 13, 0), (2, 7, 0), (2, 8, 0), (2, 9, 0)]), (470, [(2, 1, 0), (0, 6, 0)]), (471, [(2, 10, 0), (0, 11, 0)]), (472, [(2, 12, 0), (0, 13, 0)]), (459, [(2, 10, 0), (2, 1, 0)]), (459, [(2, 12, 0), (2, 1, 0)])])), [(none, ([(0, 0, 0)], [], [], []), ([], [], [], [], [], [(460, [(2, 1, 0), (0, 6, 0), (2, 7, 0), (2, 8, 0), (2, 9, 0)]), (461, [(2, 10, 0), (0, 11, 0), (2, 7, 0), (2, 8, 0), (2, 9, 0)]), (462, [(2, 12, 0), (0, 13, 0), (2, 7, 0), (2, 8, 0), (2, 9, 0)]), (470, [(2, 1, 0), (0, 6, 0)]), (471, [(2, 10, 0), (0, 11, 0)]), (472, [(2, 12, 0), (0, 13, 0)]), (109, [])]))], ([(31, 6)], [47, 48, 49, 50, 51]), (0, 0))
def mcX4_add_ta0 : zM := (yX4_add, cX4_add, 7, none, { frames := 1, cells := 0, slots := 0, locals := 12 }, qcX4_add_ta0)
def hcX4_add_ta0 : zH := ([], [], [(9, [(9, 359, 0)])], [], ([], 0, 0), 1)
theorem jcX4_add_ta0 : zk_txok RX4 hcX4_add_ta0.2.2.2.2.1 := zk_txb_ok (p := (0, 0)) (by decide +kernel)
def xcX4_add_ta0 : List zX := []
theorem wcX4_add_ta0 : zk_hwsb zcl RX4 mcX4_add_ta0.rm xcX4_add_ta0 [] = true := by decide +kernel
theorem icX4_add_ta0 : zk_idb zcl RX4 4 false mcX4_add_ta0 = true := by decide +kernel
theorem ecX4_add_ta0 : zk_run zcl zft zTT zPF zPB zSUf zLX4 4 false mcX4_add_ta0 ftX4_add hcX4_add_ta0 zULf xcX4_add_ta0 45 = true := by decide +kernel
theorem gcX4_add_ta0 {D : zD} {l : Launch} (hD : zWD D) : zCs D l xcX4_add_ta0 := trivial
theorem tcX4_add_ta0 {D : zD} {l : Launch} (hD : zWD D) : zC D l mcX4_add_ta0 := zk_methC ⟨rfl, rfl⟩ hD poolX4 icX4_add_ta0 jcX4_add_ta0 ftX4_add_ok (gcX4_add_ta0 hD) wcX4_add_ta0 ecX4_add_ta0
def qcX4_add_ta1 : zQ := ((14, 14), ([(2, 1, 0), (1, 2, 0), (1, 3, 0), (0, 4, 0), (0, 5, 0)], ([(0, 0, 0), (2, (-9223372036854775808), 9223372036854775807), (3, (-9223372036854775808), 9223372036854775807), (4, (-2147483648), 2147483647), (5, 0, 400), (7, 0, 40), (11, 0, 40), (13, 0, 40)], [], [], []), ([(1, 31), (6, 31), (8, 78), (9, 79), (10, 80), (12, 31)], [], [], [], [], [(109, []), (460, [(2, 6, 0), (0, 7, 0), (2, 8, 0), (2, 9, 0), (2, 10, 0)]), (461, [(2, 1, 0), (0, 11, 0), (2, 8, 0), (2, 9, 0), (2, 10, 0)]), (462, [(2, 12, 0), (0, 13, 0), (2, 8, 0), (2, 9, 0), (2, 10, 0)]), (470, [(2, 6, 0), (0, 7, 0)]), (471, [(2, 1, 0), (0, 11, 0)]), (472, [(2, 12, 0), (0, 13, 0)]), (459, [(2, 6, 0), (2, 1, 0)]), (459, [(2, 12, 0), (2, 1, 0)])])), [(none, ([(0, 0, 0)], [], [], []), ([], [], [], [], [], [(460, [(2, 6, 0), (0, 7, 0), (2, 8, 0), (2, 9, 0), (2, 10, 0)]), (461, [(2, 1, 0), (0, 11, 0), (2, 8, 0), (2, 9, 0), (2, 10, 0)]), (462, [(2, 12, 0), (0, 13, 0), (2, 8, 0), (2, 9, 0), (2, 10, 0)]), (470, [(2, 6, 0), (0, 7, 0)]), (471, [(2, 1, 0), (0, 11, 0)]), (472, [(2, 12, 0), (0, 13, 0)]), (109, [])]))], ([(31, 6)], [47, 48, 49, 50, 51]), (0, 0))
def mcX4_add_ta1 : zM := (yX4_add, cX4_add, 7, none, { frames := 1, cells := 0, slots := 0, locals := 12 }, qcX4_add_ta1)
def hcX4_add_ta1 : zH := ([], [], [(9, [(9, 360, 0)])], [], ([], 0, 0), 1)
theorem jcX4_add_ta1 : zk_txok RX4 hcX4_add_ta1.2.2.2.2.1 := zk_txb_ok (p := (0, 0)) (by decide +kernel)
def xcX4_add_ta1 : List zX := []
theorem wcX4_add_ta1 : zk_hwsb zcl RX4 mcX4_add_ta1.rm xcX4_add_ta1 [] = true := by decide +kernel
theorem icX4_add_ta1 : zk_idb zcl RX4 4 false mcX4_add_ta1 = true := by decide +kernel
theorem ecX4_add_ta1 : zk_run zcl zft zTT zPF zPB zSUf zLX4 4 false mcX4_add_ta1 ftX4_add hcX4_add_ta1 zULf xcX4_add_ta1 45 = true := by decide +kernel
theorem gcX4_add_ta1 {D : zD} {l : Launch} (hD : zWD D) : zCs D l xcX4_add_ta1 := trivial
theorem tcX4_add_ta1 {D : zD} {l : Launch} (hD : zWD D) : zC D l mcX4_add_ta1 := zk_methC ⟨rfl, rfl⟩ hD poolX4 icX4_add_ta1 jcX4_add_ta1 ftX4_add_ok (gcX4_add_ta1 hD) wcX4_add_ta1 ecX4_add_ta1
def qcX4_isOn : zQ := ((4, 4), ([(2, 1, 0), (0, 2, 0), (0, 3, 0)], ([(0, 0, 0), (2, 0, 79), (3, 0, 400)], [], [], []), ([(1, 31)], [], [], [], [], [])), [(some (0, 0, 0), ([(0, 0, 0)], [], [], []), ([], [], [], [], [], [])), (some (0, 0, 1), ([(0, 0, 0)], [], [], []), ([], [], [], [], [], []))], ([], []), (0, 0))
def mcX4_isOn : zM := (yX4_isOn, cX4_isOn, 3, (some .boolean), { frames := 1, cells := 0, slots := 0, locals := 12 }, qcX4_isOn)
def hcX4_isOn : zH := ([], [], [], [], ([], 0, 0), 1)
theorem jcX4_isOn : zk_txok RX4 hcX4_isOn.2.2.2.2.1 := zk_txb_ok (p := (0, 0)) (by decide +kernel)
def xcX4_isOn : List zX := []
theorem wcX4_isOn : zk_hwsb zcl RX4 mcX4_isOn.rm xcX4_isOn [] = true := by decide +kernel
theorem icX4_isOn : zk_idb zcl RX4 4 false mcX4_isOn = true := by decide +kernel
theorem ecX4_isOn : zk_run zcl zft zTT zPF zPB zSUf zLX4 4 false mcX4_isOn ftX4_isOn hcX4_isOn zULf xcX4_isOn 17 = true := by decide +kernel
theorem gcX4_isOn {D : zD} {l : Launch} (hD : zWD D) : zCs D l xcX4_isOn := trivial
theorem tcX4_isOn {D : zD} {l : Launch} (hD : zWD D) : zC D l mcX4_isOn := zk_methC ⟨rfl, rfl⟩ hD poolX4 icX4_isOn jcX4_isOn ftX4_isOn_ok (gcX4_isOn hD) wcX4_isOn ecX4_isOn
def qcX4_find : zQ := ((4, 5), ([(2, 1, 0), (1, 2, 0), (0, 3, 0)], ([(0, 0, 0), (2, (-9223372036854775808), 9223372036854775807), (3, 0, 400)], [], [], []), ([(1, 31)], [], [], [], [], [])), [(some (0, 0, (-1)), ([(0, 0, 0)], [], [], []), ([], [], [], [], [], [])), (some (0, 4, 0), ([(0, 0, 0), (4, 0, 79)], [], [], []), ([], [], [], [], [], []))], ([], []), (0, 0))
def mcX4_find : zM := (yX4_find, cX4_find, 5, (some .int), { frames := 2, cells := 0, slots := 0, locals := 34 }, qcX4_find)
def hcX4_find : zH := ([(3, [([(0, (2, 1, 0)), (1, (1, 2, 0)), (3, (0, 3, 0)), (4, (0, 4, 0))], [], ([(0, 0, 0), (4, 0, 80), (2, (-9223372036854775808), 9223372036854775807), (3, 0, 400)], [], [], []), ([(1, 31)], [], [], [], [], []), (5, ([(4, (-1))], 80), 0, 0))])], [], [], [], ([], 0, 0), 161)
theorem jcX4_find : zk_txok RX4 hcX4_find.2.2.2.2.1 := zk_txb_ok (p := (0, 0)) (by decide +kernel)
def xcX4_find : List zX := [(39, 2, 4, mcX4_isOn)]
theorem wcX4_find : zk_hwsb zcl RX4 mcX4_find.rm xcX4_find [(701, 79, 698, 699, 700)] = true := by decide +kernel
theorem icX4_find : zk_idb zcl RX4 4 false mcX4_find = true := by decide +kernel
theorem ecX4_find : zk_run zcl zft zTT zPF zPB zSUf zLX4 4 false mcX4_find ftX4_find hcX4_find zULf xcX4_find 20 = true := by decide +kernel
theorem gcX4_find {D : zD} {l : Launch} (hD : zWD D) : zCs D l xcX4_find := ⟨tcX4_isOn hD, trivial⟩
theorem tcX4_find {D : zD} {l : Launch} (hD : zWD D) : zC D l mcX4_find := zk_methC ⟨rfl, rfl⟩ hD poolX4 icX4_find jcX4_find ftX4_find_ok (gcX4_find hD) wcX4_find ecX4_find
def ftX4_sizeAt : List (Nat × List (Nat × Instr × Nat)) := [(22, [(0, .iconst 0, 1), (1, .istore_n 2, 1), (2, .iconst 0, 1), (3, .istore_n 3, 1), (4, .iload_n 3, 1), (5, .aload_n 0, 1), (6, .getfield 32, 3), (9, .if_icmp .ge 21, 3), (12, .aload_n 0, 1), (13, .iload_n 3, 1), (14, .iload_n 1, 1), (15, .invokevirtual 39, 3), (18, .ifCond .eq 6, 3), (21, .iinc 2 1, 3)]), (32, [(24, .iinc 3 1, 3), (27, .goto (-23), 3), (30, .iload_n 2, 1), (31, .ireturn, 1)])]
theorem ftX4_sizeAt_ok : zk_ftb cX4_sizeAt ftX4_sizeAt = true := by decide +kernel
def qcX4_sizeAt : zQ := ((3, 4), ([(2, 1, 0), (0, 2, 0)], ([(0, 0, 0), (2, 0, 400)], [], [], []), ([(1, 31)], [], [], [], [], [])), [(some (0, 3, 0), ([(0, 0, 0), (3, (-2147483648), 2147483647)], [], [], []), ([], [], [], [], [], []))], ([], []), (0, 0))
def mcX4_sizeAt : zM := (yX4_sizeAt, cX4_sizeAt, 4, (some .int), { frames := 2, cells := 0, slots := 0, locals := 34 }, qcX4_sizeAt)
def hcX4_sizeAt : zH := ([(4, [([(0, (2, 1, 0)), (1, (0, 2, 0)), (2, (0, 3, 0)), (3, (0, 4, 0))], [], ([(0, 0, 0), (4, 0, 80), (2, 0, 400)], [], [], []), ([(1, 31)], [], [], [], [], []), (5, ([(4, (-1))], 80), 0, 0))])], [], [(31, [(3, 0, 0)])], [], ([], 0, 0), 161)
theorem jcX4_sizeAt : zk_txok RX4 hcX4_sizeAt.2.2.2.2.1 := zk_txb_ok (p := (0, 0)) (by decide +kernel)
def xcX4_sizeAt : List zX := [(39, 2, 4, mcX4_isOn)]
theorem wcX4_sizeAt : zk_hwsb zcl RX4 mcX4_sizeAt.rm xcX4_sizeAt [(701, 79, 698, 699, 700)] = true := by decide +kernel
theorem icX4_sizeAt : zk_idb zcl RX4 4 false mcX4_sizeAt = true := by decide +kernel
theorem ecX4_sizeAt : zk_run zcl zft zTT zPF zPB zSUf zLX4 4 false mcX4_sizeAt ftX4_sizeAt hcX4_sizeAt zULf xcX4_sizeAt 14 = true := by decide +kernel
theorem gcX4_sizeAt {D : zD} {l : Launch} (hD : zWD D) : zCs D l xcX4_sizeAt := ⟨tcX4_isOn hD, trivial⟩
theorem tcX4_sizeAt {D : zD} {l : Launch} (hD : zWD D) : zC D l mcX4_sizeAt := zk_methC ⟨rfl, rfl⟩ hD poolX4 icX4_sizeAt jcX4_sizeAt ftX4_sizeAt_ok (gcX4_sizeAt hD) wcX4_sizeAt ecX4_sizeAt
def qcX8_rewind : zQ := ((2, 2), ([(2, 1, 0)], ([(0, 0, 0)], [], [], []), ([(1, 30)], [], [], [], [], [])), [(none, ([(0, 0, 0)], [], [], []), ([], [], [], [], [], []))], ([(30, 2)], []), (0, 0))
def mcX8_rewind : zM := (yX8_rewind, cX8_rewind, 1, none, { frames := 1, cells := 0, slots := 0, locals := 12 }, qcX8_rewind)
def hcX8_rewind : zH := ([], [], [], [], ([], 0, 0), 1)
theorem jcX8_rewind : zk_txok RX8 hcX8_rewind.2.2.2.2.1 := zk_txb_ok (p := (0, 0)) (by decide +kernel)
def xcX8_rewind : List zX := []
theorem wcX8_rewind : zk_hwsb zcl RX8 mcX8_rewind.rm xcX8_rewind [] = true := by decide +kernel
theorem icX8_rewind : zk_idb zcl RX8 8 false mcX8_rewind = true := by decide +kernel
theorem ecX8_rewind : zk_run zcl zft zTT zPF zPB zSUf zLX8 8 false mcX8_rewind ftX8_rewind hcX8_rewind zULf xcX8_rewind 6 = true := by decide +kernel
theorem gcX8_rewind {D : zD} {l : Launch} (hD : zWD D) : zCs D l xcX8_rewind := trivial
theorem tcX8_rewind {D : zD} {l : Launch} (hD : zWD D) : zC D l mcX8_rewind := zk_methC ⟨rfl, rfl⟩ hD poolX8 icX8_rewind jcX8_rewind ftX8_rewind_ok (gcX8_rewind hD) wcX8_rewind ecX8_rewind
def qcX8_isBlank : zQ := ((2, 2), ([(0, 1, 0)], ([(0, 0, 0), (1, (-128), 127)], [], [], []), ([], [], [], [], [], [])), [(some (0, 0, 0), ([(0, 0, 0)], [], [], []), ([], [], [], [], [], [])), (some (0, 0, 1), ([(0, 0, 0), (1, 10, 32)], [], [], []), ([], [], [], [], [], []))], ([], []), (0, 0))
def mcX8_isBlank : zM := (yX8_isBlank, cX8_isBlank, 1, (some .boolean), { frames := 1, cells := 0, slots := 0, locals := 12 }, qcX8_isBlank)
def hcX8_isBlank : zH := ([], [], [], [], ([], 0, 0), 1)
theorem jcX8_isBlank : zk_txok RX8 hcX8_isBlank.2.2.2.2.1 := zk_txb_ok (p := (0, 0)) (by decide +kernel)
def xcX8_isBlank : List zX := []
theorem wcX8_isBlank : zk_hwsb zcl RX8 mcX8_isBlank.rm xcX8_isBlank [] = true := by decide +kernel
theorem icX8_isBlank : zk_idb zcl RX8 8 false mcX8_isBlank = true := by decide +kernel
theorem ecX8_isBlank : zk_run zcl zft zTT zPF zPB zSUf zLX8 8 false mcX8_isBlank ftX8_isBlank hcX8_isBlank zULf xcX8_isBlank 11 = true := by decide +kernel
theorem gcX8_isBlank {D : zD} {l : Launch} (hD : zWD D) : zCs D l xcX8_isBlank := trivial
theorem tcX8_isBlank {D : zD} {l : Launch} (hD : zWD D) : zC D l mcX8_isBlank := zk_methC ⟨rfl, rfl⟩ hD poolX8 icX8_isBlank jcX8_isBlank ftX8_isBlank_ok (gcX8_isBlank hD) wcX8_isBlank ecX8_isBlank
def qcX8_isDigit : zQ := ((2, 2), ([(0, 1, 0)], ([(0, 0, 0), (1, (-128), 127)], [], [], []), ([], [], [], [], [], [])), [(some (0, 0, 0), ([(0, 0, 0)], [], [], []), ([], [], [], [], [], [])), (some (0, 0, 1), ([(0, 0, 0), (1, 48, 57)], [], [], []), ([], [], [], [], [], []))], ([], []), (0, 0))
def mcX8_isDigit : zM := (yX8_isDigit, cX8_isDigit, 1, (some .boolean), { frames := 1, cells := 0, slots := 0, locals := 12 }, qcX8_isDigit)
def hcX8_isDigit : zH := ([], [], [], [], ([], 0, 0), 1)
theorem jcX8_isDigit : zk_txok RX8 hcX8_isDigit.2.2.2.2.1 := zk_txb_ok (p := (0, 0)) (by decide +kernel)
def xcX8_isDigit : List zX := []
theorem wcX8_isDigit : zk_hwsb zcl RX8 mcX8_isDigit.rm xcX8_isDigit [] = true := by decide +kernel
theorem icX8_isDigit : zk_idb zcl RX8 8 false mcX8_isDigit = true := by decide +kernel
theorem ecX8_isDigit : zk_run zcl zft zTT zPF zPB zSUf zLX8 8 false mcX8_isDigit ftX8_isDigit hcX8_isDigit zULf xcX8_isDigit 11 = true := by decide +kernel
theorem gcX8_isDigit {D : zD} {l : Launch} (hD : zWD D) : zCs D l xcX8_isDigit := trivial
theorem tcX8_isDigit {D : zD} {l : Launch} (hD : zWD D) : zC D l mcX8_isDigit := zk_methC ⟨rfl, rfl⟩ hD poolX8 icX8_isDigit jcX8_isDigit ftX8_isDigit_ok (gcX8_isDigit hD) wcX8_isDigit ecX8_isDigit
def qcX8_isSmall : zQ := ((2, 2), ([(0, 1, 0)], ([(0, 0, 0), (1, (-128), 127)], [], [], []), ([], [], [], [], [], [])), [(some (0, 0, 0), ([(0, 0, 0)], [], [], []), ([], [], [], [], [], [])), (some (0, 0, 1), ([(0, 0, 0), (1, 97, 122)], [], [], []), ([], [], [], [], [], []))], ([], []), (0, 0))
def mcX8_isSmall : zM := (yX8_isSmall, cX8_isSmall, 1, (some .boolean), { frames := 1, cells := 0, slots := 0, locals := 12 }, qcX8_isSmall)
def hcX8_isSmall : zH := ([], [], [], [], ([], 0, 0), 1)
theorem jcX8_isSmall : zk_txok RX8 hcX8_isSmall.2.2.2.2.1 := zk_txb_ok (p := (0, 0)) (by decide +kernel)
def xcX8_isSmall : List zX := []
theorem wcX8_isSmall : zk_hwsb zcl RX8 mcX8_isSmall.rm xcX8_isSmall [] = true := by decide +kernel
theorem icX8_isSmall : zk_idb zcl RX8 8 false mcX8_isSmall = true := by decide +kernel
theorem ecX8_isSmall : zk_run zcl zft zTT zPF zPB zSUf zLX8 8 false mcX8_isSmall ftX8_isSmall hcX8_isSmall zULf xcX8_isSmall 11 = true := by decide +kernel
theorem gcX8_isSmall {D : zD} {l : Launch} (hD : zWD D) : zCs D l xcX8_isSmall := trivial
theorem tcX8_isSmall {D : zD} {l : Launch} (hD : zWD D) : zC D l mcX8_isSmall := zk_methC ⟨rfl, rfl⟩ hD poolX8 icX8_isSmall jcX8_isSmall ftX8_isSmall_ok (gcX8_isSmall hD) wcX8_isSmall ecX8_isSmall
def qcX8_takeNumber : zQ := ((2, 2), ([(2, 1, 0)], ([(0, 0, 0)], [], [], []), ([(1, 30)], [(1, 8, 5, (0, 0, 0))], [], [], [], [])), [(none, ([(0, 0, 0)], [], [], []), ([], [], [], [], [], []))], ([(30, 2), (30, 3), (30, 5), (30, 7)], []), (0, 0))
def mcX8_takeNumber : zM := (yX8_takeNumber, cX8_takeNumber, 1, none, { frames := 2, cells := 0, slots := 0, locals := 32 }, qcX8_takeNumber)
def hcX8_takeNumber : zH := ([(0, [([(0, (2, 1, 0))], [], ([(0, 0, 0), (2, 1, 1200), (3, 1, 1200), (4, (-2147483648), 2147483647), (6, 1, 1200)], [(2, 6, 0), (3, 2, 0)], [], []), ([(5, 44), (1, 30)], [(1, 8, 2, (0, 2, 0)), (1, 8, 5, (0, 3, 0)), (1, 8, 7, (0, 4, 0)), (1, 8, 0, (2, 5, 0)), (1, 8, 1, (0, 6, 0))], [], [], [], []), (7, ([(2, (-1))], 1200), 0, 0))])], [], [(65, [(4, 0, 0)])], [], ([], 0, 0), 2401)
theorem jcX8_takeNumber : zk_txok RX8 hcX8_takeNumber.2.2.2.2.1 := zk_txb_ok (p := (0, 0)) (by decide +kernel)
def xcX8_takeNumber : List zX := [(48, 0, 0, mcX8_isDigit)]
theorem wcX8_takeNumber : zk_hwsb zcl RX8 mcX8_takeNumber.rm xcX8_takeNumber [(550, 76, 548, 549, 0)] = true := by decide +kernel
theorem icX8_takeNumber : zk_idb zcl RX8 8 false mcX8_takeNumber = true := by decide +kernel
theorem ecX8_takeNumber : zk_run zcl zft zTT zPF zPB zSUf zLX8 8 false mcX8_takeNumber ftX8_takeNumber hcX8_takeNumber zULf xcX8_takeNumber 45 = true := by decide +kernel
theorem gcX8_takeNumber {D : zD} {l : Launch} (hD : zWD D) : zCs D l xcX8_takeNumber := ⟨tcX8_isDigit hD, trivial⟩
theorem tcX8_takeNumber {D : zD} {l : Launch} (hD : zWD D) : zC D l mcX8_takeNumber := zk_methC ⟨rfl, rfl⟩ hD poolX8 icX8_takeNumber jcX8_takeNumber ftX8_takeNumber_ok (gcX8_takeNumber hD) wcX8_takeNumber ecX8_takeNumber
def qcX8_takeWord : zQ := ((2, 2), ([(2, 1, 0)], ([(0, 0, 0)], [], [], []), ([(1, 30)], [(1, 8, 5, (0, 0, 0))], [], [], [], [])), [(none, ([(0, 0, 0)], [], [], []), ([], [], [], [], [], []))], ([(30, 2), (30, 3), (30, 5), (30, 6)], []), (0, 0))
def mcX8_takeWord : zM := (yX8_takeWord, cX8_takeWord, 1, none, { frames := 2, cells := 0, slots := 0, locals := 32 }, qcX8_takeWord)
def hcX8_takeWord : zH := ([(0, [([(0, (2, 1, 0))], [], ([(0, 0, 0), (2, 1, 1200), (3, 1, 1200), (4, (-9223372036854775808), 9223372036854775807), (6, 1, 1200)], [(2, 6, 0), (3, 2, 0)], [], []), ([(5, 44), (1, 30)], [(1, 8, 2, (0, 2, 0)), (1, 8, 5, (0, 3, 0)), (1, 8, 6, (1, 4, 0)), (1, 8, 0, (2, 5, 0)), (1, 8, 1, (0, 6, 0))], [], [], [], []), (7, ([(2, (-1))], 1200), 0, 0))])], [], [(59, [(4, 0, 0)])], [], ([], 0, 0), 2401)
theorem jcX8_takeWord : zk_txok RX8 hcX8_takeWord.2.2.2.2.1 := zk_txb_ok (p := (0, 0)) (by decide +kernel)
def xcX8_takeWord : List zX := [(42, 0, 0, mcX8_isSmall)]
theorem wcX8_takeWord : zk_hwsb zcl RX8 mcX8_takeWord.rm xcX8_takeWord [(543, 76, 541, 542, 0)] = true := by decide +kernel
theorem icX8_takeWord : zk_idb zcl RX8 8 false mcX8_takeWord = true := by decide +kernel
theorem ecX8_takeWord : zk_run zcl zft zTT zPF zPB zSUf zLX8 8 false mcX8_takeWord ftX8_takeWord hcX8_takeWord zULf xcX8_takeWord 44 = true := by decide +kernel
theorem gcX8_takeWord {D : zD} {l : Launch} (hD : zWD D) : zCs D l xcX8_takeWord := ⟨tcX8_isSmall hD, trivial⟩
theorem tcX8_takeWord {D : zD} {l : Launch} (hD : zWD D) : zC D l mcX8_takeWord := zk_methC ⟨rfl, rfl⟩ hD poolX8 icX8_takeWord jcX8_takeWord ftX8_takeWord_ok (gcX8_takeWord hD) wcX8_takeWord ecX8_takeWord
