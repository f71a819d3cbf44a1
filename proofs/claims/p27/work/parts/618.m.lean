/-! METHODS (printed by wip/t6) -/
def qcX9_plus_123 : zQ := ((4, 5), ([(2, 1, 0), (0, 2, 0), (0, 3, 0)], ([(0, 0, 0), (2, (-2147483648), 2147483647), (3, (-2147483643), 2147483647)], [], [], []), ([(1, 123)], [], [], [], [], [])), [(some (0, 4, 0), ([(0, 0, 0), (4, (-2147483648), 2147483647)], [], [], []), ([], [], [], [], [], []))], ([], []), (0, 0))
def mcX9_plus_123 : zM := (yX9_plus, cX9_plus, 5, (some .int), { frames := 1, cells := 0, slots := 0, locals := 12 }, qcX9_plus_123)
def hcX9_plus_123 : zH := ([], [], [(32, [(3, 0, 0)])], [], ([], 0, 0), 1)
theorem jcX9_plus_123 : zk_txok RX9 hcX9_plus_123.2.2.2.2.1 := zk_txb_ok (p := (0, 0)) (by decide +kernel)
def xcX9_plus_123 : List zX := []
theorem wcX9_plus_123 : zk_hwsb zcl RX9 mcX9_plus_123.rm xcX9_plus_123 [] = true := by decide +kernel
theorem icX9_plus_123 : zk_idb zcl RX9 9 false mcX9_plus_123 = true := by decide +kernel
theorem ecX9_plus_123 : zk_run zcl zft zTT zPF zPB zSUf zLX9 9 false mcX9_plus_123 ftX9_plus hcX9_plus_123 zULf xcX9_plus_123 26 = true := by decide +kernel
theorem gcX9_plus_123 {D : zD} {l : Launch} (hD : zWD D) : zCs D l xcX9_plus_123 := trivial
theorem tcX9_plus_123 {D : zD} {l : Launch} (hD : zWD D) : zC D l mcX9_plus_123 := zk_methC ⟨rfl, rfl⟩ hD poolX9 icX9_plus_123 jcX9_plus_123 ftX9_plus_ok (gcX9_plus_123 hD) wcX9_plus_123 ecX9_plus_123
def qcX9_apply_123 : zQ := ((3, 4), ([(2, 1, 0), (0, 2, 0)], ([(0, 0, 0), (2, (-2147483648), 2147483647)], [], [], []), ([(1, 123)], [], [], [], [], [])), [(some (0, 3, 0), ([(0, 0, 0), (3, (-2147483648), 2147483647)], [], [], []), ([], [], [], [], [], []))], ([], []), (0, 0))
def mcX9_apply_123 : zM := (yX9_apply, cX9_apply, 2, (some .int), { frames := 2, cells := 0, slots := 0, locals := 39 }, qcX9_apply_123)
def hcX9_apply_123 : zH := ([], [], [], [], ([], 0, 0), 1)
theorem jcX9_apply_123 : zk_txok RX9 hcX9_apply_123.2.2.2.2.1 := zk_txb_ok (p := (0, 0)) (by decide +kernel)
def xcX9_apply_123 : List zX := [(39, 0, 0, mcX1_power), (43, 0, 0, mcX1_times), (47, 2, 9, mcX9_plus_123)]
theorem wcX9_apply_123 : zk_hwsb zcl RX9 mcX9_apply_123.rm xcX9_apply_123 [(806, 91, 804, 805, 0), (809, 91, 807, 808, 0), (813, 81, 810, 812, 19)] = true := by decide +kernel
theorem icX9_apply_123 : zk_idb zcl RX9 9 false mcX9_apply_123 = true := by decide +kernel
theorem ecX9_apply_123 : zk_run zcl zft zTT zPF zPB zSUf zLX9 9 false mcX9_apply_123 ftX9_apply hcX9_apply_123 zULf xcX9_apply_123 28 = true := by decide +kernel
theorem gcX9_apply_123 {D : zD} {l : Launch} (hD : zWD D) : zCs D l xcX9_apply_123 := ⟨tcX1_power hD, tcX1_times hD, tcX9_plus_123 hD, trivial⟩
theorem tcX9_apply_123 {D : zD} {l : Launch} (hD : zWD D) : zC D l mcX9_apply_123 := zk_methC ⟨rfl, rfl⟩ hD poolX9 icX9_apply_123 jcX9_apply_123 ftX9_apply_ok (gcX9_apply_123 hD) wcX9_apply_123 ecX9_apply_123
def qcX9_become_123 : zQ := ((5, 5), ([(2, 1, 0), (0, 2, 0), (0, 3, 0), (0, 4, 0)], ([(0, 0, 0), (2, 0, 2), (3, 0, 2147483646), (4, 5, 2147483647)], [], [], []), ([(1, 123)], [], [], [], [], [])), [(none, ([(0, 0, 0)], [], [], []), ([], [], [], [], [], []))], ([(123, 1), (123, 2), (123, 3), (123, 4)], [125]), (0, 0))
def mcX9_become_123 : zM := (yX9_become, cX9_become, 5, none, { frames := 3, cells := 0, slots := 0, locals := 60 }, qcX9_become_123)
def hcX9_become_123 : zH := ([(23, [([(0, (2, 1, 0)), (4, (0, 5, 0))], [], ([(0, 0, 0), (5, 1, 60), (2, 0, 2), (3, 0, 2147483646), (4, 5, 2147483647)], [], [], []), ([(1, 123)], [(1, 9, 1, (0, 0, 0)), (1, 9, 4, (0, 4, 0)), (1, 9, 3, (0, 3, 0)), (1, 9, 2, (0, 2, 0))], [], [], [], []), (6, ([(5, (-1))], 60), 0, 0))])], [], [(53, [(4, 1, 0)])], [], ([], 0, 0), 121)
theorem jcX9_become_123 : zk_txok RX9 hcX9_become_123.2.2.2.2.1 := zk_txb_ok (p := (0, 0)) (by decide +kernel)
def xcX9_become_123 : List zX := [(35, 2, 9, mcX9_apply_123)]
theorem wcX9_become_123 : zk_hwsb zcl RX9 mcX9_become_123.rm xcX9_become_123 [(803, 81, 800, 801, 802)] = true := by decide +kernel
theorem icX9_become_123 : zk_idb zcl RX9 9 false mcX9_become_123 = true := by decide +kernel
theorem ecX9_become_123 : zk_run zcl zft zTT zPF zPB zSUf zLX9 9 false mcX9_become_123 ftX9_become hcX9_become_123 zULf xcX9_become_123 19 = true := by decide +kernel
theorem gcX9_become_123 {D : zD} {l : Launch} (hD : zWD D) : zCs D l xcX9_become_123 := ⟨tcX9_apply_123 hD, trivial⟩
theorem tcX9_become_123 {D : zD} {l : Launch} (hD : zWD D) : zC D l mcX9_become_123 := zk_methC ⟨rfl, rfl⟩ hD poolX9 icX9_become_123 jcX9_become_123 ftX9_become_ok (gcX9_become_123 hD) wcX9_become_123 ecX9_become_123
def ftX11_prime : List (Nat × List (Nat × Instr × Nat)) := [(23, [(0, .iload_n 1, 1), (1, .iconst 5, 1), (2, .if_icmp .lt 10, 3), (5, .iload_n 1, 1), (6, .invokestatic 176, 3), (9, .ifCond .ne 6, 3), (12, .bipush (-2), 2), (14, .ireturn, 1), (15, .aload_n 0, 1), (16, .iload_n 1, 1), (17, .putfield 52, 3), (20, .iconst 0, 1), (21, .istore_n 2, 1), (22, .iload_n 2, 1)]), (47, [(23, .iconst 2, 1), (24, .if_icmp .ge 21, 3), (27, .aload_n 0, 1), (28, .getfield 59, 3), (31, .iload_n 2, 1), (32, .aaload, 1), (33, .iconst 0, 1), (34, .iconst 1, 1), (35, .iload_n 1, 1), (36, .invokevirtual 181, 3), (39, .iinc 2 1, 3), (42, .goto (-20), 3), (45, .aload_n 0, 1), (46, .iconst 0, 1)]), (52, [(47, .putfield 93, 3), (50, .iconst 1, 1), (51, .ireturn, 1)])]
theorem ftX11_prime_ok : zk_ftb cX11_prime ftX11_prime = true := by decide +kernel
def qcX11_prime : zQ := ((3, 3), ([(2, 1, 0), (0, 2, 0)], ([(0, 0, 0), (2, (-2147483648), 2147483647)], [], [], []), ([(1, 42)], [], [], [], [], [])), [(some (0, 0, (-2)), ([(0, 0, 0)], [], [], []), ([], [], [], [], [], [])), (some (0, 0, 1), ([(0, 0, 0), (2, 5, 2147483647)], [], [], []), ([], [], [], [], [], []))], ([(42, 7), (42, 13), (122, 1), (122, 2), (122, 3), (122, 4), (123, 1), (123, 2), (123, 3), (123, 4)], [124, 125]), (0, 0))
def mcX11_prime : zM := (yX11_prime, cX11_prime, 3, (some .int), { frames := 4, cells := 0, slots := 0, locals := 84 }, qcX11_prime)
def hcX11_prime : zH := ([(22, [([(0, (2, 1, 0)), (1, (0, 2, 0)), (2, (0, 3, 0))], [], ([(0, 0, 0), (3, 0, 2), (2, 5, 2147483647)], [], [], []), ([(1, 42)], [(1, 11, 7, (0, 2, 0))], [], [], [], []), (4, ([(3, (-1))], 2), 0, 0))])], [], [], [], ([], 0, 0), 5)
theorem jcX11_prime : zk_txok RX11 hcX11_prime.2.2.2.2.1 := zk_txb_ok (p := (0, 0)) (by decide +kernel)
def xcX11_prime : List zX := [(176, 0, 0, mcX1_isPrime), (181, 2, 9, mcX9_become_122), (181, 2, 9, mcX9_become_123)]
theorem wcX11_prime : zk_hwsb zcl RX11 mcX11_prime.rm xcX11_prime [(794, 91, 792, 793, 0), (799, 81, 796, 797, 798), (799, 81, 796, 797, 798)] = true := by decide +kernel
theorem icX11_prime : zk_idb zcl RX11 11 false mcX11_prime = true := by decide +kernel
theorem ecX11_prime : zk_run zcl zft zTT zPF zPB zSUf zLX11 11 false mcX11_prime ftX11_prime hcX11_prime zULf xcX11_prime 15 = true := by decide +kernel
theorem gcX11_prime {D : zD} {l : Launch} (hD : zWD D) : zCs D l xcX11_prime := ⟨tcX1_isPrime hD, tcX9_become_122 hD, tcX9_become_123 hD, trivial⟩
theorem tcX11_prime {D : zD} {l : Launch} (hD : zWD D) : zC D l mcX11_prime := zk_methC ⟨rfl, rfl⟩ hD poolX11 icX11_prime jcX11_prime ftX11_prime_ok (gcX11_prime hD) wcX11_prime ecX11_prime
def qcX11_letterAt : zQ := ((3, 4), ([(1, 1, 0), (0, 2, 0)], ([(0, 0, 0), (1, (-9223372036854775808), 9223372036854775807), (2, 0, 45)], [], [], []), ([], [], [], [], [], [])), [(some (0, 3, 0), ([(0, 0, 0), (3, 0, 31)], [], [], []), ([], [], [], [], [], []))], ([], []), (0, 0))
def mcX11_letterAt : zM := (yX11_letterAt, cX11_letterAt, 3, (some .int), { frames := 1, cells := 0, slots := 0, locals := 12 }, qcX11_letterAt)
def hcX11_letterAt : zH := ([], [], [], [], ([], 0, 0), 1)
theorem jcX11_letterAt : zk_txok RX11 hcX11_letterAt.2.2.2.2.1 := zk_txb_ok (p := (0, 0)) (by decide +kernel)
def xcX11_letterAt : List zX := []
theorem wcX11_letterAt : zk_hwsb zcl RX11 mcX11_letterAt.rm xcX11_letterAt [] = true := by decide +kernel
theorem icX11_letterAt : zk_idb zcl RX11 11 false mcX11_letterAt = true := by decide +kernel
theorem ecX11_letterAt : zk_run zcl zft zTT zPF zPB zSUf zLX11 11 false mcX11_letterAt ftX11_letterAt hcX11_letterAt zULf xcX11_letterAt 9 = true := by decide +kernel
theorem gcX11_letterAt {D : zD} {l : Launch} (hD : zWD D) : zCs D l xcX11_letterAt := trivial
theorem tcX11_letterAt {D : zD} {l : Launch} (hD : zWD D) : zC D l mcX11_letterAt := zk_methC ⟨rfl, rfl⟩ hD poolX11 icX11_letterAt jcX11_letterAt ftX11_letterAt_ok (gcX11_letterAt hD) wcX11_letterAt ecX11_letterAt
def ftX11_numberOf : List (Nat × List (Nat × Instr × Nat)) := [(18, [(0, .iload_n 2, 1), (1, .iconst 5, 1), (2, .if_icmp .ge 5, 3), (5, .iconst 1, 1), (6, .ireturn, 1), (7, .bipush 7, 2), (9, .iload_n 2, 1), (10, .iconst 1, 1), (11, .isub, 1), (12, .irem, 1), (13, .i2l, 1), (14, .lstore_n 3, 1), (15, .bipush 45, 2), (17, .istore 5, 2)]), (46, [(19, .iload 5, 2), (21, .ifCond .lt 37, 3), (24, .lload_n 0, 1), (25, .iload 5, 2), (27, .invokestatic 172, 3), (30, .istore 6, 2), (32, .iload 6, 2), (34, .ifCond .eq 18, 3), (37, .ldc2_w 344, 3), (40, .lload_n 3, 1), (41, .lmul, 1), (42, .iload 6, 2), (44, .i2l, 1), (45, .ladd, 1)]), (63, [(46, .iload_n 2, 1), (47, .iconst 1, 1), (48, .isub, 1), (49, .i2l, 1), (50, .lrem, 1), (51, .lstore_n 3, 1), (52, .iinc 5 (-5), 3), (55, .goto (-36), 3), (58, .iconst 1, 1), (59, .lload_n 3, 1), (60, .l2i, 1), (61, .iadd, 1), (62, .ireturn, 1)])]
theorem ftX11_numberOf_ok : zk_ftb cX11_numberOf ftX11_numberOf = true := by decide +kernel
def qcX11_numberOf : zQ := ((3, 4), ([(1, 1, 0), (0, 2, 0)], ([(0, 0, 0), (1, (-9223372036854775808), 9223372036854775807), (2, 0, 2147483647)], [], [], []), ([], [], [], [], [], [])), [(some (0, 3, 0), ([(0, 0, 0), (3, 1, 2147483646)], [(3, 2, 1)], [], []), ([], [], [], [], [], []))], ([], []), (0, 0))
def mcX11_numberOf : zM := (yX11_numberOf, cX11_numberOf, 7, (some .int), { frames := 2, cells := 0, slots := 0, locals := 34 }, qcX11_numberOf)
def hcX11_numberOf : zH := ([(19, [([(0, (1, 1, 0)), (2, (0, 2, 0)), (3, (1, 3, 0)), (5, (0, 4, 0))], [], ([(0, 0, 0), (3, 0, 2147483645), (4, (-5), 45), (1, (-9223372036854775808), 9223372036854775807), (2, 5, 2147483647)], [(3, 2, (-2))], [], []), ([], [], [], [], [], []), (5, ([(4, 1)], 5), 0, 0))])], [], [], [], ([], 0, 0), 51)
theorem jcX11_numberOf : zk_txok RX11 hcX11_numberOf.2.2.2.2.1 := zk_txb_ok (p := (0, 0)) (by decide +kernel)
def xcX11_numberOf : List zX := [(172, 0, 0, mcX11_letterAt)]
theorem wcX11_numberOf : zk_hwsb zcl RX11 mcX11_numberOf.rm xcX11_numberOf [(693, 75, 787, 692, 0)] = true := by decide +kernel
theorem icX11_numberOf : zk_idb zcl RX11 11 false mcX11_numberOf = true := by decide +kernel
theorem ecX11_numberOf : zk_run zcl zft zTT zPF zPB zSUf zLX11 11 false mcX11_numberOf ftX11_numberOf hcX11_numberOf zULf xcX11_numberOf 24 = true := by decide +kernel
theorem gcX11_numberOf {D : zD} {l : Launch} (hD : zWD D) : zCs D l xcX11_numberOf := ⟨tcX11_letterAt hD, trivial⟩
theorem tcX11_numberOf {D : zD} {l : Launch} (hD : zWD D) : zC D l mcX11_numberOf := zk_methC ⟨rfl, rfl⟩ hD poolX11 icX11_numberOf jcX11_numberOf ftX11_numberOf_ok (gcX11_numberOf hD) wcX11_numberOf ecX11_numberOf
def ftX11_number : List (Nat × List (Nat × Instr × Nat)) := [(24, [(0, .iload_n 1, 1), (1, .ifCond .lt 25, 3), (4, .iload_n 1, 1), (5, .iconst 2, 1), (6, .if_icmp .gt 20, 3), (9, .iload_n 2, 1), (10, .ifCond .lt 16, 3), (13, .iload_n 2, 1), (14, .aload_n 0, 1), (15, .getfield 38, 3), (18, .iload_n 1, 1), (19, .aaload, 1), (20, .getfield 134, 3), (23, .if_icmp .lt 6, 3)]), (48, [(26, .bipush (-2), 2), (28, .ireturn, 1), (29, .aload_n 0, 1), (30, .getfield 38, 3), (33, .iload_n 1, 1), (34, .aaload, 1), (35, .getfield 185, 3), (38, .iload_n 2, 1), (39, .laload, 1), (40, .aload_n 0, 1), (41, .getfield 52, 3), (44, .invokestatic 189, 3), (47, .ireturn, 1)])]
theorem ftX11_number_ok : zk_ftb cX11_number ftX11_number = true := by decide +kernel
def qcX11_number : zQ := ((4, 5), ([(2, 1, 0), (0, 2, 0), (0, 3, 0)], ([(0, 0, 0), (2, (-2147483648), 2147483647), (3, (-2147483648), 2147483647)], [], [], []), ([(1, 42)], [], [], [], [], [])), [(some (0, 0, (-2)), ([(0, 0, 0)], [], [], []), ([], [], [], [], [], [])), (some (0, 4, 0), ([(0, 0, 0), (4, 1, 2147483646), (2, 0, 2), (3, 0, 79)], [], [], []), ([], [], [], [], [], []))], ([], []), (0, 0))
def mcX11_number : zM := (yX11_number, cX11_number, 3, (some .int), { frames := 3, cells := 0, slots := 0, locals := 60 }, qcX11_number)
def hcX11_number : zH := ([], [], [], [], ([], 0, 0), 1)
theorem jcX11_number : zk_txok RX11 hcX11_number.2.2.2.2.1 := zk_txb_ok (p := (0, 0)) (by decide +kernel)
def xcX11_number : List zX := [(189, 0, 0, mcX11_numberOf)]
theorem wcX11_number : zk_hwsb zcl RX11 mcX11_number.rm xcX11_number [(820, 75, 818, 819, 0)] = true := by decide +kernel
theorem icX11_number : zk_idb zcl RX11 11 false mcX11_number = true := by decide +kernel
theorem ecX11_number : zk_run zcl zft zTT zPF zPB zSUf zLX11 11 false mcX11_number ftX11_number hcX11_number zULf xcX11_number 27 = true := by decide +kernel
theorem gcX11_number {D : zD} {l : Launch} (hD : zWD D) : zCs D l xcX11_number := ⟨tcX11_numberOf hD, trivial⟩
theorem tcX11_number {D : zD} {l : Launch} (hD : zWD D) : zC D l mcX11_number := zk_methC ⟨rfl, rfl⟩ hD poolX11 icX11_number jcX11_number ftX11_number_ok (gcX11_number hD) wcX11_number ecX11_number
def qcX11_isSide : zQ := ((2, 2), ([(0, 1, 0)], ([(0, 0, 0), (1, (-2147483648), 2147483647)], [], [], []), ([], [], [], [], [], [])), [(some (0, 0, 0), ([(0, 0, 0)], [], [], []), ([], [], [], [], [], [])), (some (0, 0, 1), ([(0, 0, 0), (1, 0, 1)], [], [], []), ([], [], [], [], [], []))], ([], []), (0, 0))
def mcX11_isSide : zM := (yX11_isSide, cX11_isSide, 1, (some .boolean), { frames := 1, cells := 0, slots := 0, locals := 12 }, qcX11_isSide)
def hcX11_isSide : zH := ([], [], [], [], ([], 0, 0), 1)
theorem jcX11_isSide : zk_txok RX11 hcX11_isSide.2.2.2.2.1 := zk_txb_ok (p := (0, 0)) (by decide +kernel)
def xcX11_isSide : List zX := []
theorem wcX11_isSide : zk_hwsb zcl RX11 mcX11_isSide.rm xcX11_isSide [] = true := by decide +kernel
theorem icX11_isSide : zk_idb zcl RX11 11 false mcX11_isSide = true := by decide +kernel
theorem ecX11_isSide : zk_run zcl zft zTT zPF zPB zSUf zLX11 11 false mcX11_isSide ftX11_isSide hcX11_isSide zULf xcX11_isSide 10 = true := by decide +kernel
theorem gcX11_isSide {D : zD} {l : Launch} (hD : zWD D) : zCs D l xcX11_isSide := trivial
theorem tcX11_isSide {D : zD} {l : Launch} (hD : zWD D) : zC D l mcX11_isSide := zk_methC ⟨rfl, rfl⟩ hD poolX11 icX11_isSide jcX11_isSide ftX11_isSide_ok (gcX11_isSide hD) wcX11_isSide ecX11_isSide
def ftX1_commonFactor : List (Nat × List (Nat × Instr × Nat)) := [(23, [(0, .iconst 0, 1), (1, .istore 4, 2), (3, .iload 4, 2), (5, .sipush 200, 3), (8, .if_icmp .ge 25, 3), (11, .lload_n 2, 1), (12, .lconst 0, 1), (13, .lcmp, 1), (14, .ifCond .eq 19, 3), (17, .lload_n 0, 1), (18, .lload_n 2, 1), (19, .lrem, 1), (20, .lstore 5, 2), (22, .lload_n 2, 1)]), (35, [(23, .lstore_n 0, 1), (24, .lload 5, 2), (26, .lstore_n 2, 1), (27, .iinc 4 1, 3), (30, .goto (-27), 3), (33, .lload_n 0, 1), (34, .lreturn, 1)])]
theorem ftX1_commonFactor_ok : zk_ftb cX1_commonFactor ftX1_commonFactor = true := by decide +kernel
def qcX1_commonFactor : zQ := ((3, 4), ([(1, 1, 0), (1, 2, 0)], ([(0, 0, 0), (1, (-9223372036854775808), 9223372036854775807), (2, (-9223372036854775808), 9223372036854775807)], [], [], []), ([], [], [], [], [], [])), [(some (1, 3, 0), ([(0, 0, 0), (3, (-9223372036854775808), 9223372036854775807)], [], [], []), ([], [], [], [], [], []))], ([], []), (0, 0))
def mcX1_commonFactor : zM := (yX1_commonFactor, cX1_commonFactor, 7, (some .long), { frames := 1, cells := 0, slots := 0, locals := 12 }, qcX1_commonFactor)
def hcX1_commonFactor : zH := ([(3, [([(0, (1, 3, 0)), (2, (1, 4, 0)), (4, (0, 5, 0))], [], ([(0, 0, 0), (3, (-9223372036854775808), 9223372036854775807), (4, (-9223372036854775808), 9223372036854775807), (5, 0, 200), (1, (-9223372036854775808), 9223372036854775807), (2, (-9223372036854775808), 9223372036854775807)], [], [], []), ([], [], [], [], [], []), (6, ([(5, (-1))], 200), 0, 0))])], [], [], [], ([], 0, 0), 401)
theorem jcX1_commonFactor : zk_txok RX1 hcX1_commonFactor.2.2.2.2.1 := zk_txb_ok (p := (0, 0)) (by decide +kernel)
def xcX1_commonFactor : List zX := []
theorem wcX1_commonFactor : zk_hwsb zcl RX1 mcX1_commonFactor.rm xcX1_commonFactor [] = true := by decide +kernel
theorem icX1_commonFactor : zk_idb zcl RX1 0 false mcX1_commonFactor = true := by decide +kernel
theorem ecX1_commonFactor : zk_run zcl zft zTT zPF zPB zSUf zLX1 0 false mcX1_commonFactor ftX1_commonFactor hcX1_commonFactor zULf xcX1_commonFactor 19 = true := by decide +kernel
theorem gcX1_commonFactor {D : zD} {l : Launch} (hD : zWD D) : zCs D l xcX1_commonFactor := trivial
theorem tcX1_commonFactor {D : zD} {l : Launch} (hD : zWD D) : zC D l mcX1_commonFactor := zk_methC ⟨rfl, rfl⟩ hD poolX1 icX1_commonFactor jcX1_commonFactor ftX1_commonFactor_ok (gcX1_commonFactor hD) wcX1_commonFactor ecX1_commonFactor
def ftX9_allows : List (Nat × List (Nat × Instr × Nat)) := [(44, [(0, .iload_n 0, 1), (1, .tableswitch 94 0 2 #[27, 59, 77], 27), (28, .iload_n 1, 1), (29, .iconst 1, 1), (30, .if_icmp .lt 28, 3), (33, .iload_n 1, 1), (34, .iload_n 2, 1), (35, .iconst 2, 1), (36, .isub, 1), (37, .if_icmp .gt 21, 3), (40, .iload_n 1, 1), (41, .i2l, 1), (42, .iload_n 2, 1), (43, .iconst 1, 1)]), (66, [(44, .isub, 1), (45, .i2l, 1), (46, .invokestatic 29, 3), (49, .lconst 1, 1), (50, .lcmp, 1), (51, .ifCond .ne 7, 3), (54, .iconst 1, 1), (55, .goto 4, 3), (58, .iconst 0, 1), (59, .ireturn, 1), (60, .iload_n 1, 1), (61, .iconst 1, 1), (62, .if_icmp .lt 14, 3), (65, .iload_n 1, 1)]), (86, [(66, .iload_n 2, 1), (67, .iconst 1, 1), (68, .isub, 1), (69, .if_icmp .gt 7, 3), (72, .iconst 1, 1), (73, .goto 4, 3), (76, .iconst 0, 1), (77, .ireturn, 1), (78, .iload_n 1, 1), (79, .ifCond .lt 14, 3), (82, .iload_n 1, 1), (83, .iload_n 2, 1), (84, .iconst 2, 1), (85, .isub, 1)]), (97, [(86, .if_icmp .gt 7, 3), (89, .iconst 1, 1), (90, .goto 4, 3), (93, .iconst 0, 1), (94, .ireturn, 1), (95, .iconst 0, 1), (96, .ireturn, 1)])]
theorem ftX9_allows_ok : zk_ftb cX9_allows ftX9_allows = true := by decide +kernel
def qcX9_allows : zQ := ((4, 4), ([(0, 1, 0), (0, 2, 0), (0, 3, 0)], ([(0, 0, 0), (1, (-2147483648), 2147483647), (2, (-2147483648), 2147483647), (3, 5, 2147483647)], [], [], []), ([], [], [], [], [], [])), [(some (0, 0, 0), ([(0, 0, 0)], [], [], []), ([], [], [], [], [], [])), (some (0, 0, 1), ([(0, 0, 0), (1, 0, 2), (2, 0, 2147483646)], [(2, 3, (-1))], [], []), ([], [], [], [], [], []))], ([], []), (0, 0))
def mcX9_allows : zM := (yX9_allows, cX9_allows, 3, (some .boolean), { frames := 2, cells := 0, slots := 0, locals := 38 }, qcX9_allows)
def hcX9_allows : zH := ([], [], [], [], ([], 0, 0), 1)
theorem jcX9_allows : zk_txok RX9 hcX9_allows.2.2.2.2.1 := zk_txb_ok (p := (0, 0)) (by decide +kernel)
def xcX9_allows : List zX := [(29, 0, 0, mcX1_commonFactor)]
theorem wcX9_allows : zk_hwsb zcl RX9 mcX9_allows.rm xcX9_allows [(831, 91, 829, 830, 0)] = true := by decide +kernel
theorem icX9_allows : zk_idb zcl RX9 9 false mcX9_allows = true := by decide +kernel
theorem ecX9_allows : zk_run zcl zft zTT zPF zPB zSUf zLX9 9 false mcX9_allows ftX9_allows hcX9_allows zULf xcX9_allows 25 = true := by decide +kernel
theorem gcX9_allows {D : zD} {l : Launch} (hD : zWD D) : zCs D l xcX9_allows := ⟨tcX1_commonFactor hD, trivial⟩
theorem tcX9_allows {D : zD} {l : Launch} (hD : zWD D) : zC D l mcX9_allows := zk_methC ⟨rfl, rfl⟩ hD poolX9 icX9_allows jcX9_allows ftX9_allows_ok (gcX9_allows hD) wcX9_allows ecX9_allows
def ftX11_turning : List (Nat × List (Nat × Instr × Nat)) := [(27, [(0, .iload_n 1, 1), (1, .invokestatic 123, 3), (4, .ifCond .eq 15, 3), (7, .iload_n 2, 1), (8, .iload_n 3, 1), (9, .aload_n 0, 1), (10, .getfield 52, 3), (13, .invokestatic 192, 3), (16, .ifCond .ne 6, 3), (19, .bipush (-2), 2), (21, .ireturn, 1), (22, .aload_n 0, 1), (23, .getfield 59, 3), (26, .iload_n 1, 1)]), (44, [(27, .aaload, 1), (28, .iload_n 2, 1), (29, .iload_n 3, 1), (30, .aload_n 0, 1), (31, .getfield 52, 3), (34, .invokevirtual 181, 3), (37, .aload_n 0, 1), (38, .iconst 0, 1), (39, .putfield 93, 3), (42, .iconst 1, 1), (43, .ireturn, 1)])]
theorem ftX11_turning_ok : zk_ftb cX11_turning ftX11_turning = true := by decide +kernel
def qcX11_turning : zQ := ((5, 5), ([(2, 1, 0), (0, 2, 0), (0, 3, 0), (0, 4, 0)], ([(0, 0, 0), (2, (-2147483648), 2147483647), (3, (-2147483648), 2147483647), (4, (-2147483648), 2147483647)], [], [], []), ([(1, 42)], [], [], [], [], [])), [(some (0, 0, (-2)), ([(0, 0, 0)], [], [], []), ([], [], [], [], [], [])), (some (0, 0, 1), ([(0, 0, 0), (2, 0, 1), (3, 0, 2), (4, 0, 2147483646)], [], [], []), ([], [], [], [], [], []))], ([(42, 13), (122, 1), (122, 2), (122, 3), (122, 4), (123, 1), (123, 2), (123, 3), (123, 4)], [124, 125]), (0, 0))
def mcX11_turning : zM := (yX11_turning, cX11_turning, 4, (some .int), { frames := 4, cells := 0, slots := 0, locals := 84 }, qcX11_turning)
def hcX11_turning : zH := ([], [], [], [], ([], 0, 0), 1)
theorem jcX11_turning : zk_txok RX11 hcX11_turning.2.2.2.2.1 := zk_txb_ok (p := (0, 0)) (by decide +kernel)
def xcX11_turning : List zX := [(123, 0, 0, mcX11_isSide), (181, 2, 9, mcX9_become_122), (181, 2, 9, mcX9_become_123), (192, 0, 0, mcX9_allows)]
theorem wcX11_turning : zk_hwsb zcl RX11 mcX11_turning.rm xcX11_turning [(673, 75, 671, 672, 0), (799, 81, 796, 797, 798), (799, 81, 796, 797, 798), (828, 81, 826, 827, 0)] = true := by decide +kernel
theorem icX11_turning : zk_idb zcl RX11 11 false mcX11_turning = true := by decide +kernel
theorem ecX11_turning : zk_run zcl zft zTT zPF zPB zSUf zLX11 11 false mcX11_turning ftX11_turning hcX11_turning zULf xcX11_turning 25 = true := by decide +kernel
theorem gcX11_turning {D : zD} {l : Launch} (hD : zWD D) : zCs D l xcX11_turning := ⟨tcX11_isSide hD, tcX9_become_122 hD, tcX9_become_123 hD, tcX9_allows hD, trivial⟩
theorem tcX11_turning {D : zD} {l : Launch} (hD : zWD D) : zC D l mcX11_turning := zk_methC ⟨rfl, rfl⟩ hD poolX11 icX11_turning jcX11_turning ftX11_turning_ok (gcX11_turning hD) wcX11_turning ecX11_turning
def ftJ9_floorMod_f86c9 : List (Nat × List (Nat × Instr × Nat)) := [(18, [(0, .lload_n 0, 1), (1, .lload_n 2, 1), (2, .lrem, 1), (3, .lstore 4, 2), (5, .lload_n 0, 1), (6, .lload_n 2, 1), (7, .lxor, 1), (8, .lconst 0, 1), (9, .lcmp, 1), (10, .ifCond .ge 15, 3), (13, .lload 4, 2), (15, .lconst 0, 1), (16, .lcmp, 1), (17, .ifCond .eq 8, 3)]), (28, [(20, .lload 4, 2), (22, .lload_n 2, 1), (23, .ladd, 1), (24, .lreturn, 1), (25, .lload 4, 2), (27, .lreturn, 1)])]
theorem ftJ9_floorMod_f86c9_ok : zk_ftb cJ9_floorMod_f86c9 ftJ9_floorMod_f86c9 = true := by decide +kernel
def qcJ9_floorMod_f86c9 : zQ := ((3, 4), ([(1, 1, 0), (1, 2, 0)], ([(0, 0, 0), (1, (-9223372036854775808), 9223372036854775807), (2, 4, 2147483647)], [], [], []), ([], [], [], [], [], [])), [(some (1, 3, 0), ([(0, 0, 0), (3, (-9223372036854775808), 9223372036854775807)], [], [], []), ([], [], [], [], [], []))], ([], []), (0, 0))
def mcJ9_floorMod_f86c9 : zM := (yJ9_floorMod_f86c9, cJ9_floorMod_f86c9, 6, (some .long), { frames := 1, cells := 0, slots := 0, locals := 12 }, qcJ9_floorMod_f86c9)
def hcJ9_floorMod_f86c9 : zH := ([], [], [], [], ([], 0, 0), 1)
theorem jcJ9_floorMod_f86c9 : zk_txok RJ9 hcJ9_floorMod_f86c9.2.2.2.2.1 := zk_txb_ok (p := (0, 0)) (by decide +kernel)
def xcJ9_floorMod_f86c9 : List zX := []
theorem wcJ9_floorMod_f86c9 : zk_hwsb zcl RJ9 mcJ9_floorMod_f86c9.rm xcJ9_floorMod_f86c9 [] = true := by decide +kernel
theorem icJ9_floorMod_f86c9 : zk_idb zcl RJ9 0 false mcJ9_floorMod_f86c9 = true := by decide +kernel
theorem ecJ9_floorMod_f86c9 : zk_run zcl zft zTT zPF zPB zSUf zLJ9 0 false mcJ9_floorMod_f86c9 ftJ9_floorMod_f86c9 hcJ9_floorMod_f86c9 zULf xcJ9_floorMod_f86c9 20 = true := by decide +kernel
theorem gcJ9_floorMod_f86c9 {D : zD} {l : Launch} (hD : zWD D) : zCs D l xcJ9_floorMod_f86c9 := trivial
theorem tcJ9_floorMod_f86c9 {D : zD} {l : Launch} (hD : zWD D) : zC D l mcJ9_floorMod_f86c9 := zk_methC ⟨rfl, rfl⟩ hD poolJ9 icJ9_floorMod_f86c9 jcJ9_floorMod_f86c9 ftJ9_floorMod_f86c9_ok (gcJ9_floorMod_f86c9 hD) wcJ9_floorMod_f86c9 ecJ9_floorMod_f86c9
