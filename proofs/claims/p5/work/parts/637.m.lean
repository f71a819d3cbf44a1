/-! METHODS (printed by wip/t4) -/
def ftX12_settle : List (Nat × List (Nat × Instr × Nat)) := [(20, [(0, .aload_n 0, 1), (1, .getfield 28, 3), (4, .iload_n 1, 1), (5, .aload_n 0, 1), (6, .getfield 28, 3), (9, .iconst 3, 1), (10, .iaload, 1), (11, .iastore, 1), (12, .iconst 0, 1), (13, .istore_n 2, 1), (14, .iload_n 2, 1), (15, .aload_n 0, 1), (16, .getfield 28, 3), (19, .iconst 3, 1)]), (42, [(20, .iaload, 1), (21, .if_icmp .ge 69, 3), (24, .aload_n 0, 1), (25, .getfield 31, 3), (28, .bipush 40, 2), (30, .iload_n 1, 1), (31, .imul, 1), (32, .iload_n 2, 1), (33, .iadd, 1), (34, .aload_n 0, 1), (35, .getfield 31, 3), (38, .bipush 120, 2), (40, .iload_n 2, 1), (41, .iadd, 1)]), (62, [(42, .laload, 1), (43, .lastore, 1), (44, .aload_n 0, 1), (45, .getfield 35, 3), (48, .bipush 40, 2), (50, .iload_n 1, 1), (51, .imul, 1), (52, .iload_n 2, 1), (53, .iadd, 1), (54, .aload_n 0, 1), (55, .getfield 35, 3), (58, .bipush 120, 2), (60, .iload_n 2, 1), (61, .iadd, 1)]), (82, [(62, .laload, 1), (63, .lastore, 1), (64, .aload_n 0, 1), (65, .getfield 38, 3), (68, .bipush 40, 2), (70, .iload_n 1, 1), (71, .imul, 1), (72, .iload_n 2, 1), (73, .iadd, 1), (74, .aload_n 0, 1), (75, .getfield 38, 3), (78, .bipush 120, 2), (80, .iload_n 2, 1), (81, .iadd, 1)]), (97, [(82, .iaload, 1), (83, .iastore, 1), (84, .iinc 2 1, 3), (87, .goto (-73), 3), (90, .aload_n 0, 1), (91, .getfield 28, 3), (94, .iload_n 1, 1), (95, .iaload, 1), (96, .ireturn, 1)])]
theorem ftX12_settle_ok : zk_ftb cX12_settle ftX12_settle = true := by decide +kernel
def qcX12_settle_k0 : zQ := ((4, 4), ([(2, 1, 0), (0, 0, 0)], ([(0, 0, 0), (3, 0, 40)], [], [], []), ([(1, 43), (2, 77)], [(1, 12, 17, (2, 2, 0))], [(2, 77, (0, 0, 3), (0, 3, 0))], [], [], [(108, [])])), [(some (0, 3, 0), ([(0, 0, 0)], [], [], []), ([], [], [], [], [], [(108, [])]))], ([], [77, 78, 79, 80]), (0, 0))
def mcX12_settle_k0 : zM := (yX12_settle, cX12_settle, 3, (some .int), { frames := 1, cells := 0, slots := 0, locals := 12 }, qcX12_settle_k0)
def hcX12_settle_k0 : zH := ([(14, [([(0, (2, 1, 0)), (1, (0, 0, 0)), (2, (0, 4, 0))], [], ([(0, 0, 0), (4, 0, 40), (3, 0, 40)], [(4, 3, 0)], [], []), ([(1, 43), (2, 77)], [(1, 12, 17, (2, 2, 0))], [(2, 77, (0, 0, 0), (0, 3, 0)), (2, 77, (0, 0, 3), (0, 3, 0))], [], [], [(108, [])]), (5, ([(4, (-1))], 40), 0, 0))])], [], [], [], ([], 0, 0), 81)
theorem jcX12_settle_k0 : zk_txok RX12 hcX12_settle_k0.2.2.2.2.1 := zk_txb_ok (p := (0, 0)) (by decide +kernel)
def xcX12_settle_k0 : List zX := []
theorem wcX12_settle_k0 : zk_hwsb zcl RX12 mcX12_settle_k0.rm xcX12_settle_k0 [] = true := by decide +kernel
theorem icX12_settle_k0 : zk_idb zcl RX12 12 false mcX12_settle_k0 = true := by decide +kernel
theorem ecX12_settle_k0 : zk_run zcl zft zTT zPF zPB zSUf zLX12 12 false mcX12_settle_k0 ftX12_settle hcX12_settle_k0 zULf xcX12_settle_k0 52 = true := by decide +kernel
theorem gcX12_settle_k0 {D : zD} {l : Launch} (hD : zWD D) : zCs D l xcX12_settle_k0 := trivial
theorem tcX12_settle_k0 {D : zD} {l : Launch} (hD : zWD D) : zC D l mcX12_settle_k0 := zk_methC ⟨rfl, rfl⟩ hD poolX12 icX12_settle_k0 jcX12_settle_k0 ftX12_settle_ok (gcX12_settle_k0 hD) wcX12_settle_k0 ecX12_settle_k0
def qcX12_settle_k1 : zQ := ((4, 4), ([(2, 1, 0), (0, 0, 1)], ([(0, 0, 0), (3, 0, 40)], [], [], []), ([(1, 43), (2, 77)], [(1, 12, 17, (2, 2, 0))], [(2, 77, (0, 0, 3), (0, 3, 0))], [], [], [(108, [])])), [(some (0, 3, 0), ([(0, 0, 0)], [], [], []), ([], [], [], [], [], [(108, [])]))], ([], [77, 78, 79, 80]), (0, 0))
def mcX12_settle_k1 : zM := (yX12_settle, cX12_settle, 3, (some .int), { frames := 1, cells := 0, slots := 0, locals := 12 }, qcX12_settle_k1)
def hcX12_settle_k1 : zH := ([(14, [([(0, (2, 1, 0)), (1, (0, 0, 1)), (2, (0, 4, 0))], [], ([(0, 0, 0), (4, 0, 40), (3, 0, 40)], [(4, 3, 0)], [], []), ([(1, 43), (2, 77)], [(1, 12, 17, (2, 2, 0))], [(2, 77, (0, 0, 1), (0, 3, 0)), (2, 77, (0, 0, 3), (0, 3, 0))], [], [], [(108, [])]), (5, ([(4, (-1))], 40), 0, 0))])], [], [], [], ([], 0, 0), 81)
theorem jcX12_settle_k1 : zk_txok RX12 hcX12_settle_k1.2.2.2.2.1 := zk_txb_ok (p := (0, 0)) (by decide +kernel)
def xcX12_settle_k1 : List zX := []
theorem wcX12_settle_k1 : zk_hwsb zcl RX12 mcX12_settle_k1.rm xcX12_settle_k1 [] = true := by decide +kernel
theorem icX12_settle_k1 : zk_idb zcl RX12 12 false mcX12_settle_k1 = true := by decide +kernel
theorem ecX12_settle_k1 : zk_run zcl zft zTT zPF zPB zSUf zLX12 12 false mcX12_settle_k1 ftX12_settle hcX12_settle_k1 zULf xcX12_settle_k1 52 = true := by decide +kernel
theorem gcX12_settle_k1 {D : zD} {l : Launch} (hD : zWD D) : zCs D l xcX12_settle_k1 := trivial
theorem tcX12_settle_k1 {D : zD} {l : Launch} (hD : zWD D) : zC D l mcX12_settle_k1 := zk_methC ⟨rfl, rfl⟩ hD poolX12 icX12_settle_k1 jcX12_settle_k1 ftX12_settle_ok (gcX12_settle_k1 hD) wcX12_settle_k1 ecX12_settle_k1
def ftX12_list : List (Nat × List (Nat × Instr × Nat)) := [(27, [(0, .aload_n 0, 1), (1, .invokevirtual 260, 3), (4, .iload_n 1, 1), (5, .invokestatic 294, 3), (8, .ifCond .ne 6, 3), (11, .bipush (-2), 2), (13, .ireturn, 1), (14, .aload_n 0, 1), (15, .invokevirtual 263, 3), (18, .aload_n 0, 1), (19, .iconst 0, 1), (20, .invokevirtual 297, 3), (23, .ifCond .ne 5, 3), (26, .iconst (-1), 1)]), (49, [(27, .ireturn, 1), (28, .aload_n 0, 1), (29, .iconst 0, 1), (30, .putfield 272, 3), (33, .aload_n 0, 1), (34, .iconst 0, 1), (35, .putfield 275, 3), (38, .aload_n 0, 1), (39, .iconst 0, 1), (40, .putfield 278, 3), (43, .aload_n 0, 1), (44, .iload_n 1, 1), (45, .invokevirtual 300, 3), (48, .ireturn, 1)])]
theorem ftX12_list_ok : zk_ftb cX12_list ftX12_list = true := by decide +kernel
def qcX12_list : zQ := ((15, 16), ([(2, 1, 0), (0, 2, 0)], ([(0, 0, 0), (2, (-2147483648), 2147483647), (4, 0, 1200), (12, 0, 1), (13, 0, 10)], [], [], []), ([(1, 43), (3, 73), (5, 74), (6, 75), (7, 76), (8, 78), (9, 79), (10, 80), (11, 77), (14, 45)], [(1, 12, 0, (2, 3, 0)), (1, 12, 1, (0, 4, 0)), (1, 12, 12, (2, 5, 0)), (1, 12, 13, (2, 6, 0)), (1, 12, 14, (2, 7, 0)), (1, 12, 18, (2, 8, 0)), (1, 12, 19, (2, 9, 0)), (1, 12, 20, (2, 10, 0)), (1, 12, 17, (2, 11, 0))], [(6, 75, (0, 0, 0), (0, 12, 0)), (7, 76, (0, 0, 0), (0, 13, 0))], [], [], [(0, []), (110, []), (109, []), (390, [(2, 14, 0), (2, 5, 0)])])), [(some (0, 0, (-2)), ([(0, 0, 0), (2, 2, 2147483647)], [], [], []), ([], [(1, 12, 1, (0, 0, 0)), (1, 12, 13, (2, 6, 0)), (1, 12, 14, (2, 7, 0))], [(6, 75, (0, 0, 0), (0, 12, 0)), (7, 76, (0, 0, 0), (0, 13, 0))], [], [], [(110, []), (109, [])])), (some (0, 0, (-2)), ([(0, 0, 0), (2, (-2147483648), (-1))], [], [], []), ([], [(1, 12, 1, (0, 0, 0)), (1, 12, 13, (2, 6, 0)), (1, 12, 14, (2, 7, 0))], [(6, 75, (0, 0, 0), (0, 12, 0)), (7, 76, (0, 0, 0), (0, 13, 0))], [], [], [(110, []), (109, [])])), (some (0, 0, (-1)), ([(0, 0, 0), (2, 0, 1)], [], [], []), ([], [(1, 12, 1, (0, 0, 0)), (1, 12, 13, (2, 6, 0)), (1, 12, 14, (2, 7, 0))], [(6, 75, (0, 0, 0), (0, 12, 0)), (7, 76, (0, 0, 0), (0, 13, 0))], [], [], [(451, [(2, 3, 0), (0, 4, 0), (2, 5, 0), (0, 12, 0), (0, 13, 0), (0, 0, 40), (0, 0, 1), (0, 0, (-1))]), (110, []), (109, [])])), (some (0, 15, 0), ([(0, 0, 0), (15, 0, 40), (2, 0, 1)], [], [], []), ([], [(1, 12, 1, (0, 0, 0)), (1, 12, 13, (2, 6, 0)), (1, 12, 14, (2, 7, 0))], [(6, 75, (0, 0, 0), (0, 12, 0)), (7, 76, (0, 0, 0), (0, 13, 0))], [], [], [(451, [(2, 3, 0), (0, 4, 0), (2, 5, 0), (0, 12, 0), (0, 13, 0), (0, 0, 40), (0, 0, 1), (0, 15, 0)]), (110, []), (109, [])]))], ([(43, 1), (43, 2), (43, 3), (43, 4), (43, 5), (43, 6), (43, 7), (43, 8), (43, 9), (43, 10), (43, 50), (43, 60), (43, 61)], [77, 78, 79, 80]), (0, 0))
def mcX12_list : zM := (yX12_list, cX12_list, 2, (some .int), { frames := 9, cells := 0, slots := 0, locals := 191 }, qcX12_list)
def hcX12_list : zH := ([], [], [(14, [(9, 932, 0)]), (26, [(9, 843, 0)]), (28, [(9, 862, 0)]), (45, [(0, 1, 0), (1, 1, 0)]), (48, [(9, 60, 0)])], [], ([], 0, 0), 1)
theorem jcX12_list : zk_txok RX12 hcX12_list.2.2.2.2.1 := zk_txb_ok (p := (0, 0)) (by decide +kernel)
def xcX12_list : List zX := [(260, 2, 12, mcX12_take_tk), (263, 2, 12, mcX12_fresh_tk), (294, 0, 0, mcX12_isSide_s), (297, 2, 12, mcX12_readList_tl_k0), (300, 2, 12, mcX12_settle_k0), (300, 2, 12, mcX12_settle_k1)]
theorem wcX12_list : zk_hwsb zcl RX12 mcX12_list.rm xcX12_list [(1388, 86, 1385, 1387, 37), (1415, 86, 1412, 1414, 41), (1447, 86, 1445, 1446, 0), (1451, 86, 1448, 1450, 47), (1465, 86, 1462, 1464, 50), (1465, 86, 1462, 1464, 50)] = true := by decide +kernel
theorem icX12_list : zk_idb zcl RX12 12 false mcX12_list = true := by decide +kernel
theorem ecX12_list : zk_run zcl zft zTT zPF zPB zSUf zLX12 12 false mcX12_list ftX12_list hcX12_list zULf xcX12_list 26 = true := by decide +kernel
theorem gcX12_list {D : zD} {l : Launch} (hD : zWD D) : zCs D l xcX12_list := ⟨tcX12_take_tk hD, tcX12_fresh_tk hD, tcX12_isSide_s hD, tcX12_readList_tl_k0 hD, tcX12_settle_k0 hD, tcX12_settle_k1 hD, trivial⟩
theorem tcX12_list {D : zD} {l : Launch} (hD : zWD D) : zC D l mcX12_list := zk_methC ⟨rfl, rfl⟩ hD poolX12 icX12_list jcX12_list ftX12_list_ok (gcX12_list hD) wcX12_list ecX12_list
def qcX12_fresh : zQ := ((2, 2), ([(2, 1, 0)], ([(0, 0, 0)], [], [], []), ([(1, 43)], [], [], [], [], [])), [(none, ([(0, 0, 0)], [], [], []), ([], [], [], [], [], []))], ([(43, 8), (43, 9)], []), (0, 0))
def mcX12_fresh : zM := (yX12_fresh, cX12_fresh, 1, none, { frames := 1, cells := 0, slots := 0, locals := 12 }, qcX12_fresh)
def hcX12_fresh : zH := ([], [], [], [], ([], 0, 0), 1)
theorem jcX12_fresh : zk_txok RX12 hcX12_fresh.2.2.2.2.1 := zk_txb_ok (p := (0, 0)) (by decide +kernel)
def xcX12_fresh : List zX := []
theorem wcX12_fresh : zk_hwsb zcl RX12 mcX12_fresh.rm xcX12_fresh [] = true := by decide +kernel
theorem icX12_fresh : zk_idb zcl RX12 12 false mcX12_fresh = true := by decide +kernel
theorem ecX12_fresh : zk_run zcl zft zTT zPF zPB zSUf zLX12 12 false mcX12_fresh ftX12_fresh hcX12_fresh zULf xcX12_fresh 9 = true := by decide +kernel
theorem gcX12_fresh {D : zD} {l : Launch} (hD : zWD D) : zCs D l xcX12_fresh := trivial
theorem tcX12_fresh {D : zD} {l : Launch} (hD : zWD D) : zC D l mcX12_fresh := zk_methC ⟨rfl, rfl⟩ hD poolX12 icX12_fresh jcX12_fresh ftX12_fresh_ok (gcX12_fresh hD) wcX12_fresh ecX12_fresh
def qcX12_fails : zQ := ((3, 3), ([(2, 1, 0), (0, 2, 0)], ([(0, 0, 0), (2, 1, 6)], [], [], []), ([(1, 43)], [], [], [], [], [])), [(some (0, 0, 0), ([(0, 0, 0)], [], [], []), ([], [], [], [], [], []))], ([(43, 8), (43, 9)], []), (0, 0))
def mcX12_fails : zM := (yX12_fails, cX12_fails, 2, (some .boolean), { frames := 1, cells := 0, slots := 0, locals := 12 }, qcX12_fails)
def hcX12_fails : zH := ([], [], [], [], ([], 0, 0), 1)
theorem jcX12_fails : zk_txok RX12 hcX12_fails.2.2.2.2.1 := zk_txb_ok (p := (0, 0)) (by decide +kernel)
def xcX12_fails : List zX := []
theorem wcX12_fails : zk_hwsb zcl RX12 mcX12_fails.rm xcX12_fails [] = true := by decide +kernel
theorem icX12_fails : zk_idb zcl RX12 12 false mcX12_fails = true := by decide +kernel
theorem ecX12_fails : zk_run zcl zft zTT zPF zPB zSUf zLX12 12 false mcX12_fails ftX12_fails hcX12_fails zULf xcX12_fails 11 = true := by decide +kernel
theorem gcX12_fails {D : zD} {l : Launch} (hD : zWD D) : zCs D l xcX12_fails := trivial
theorem tcX12_fails {D : zD} {l : Launch} (hD : zWD D) : zC D l mcX12_fails := zk_methC ⟨rfl, rfl⟩ hD poolX12 icX12_fails jcX12_fails ftX12_fails_ok (gcX12_fails hD) wcX12_fails ecX12_fails
def qcX12_isName_k3 : zQ := ((3, 3), ([(2, 1, 0), (0, 0, 3), (1, 2, 0)], ([(0, 0, 0), (2, (-9223372036854775808), 9223372036854775807)], [], [], []), ([(1, 43)], [], [], [], [], [])), [(some (0, 0, 0), ([(0, 0, 0)], [], [], []), ([], [], [], [], [], [])), (some (0, 0, 1), ([(0, 0, 0)], [], [], []), ([], [], [], [], [], []))], ([], []), (0, 0))
def mcX12_isName_k3 : zM := (yX12_isName, cX12_isName, 5, (some .boolean), { frames := 1, cells := 0, slots := 0, locals := 12 }, qcX12_isName_k3)
def hcX12_isName_k3 : zH := ([(3, [([(0, (2, 1, 0)), (1, (0, 0, 3)), (2, (1, 2, 0)), (4, (0, 3, 0))], [], ([(0, 0, 0), (3, 0, 40), (2, (-9223372036854775808), 9223372036854775807)], [], [], []), ([(1, 43)], [], [], [], [], []), (4, ([(3, (-1))], 40), 0, 0))])], [], [], [], ([], 0, 0), 81)
theorem jcX12_isName_k3 : zk_txok RX12 hcX12_isName_k3.2.2.2.2.1 := zk_txb_ok (p := (0, 0)) (by decide +kernel)
def xcX12_isName_k3 : List zX := []
theorem wcX12_isName_k3 : zk_hwsb zcl RX12 mcX12_isName_k3.rm xcX12_isName_k3 [] = true := by decide +kernel
theorem icX12_isName_k3 : zk_idb zcl RX12 12 false mcX12_isName_k3 = true := by decide +kernel
theorem ecX12_isName_k3 : zk_run zcl zft zTT zPF zPB zSUf zLX12 12 false mcX12_isName_k3 ftX12_isName hcX12_isName_k3 zULf xcX12_isName_k3 21 = true := by decide +kernel
theorem gcX12_isName_k3 {D : zD} {l : Launch} (hD : zWD D) : zCs D l xcX12_isName_k3 := trivial
theorem tcX12_isName_k3 {D : zD} {l : Launch} (hD : zWD D) : zC D l mcX12_isName_k3 := zk_methC ⟨rfl, rfl⟩ hD poolX12 icX12_isName_k3 jcX12_isName_k3 ftX12_isName_ok (gcX12_isName_k3 hD) wcX12_isName_k3 ecX12_isName_k3
def qcX12_keyOf : zQ := ((3, 4), ([(2, 1, 0), (1, 2, 0)], ([(0, 0, 0), (2, 0, 9223372036854775807)], [], [], []), ([(1, 43)], [], [], [], [], [])), [(some (1, 3, 0), ([(0, 0, 0), (3, (-9223372036854775808), 9223372036854775807)], [], [], []), ([], [], [], [], [], []))], ([], []), (0, 0))
def mcX12_keyOf : zM := (yX12_keyOf, cX12_keyOf, 11, (some .long), { frames := 1, cells := 0, slots := 0, locals := 12 }, qcX12_keyOf)
def hcX12_keyOf : zH := ([(12, [([(0, (2, 1, 0)), (1, (1, 2, 0)), (3, (1, 3, 0)), (5, (0, 4, 0)), (6, (0, 5, 0)), (7, (0, 6, 0))], [], ([(0, 0, 0), (3, (-9223372036854775808), 9223372036854775807), (5, (-2147483648), 2147483647), (6, (-5), 45), (2, 0, 9223372036854775807)], [], [], []), ([(1, 43)], [], [], [], [], []), (7, ([(6, 1)], 5), 0, 0))])], [], [(117, [(3, 0, 0)])], [], ([], 0, 0), 51)
theorem jcX12_keyOf : zk_txok RX12 hcX12_keyOf.2.2.2.2.1 := zk_txb_ok (p := (0, 0)) (by decide +kernel)
def xcX12_keyOf : List zX := []
theorem wcX12_keyOf : zk_hwsb zcl RX12 mcX12_keyOf.rm xcX12_keyOf [] = true := by decide +kernel
theorem icX12_keyOf : zk_idb zcl RX12 12 false mcX12_keyOf = true := by decide +kernel
theorem ecX12_keyOf : zk_run zcl zft zTT zPF zPB zSUf zLX12 12 false mcX12_keyOf ftX12_keyOf hcX12_keyOf zULf xcX12_keyOf 60 = true := by decide +kernel
theorem gcX12_keyOf {D : zD} {l : Launch} (hD : zWD D) : zCs D l xcX12_keyOf := trivial
theorem tcX12_keyOf {D : zD} {l : Launch} (hD : zWD D) : zC D l mcX12_keyOf := zk_methC ⟨rfl, rfl⟩ hD poolX12 icX12_keyOf jcX12_keyOf ftX12_keyOf_ok (gcX12_keyOf hD) wcX12_keyOf ecX12_keyOf
def qcX12_see_43 : zQ := ((3, 6), ([(2, 1, 0), (0, 2, 0)], ([(0, 0, 0), (2, 0, 1200)], [], [], []), ([(1, 43)], [], [], [], [], [])), [(some (0, 0, (-1)), ([(0, 0, 0), (3, 0, 1200)], [(3, 2, 0)], [], []), ([], [(1, 12, 2, (0, 3, 0))], [], [], [], [])), (some (0, 3, 0), ([(0, 0, 0), (3, 0, 127), (2, 0, 1199), (5, 1, 1200)], [(2, 5, (-1))], [], []), ([(4, 73)], [(1, 12, 0, (2, 4, 0)), (1, 12, 2, (0, 5, 0))], [(4, 73, (0, 2, 0), (0, 3, 0))], [], [], [])), (some (0, 3, 0), ([(0, 0, 0), (3, 128, 255), (2, 0, 1199), (5, 1, 1200)], [(2, 5, (-1))], [], []), ([(4, 73)], [(1, 12, 0, (2, 4, 0)), (1, 12, 2, (0, 5, 0))], [(4, 73, (0, 2, 0), (0, 3, (-256)))], [], [], []))], ([], []), (0, 0))
def mcX12_see_43 : zM := (yX12_see, cX12_see, 2, (some .int), { frames := 1, cells := 0, slots := 0, locals := 12 }, qcX12_see_43)
def hcX12_see_43 : zH := ([], [], [(14, [(5, 0, (-1))])], [], ([], 0, 0), 1)
theorem jcX12_see_43 : zk_txok RX12 hcX12_see_43.2.2.2.2.1 := zk_txb_ok (p := (0, 0)) (by decide +kernel)
def xcX12_see_43 : List zX := []
theorem wcX12_see_43 : zk_hwsb zcl RX12 mcX12_see_43.rm xcX12_see_43 [] = true := by decide +kernel
theorem icX12_see_43 : zk_idb zcl RX12 12 false mcX12_see_43 = true := by decide +kernel
theorem ecX12_see_43 : zk_run zcl zft zTT zPF zPB zSUf zLX12 12 false mcX12_see_43 ftX12_see hcX12_see_43 zULf xcX12_see_43 14 = true := by decide +kernel
theorem gcX12_see_43 {D : zD} {l : Launch} (hD : zWD D) : zCs D l xcX12_see_43 := trivial
theorem tcX12_see_43 {D : zD} {l : Launch} (hD : zWD D) : zC D l mcX12_see_43 := zk_methC ⟨rfl, rfl⟩ hD poolX12 icX12_see_43 jcX12_see_43 ftX12_see_ok (gcX12_see_43 hD) wcX12_see_43 ecX12_see_43
def qcX12_keyAt : zQ := ((4, 5), ([(2, 1, 0), (0, 2, 0), (0, 3, 0)], ([(0, 0, 0), (2, 0, 1199), (3, 1, 1200)], [], [], []), ([(1, 43)], [], [], [], [], [(0, [])])), [(some (0, 0, (-1)), ([(0, 0, 0)], [], [], []), ([], [], [], [], [], [])), (some (0, 4, 0), ([(0, 0, 0), (4, 0, 13), (2, 0, 1197), (3, 3, 6)], [(2, 4, 1196), (3, 4, 4), (4, 3, 9)], [], []), ([], [], [], [], [], []))], ([], []), (0, 0))
def mcX12_keyAt : zM := (yX12_keyAt, cX12_keyAt, 8, (some .int), { frames := 5, cells := 0, slots := 0, locals := 97 }, qcX12_keyAt)
def bcX12_keyAt_104_0 : zA := ([(0, (2, 1, 0)), (1, (0, 2, 0)), (2, (0, 3, 0)), (3, (0, 0, 0)), (5, (0, 0, 4))], [], ([(0, 0, 0), (2, 0, 1199), (3, 1, 1200)], [], [], []), ([(1, 43)], [], [], [], [], [(0, [])]), (4, ([], 13), 0, 0))
def bcX12_keyAt_104_1 : zA := ([(0, (2, 1, 0)), (1, (0, 2, 0)), (2, (0, 3, 0)), (3, (0, 0, 1)), (5, (0, 0, 9))], [], ([(0, 0, 0), (2, 0, 1199), (3, 1, 1200)], [], [], []), ([(1, 43)], [], [], [], [], [(0, [])]), (4, ([], 12), 0, 0))
def bcX12_keyAt_104_2 : zA := ([(0, (2, 1, 0)), (1, (0, 2, 0)), (2, (0, 3, 0)), (3, (0, 0, 2)), (5, (0, 0, 16))], [], ([(0, 0, 0), (2, 0, 1199), (3, 1, 1200)], [], [], []), ([(1, 43)], [], [], [], [], [(0, [])]), (4, ([], 11), 0, 0))
def bcX12_keyAt_104_3 : zA := ([(0, (2, 1, 0)), (1, (0, 2, 0)), (2, (0, 3, 0)), (3, (0, 0, 3)), (5, (0, 0, 22))], [], ([(0, 0, 0), (2, 0, 1199), (3, 1, 1200)], [], [], []), ([(1, 43)], [], [], [], [], [(0, [])]), (4, ([], 10), 0, 0))
def bcX12_keyAt_104_4 : zA := ([(0, (2, 1, 0)), (1, (0, 2, 0)), (2, (0, 3, 0)), (3, (0, 0, 4)), (5, (0, 0, 26))], [], ([(0, 0, 0), (2, 0, 1199), (3, 1, 1200)], [], [], []), ([(1, 43)], [], [], [], [], [(0, [])]), (4, ([], 9), 0, 0))
def bcX12_keyAt_104_5 : zA := ([(0, (2, 1, 0)), (1, (0, 2, 0)), (2, (0, 3, 0)), (3, (0, 0, 5)), (5, (0, 0, 30))], [], ([(0, 0, 0), (2, 0, 1199), (3, 1, 1200)], [], [], []), ([(1, 43)], [], [], [], [], [(0, [])]), (4, ([], 8), 0, 0))
def bcX12_keyAt_104_6 : zA := ([(0, (2, 1, 0)), (1, (0, 2, 0)), (2, (0, 3, 0)), (3, (0, 0, 6)), (5, (0, 0, 36))], [], ([(0, 0, 0), (2, 0, 1199), (3, 1, 1200)], [], [], []), ([(1, 43)], [], [], [], [], [(0, [])]), (4, ([], 7), 0, 0))
def bcX12_keyAt_104_7 : zA := ([(0, (2, 1, 0)), (1, (0, 2, 0)), (2, (0, 3, 0)), (3, (0, 0, 7)), (5, (0, 0, 42))], [], ([(0, 0, 0), (2, 0, 1199), (3, 1, 1200)], [], [], []), ([(1, 43)], [], [], [], [], [(0, [])]), (4, ([], 6), 0, 0))
def bcX12_keyAt_104_8 : zA := ([(0, (2, 1, 0)), (1, (0, 2, 0)), (2, (0, 3, 0)), (3, (0, 0, 8)), (5, (0, 0, 48))], [], ([(0, 0, 0), (2, 0, 1199), (3, 1, 1200)], [], [], []), ([(1, 43)], [], [], [], [], [(0, [])]), (4, ([], 5), 0, 0))
def bcX12_keyAt_104_9 : zA := ([(0, (2, 1, 0)), (1, (0, 2, 0)), (2, (0, 3, 0)), (3, (0, 0, 9)), (5, (0, 0, 54))], [], ([(0, 0, 0), (2, 0, 1199), (3, 1, 1200)], [], [], []), ([(1, 43)], [], [], [], [], [(0, [])]), (4, ([], 4), 0, 0))
def bcX12_keyAt_104_10 : zA := ([(0, (2, 1, 0)), (1, (0, 2, 0)), (2, (0, 3, 0)), (3, (0, 0, 10)), (5, (0, 0, 61))], [], ([(0, 0, 0), (2, 0, 1199), (3, 1, 1200)], [], [], []), ([(1, 43)], [], [], [], [], [(0, [])]), (4, ([], 3), 0, 0))
def bcX12_keyAt_104_11 : zA := ([(0, (2, 1, 0)), (1, (0, 2, 0)), (2, (0, 3, 0)), (3, (0, 0, 11)), (5, (0, 0, 66))], [], ([(0, 0, 0), (2, 0, 1199), (3, 1, 1200)], [], [], []), ([(1, 43)], [], [], [], [], [(0, [])]), (4, ([], 2), 0, 0))
def bcX12_keyAt_104_12 : zA := ([(0, (2, 1, 0)), (1, (0, 2, 0)), (2, (0, 3, 0)), (3, (0, 0, 12)), (5, (0, 0, 72))], [], ([(0, 0, 0), (2, 0, 1199), (3, 1, 1200)], [], [], []), ([(1, 43)], [], [], [], [], [(0, [])]), (4, ([], 1), 0, 0))
def bcX12_keyAt_104_13 : zA := ([(0, (2, 1, 0)), (1, (0, 2, 0)), (2, (0, 3, 0)), (3, (0, 0, 13)), (5, (0, 0, 77))], [], ([(0, 0, 0), (2, 0, 1199), (3, 1, 1200)], [], [], []), ([(1, 43)], [], [], [], [], [(0, [])]), (4, ([], 0), 0, 0))
def hcX12_keyAt : zH := ([(104, [bcX12_keyAt_104_0, bcX12_keyAt_104_1, bcX12_keyAt_104_2, bcX12_keyAt_104_3, bcX12_keyAt_104_4, bcX12_keyAt_104_5, bcX12_keyAt_104_6, bcX12_keyAt_104_7, bcX12_keyAt_104_8, bcX12_keyAt_104_9, bcX12_keyAt_104_10, bcX12_keyAt_104_11, bcX12_keyAt_104_12, bcX12_keyAt_104_13])], [], [], [], ([(176, 14)], 178, 184), 14)
theorem jcX12_keyAt : zk_txok RX12 hcX12_keyAt.2.2.2.2.1 := zk_txb_ok (p := (1407, 1408)) (by decide +kernel)
def xcX12_keyAt : List zX := [(188, 2, 12, mcX12_see_43)]
theorem wcX12_keyAt : zk_hwsb zcl RX12 mcX12_keyAt.rm xcX12_keyAt [(1396, 86, 1393, 1395, 39)] = true := by decide +kernel
theorem icX12_keyAt : zk_idb zcl RX12 12 false mcX12_keyAt = true := by decide +kernel
abbrev vcX12_keyAt (n : Nat) (B : zA) : Bool := zk_ex zcl zft zTT zPF zPB zSUf zLX12 12 false mcX12_keyAt ftX12_keyAt hcX12_keyAt zULf xcX12_keyAt 233 n B && zk_pos B.2.2.1 (B.2.2.2.2.2.1.1, B.2.2.2.2.2.1.2 + 1)
theorem ecX12_keyAt_e : zk_ex zcl zft zTT zPF zPB zSUf zLX12 12 false mcX12_keyAt ftX12_keyAt hcX12_keyAt zULf xcX12_keyAt 233 0 (zk_A0 mcX12_keyAt.cs hcX12_keyAt.2.2.2.2.2) = true := by decide +kernel
theorem ecX12_keyAt_104_0 : vcX12_keyAt 104 bcX12_keyAt_104_0 = true := by decide +kernel
theorem ecX12_keyAt_104_1 : vcX12_keyAt 104 bcX12_keyAt_104_1 = true := by decide +kernel
theorem ecX12_keyAt_104_2 : vcX12_keyAt 104 bcX12_keyAt_104_2 = true := by decide +kernel

