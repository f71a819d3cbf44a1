/-! METHODS (printed by wip/t4) -/
def ftX11_saw : List (Nat × List (Nat × Instr × Nat)) := [(27, [(0, .iload_n 1, 1), (1, .invokestatic 123, 3), (4, .ifCond .eq 10, 3), (7, .aload_n 0, 1), (8, .getfield 93, 3), (11, .ifCond .ne 6, 3), (14, .bipush (-9), 2), (16, .ireturn, 1), (17, .aload_n 0, 1), (18, .getfield 80, 3), (21, .getfield 212, 3), (24, .iload_n 1, 1), (25, .aaload, 1), (26, .astore_n 3, 1)]), (52, [(27, .iload_n 2, 1), (28, .iconst (-1), 1), (29, .if_icmp .ne 8, 3), (32, .aload_n 3, 1), (33, .getfield 239, 3), (36, .ireturn, 1), (37, .iload_n 2, 1), (38, .ifCond .lt 11, 3), (41, .iload_n 2, 1), (42, .aload_n 3, 1), (43, .getfield 239, 3), (46, .if_icmp .lt 8, 3), (49, .bipush (-9), 2), (51, .goto 9, 3)]), (61, [(54, .aload_n 3, 1), (55, .getfield 242, 3), (58, .iload_n 2, 1), (59, .iaload, 1), (60, .ireturn, 1)])]
theorem ftX11_saw_ok : zk_ftb cX11_saw ftX11_saw = true := by decide +kernel
def qcX11_saw : zQ := ((4, 5), ([(2, 1, 0), (0, 2, 0), (0, 3, 0)], ([(0, 0, 0), (2, (-2147483648), 2147483647), (3, (-2147483648), 2147483647)], [], [], []), ([(1, 42)], [], [], [], [], [])), [(some (0, 0, (-9)), ([(0, 0, 0)], [], [], []), ([], [], [], [], [], [])), (some (0, 4, 0), ([(0, 0, 0), (4, (-2147483648), 2147483647), (2, 0, 1), (3, (-1), 1829)], [], [], []), ([], [], [], [], [], []))], ([], []), (0, 0))
def mcX11_saw : zM := (yX11_saw, cX11_saw, 4, (some .int), { frames := 2, cells := 0, slots := 0, locals := 32 }, qcX11_saw)
def hcX11_saw : zH := ([], [], [], [], ([], 0, 0), 1)
theorem jcX11_saw : zk_txok RX11 hcX11_saw.2.2.2.2.1 := zk_txb_ok (p := (0, 0)) (by decide +kernel)
def xcX11_saw : List zX := [(123, 0, 0, mcX11_isSide)]
theorem wcX11_saw : zk_hwsb zcl RX11 mcX11_saw.rm xcX11_saw [(673, 75, 671, 672, 0)] = true := by decide +kernel
theorem icX11_saw : zk_idb zcl RX11 11 false mcX11_saw = true := by decide +kernel
theorem ecX11_saw : zk_run zcl zft zTT zPF zPB zSUf zLX11 11 false mcX11_saw ftX11_saw hcX11_saw zULf xcX11_saw 28 = true := by decide +kernel
theorem gcX11_saw {D : zD} {l : Launch} (hD : zWD D) : zCs D l xcX11_saw := ⟨tcX11_isSide hD, trivial⟩
theorem tcX11_saw {D : zD} {l : Launch} (hD : zWD D) : zC D l mcX11_saw := zk_methC ⟨rfl, rfl⟩ hD poolX11 icX11_saw jcX11_saw ftX11_saw_ok (gcX11_saw hD) wcX11_saw ecX11_saw
def ftX11_cost : List (Nat × List (Nat × Instr × Nat)) := [(23, [(0, .iload_n 1, 1), (1, .ifCond .eq 10, 3), (4, .iload_n 1, 1), (5, .iconst 1, 1), (6, .if_icmp .eq 5, 3), (9, .iconst (-1), 1), (10, .ireturn, 1), (11, .aload_n 0, 1), (12, .getfield 93, 3), (15, .ifCond .ne 6, 3), (18, .bipush (-4), 2), (20, .ireturn, 1), (21, .iload_n 1, 1), (22, .ifCond .ne 13, 3)]), (43, [(25, .aload_n 0, 1), (26, .getfield 80, 3), (29, .getfield 245, 3), (32, .goto 10, 3), (35, .aload_n 0, 1), (36, .getfield 80, 3), (39, .getfield 248, 3), (42, .ireturn, 1)])]
theorem ftX11_cost_ok : zk_ftb cX11_cost ftX11_cost = true := by decide +kernel
def qcX11_cost : zQ := ((3, 4), ([(2, 1, 0), (0, 2, 0)], ([(0, 0, 0), (2, (-2147483648), 2147483647)], [], [], []), ([(1, 42)], [], [], [], [], [])), [(some (0, 0, (-1)), ([(0, 0, 0)], [], [], []), ([], [], [], [], [], [])), (some (0, 0, (-4)), ([(0, 0, 0), (2, 0, 1)], [], [], []), ([], [], [], [], [], [])), (some (0, 3, 0), ([(0, 0, 0), (3, (-2147483648), 2147483647), (2, 0, 1)], [], [], []), ([], [], [], [], [], []))], ([], []), (0, 0))
def mcX11_cost : zM := (yX11_cost, cX11_cost, 2, (some .int), { frames := 1, cells := 0, slots := 0, locals := 12 }, qcX11_cost)
def hcX11_cost : zH := ([], [], [], [], ([], 0, 0), 1)
theorem jcX11_cost : zk_txok RX11 hcX11_cost.2.2.2.2.1 := zk_txb_ok (p := (0, 0)) (by decide +kernel)
def xcX11_cost : List zX := []
theorem wcX11_cost : zk_hwsb zcl RX11 mcX11_cost.rm xcX11_cost [] = true := by decide +kernel
theorem icX11_cost : zk_idb zcl RX11 11 false mcX11_cost = true := by decide +kernel
theorem ecX11_cost : zk_run zcl zft zTT zPF zPB zSUf zLX11 11 false mcX11_cost ftX11_cost hcX11_cost zULf xcX11_cost 16 = true := by decide +kernel
theorem gcX11_cost {D : zD} {l : Launch} (hD : zWD D) : zCs D l xcX11_cost := trivial
theorem tcX11_cost {D : zD} {l : Launch} (hD : zWD D) : zC D l mcX11_cost := zk_methC ⟨rfl, rfl⟩ hD poolX11 icX11_cost jcX11_cost ftX11_cost_ok (gcX11_cost hD) wcX11_cost ecX11_cost
def ftX0_agreeingLists : List (Nat × List (Nat × Instr × Nat)) := [(22, [(0, .iconst 0, 1), (1, .istore_n 1, 1), (2, .iconst 0, 1), (3, .istore_n 2, 1), (4, .iload_n 2, 1), (5, .aload_n 0, 1), (6, .getfield 75, 3), (9, .if_icmp .ge 21, 3), (12, .aload_n 0, 1), (13, .getfield 9, 3), (16, .iload_n 2, 1), (17, .iaload, 1), (18, .ifCond .le 6, 3), (21, .iinc 1 1, 3)]), (32, [(24, .iinc 2 1, 3), (27, .goto (-23), 3), (30, .iload_n 1, 1), (31, .ireturn, 1)])]
theorem ftX0_agreeingLists_ok : zk_ftb cX0_agreeingLists ftX0_agreeingLists = true := by decide +kernel
def qcX0_agreeingLists : zQ := ((2, 3), ([(2, 1, 0)], ([(0, 0, 0)], [], [], []), ([(1, 41)], [], [], [], [], [])), [(some (0, 2, 0), ([(0, 0, 0), (2, (-2147483648), 2147483647)], [], [], []), ([], [], [], [], [], []))], ([], []), (0, 0))
def mcX0_agreeingLists : zM := (yX0_agreeingLists, cX0_agreeingLists, 3, (some .int), { frames := 1, cells := 0, slots := 0, locals := 12 }, qcX0_agreeingLists)
def hcX0_agreeingLists : zH := ([(4, [([(0, (2, 1, 0)), (1, (0, 2, 0)), (2, (0, 3, 0))], [], ([(0, 0, 0), (3, 0, 256)], [], [], []), ([(1, 41)], [], [], [], [], []), (4, ([(3, (-1))], 256), 0, 0))])], [], [(31, [(3, 0, 0)])], [], ([], 0, 0), 513)
theorem jcX0_agreeingLists : zk_txok RX0 hcX0_agreeingLists.2.2.2.2.1 := zk_txb_ok (p := (0, 0)) (by decide +kernel)
def xcX0_agreeingLists : List zX := []
theorem wcX0_agreeingLists : zk_hwsb zcl RX0 mcX0_agreeingLists.rm xcX0_agreeingLists [] = true := by decide +kernel
theorem icX0_agreeingLists : zk_idb zcl RX0 0 false mcX0_agreeingLists = true := by decide +kernel
theorem ecX0_agreeingLists : zk_run zcl zft zTT zPF zPB zSUf zLX0 0 false mcX0_agreeingLists ftX0_agreeingLists hcX0_agreeingLists zULf xcX0_agreeingLists 14 = true := by decide +kernel
theorem gcX0_agreeingLists {D : zD} {l : Launch} (hD : zWD D) : zCs D l xcX0_agreeingLists := trivial
theorem tcX0_agreeingLists {D : zD} {l : Launch} (hD : zWD D) : zC D l mcX0_agreeingLists := zk_methC ⟨rfl, rfl⟩ hD poolX0 icX0_agreeingLists jcX0_agreeingLists ftX0_agreeingLists_ok (gcX0_agreeingLists hD) wcX0_agreeingLists ecX0_agreeingLists
def ftX0_leastList : List (Nat × List (Nat × Instr × Nat)) := [(22, [(0, .iconst 0, 1), (1, .istore_n 1, 1), (2, .iload_n 1, 1), (3, .aload_n 0, 1), (4, .getfield 75, 3), (7, .if_icmp .ge 20, 3), (10, .aload_n 0, 1), (11, .getfield 9, 3), (14, .iload_n 1, 1), (15, .iaload, 1), (16, .ifCond .le 5, 3), (19, .iload_n 1, 1), (20, .ireturn, 1), (21, .iinc 1 1, 3)]), (29, [(24, .goto (-22), 3), (27, .iconst (-1), 1), (28, .ireturn, 1)])]
theorem ftX0_leastList_ok : zk_ftb cX0_leastList ftX0_leastList = true := by decide +kernel
def qcX0_leastList : zQ := ((2, 3), ([(2, 1, 0)], ([(0, 0, 0)], [], [], []), ([(1, 41)], [], [], [], [], [])), [(some (0, 0, (-1)), ([(0, 0, 0)], [], [], []), ([], [], [], [], [], [])), (some (0, 2, 0), ([(0, 0, 0), (2, 0, 255)], [], [], []), ([], [], [], [], [], []))], ([], []), (0, 0))
def mcX0_leastList : zM := (yX0_leastList, cX0_leastList, 2, (some .int), { frames := 1, cells := 0, slots := 0, locals := 12 }, qcX0_leastList)
def hcX0_leastList : zH := ([(2, [([(0, (2, 1, 0)), (1, (0, 2, 0))], [], ([(0, 0, 0), (2, 0, 256)], [], [], []), ([(1, 41)], [], [], [], [], []), (3, ([(2, (-1))], 256), 0, 0))])], [], [], [], ([], 0, 0), 513)
theorem jcX0_leastList : zk_txok RX0 hcX0_leastList.2.2.2.2.1 := zk_txb_ok (p := (0, 0)) (by decide +kernel)
def xcX0_leastList : List zX := []
theorem wcX0_leastList : zk_hwsb zcl RX0 mcX0_leastList.rm xcX0_leastList [] = true := by decide +kernel
theorem icX0_leastList : zk_idb zcl RX0 0 false mcX0_leastList = true := by decide +kernel
theorem ecX0_leastList : zk_run zcl zft zTT zPF zPB zSUf zLX0 0 false mcX0_leastList ftX0_leastList hcX0_leastList zULf xcX0_leastList 13 = true := by decide +kernel
theorem gcX0_leastList {D : zD} {l : Launch} (hD : zWD D) : zCs D l xcX0_leastList := trivial
theorem tcX0_leastList {D : zD} {l : Launch} (hD : zWD D) : zC D l mcX0_leastList := zk_methC ⟨rfl, rfl⟩ hD poolX0 icX0_leastList jcX0_leastList ftX0_leastList_ok (gcX0_leastList hD) wcX0_leastList ecX0_leastList
def ftX0_isEven : List (Nat × List (Nat × Instr × Nat)) := [(22, [(0, .aload_n 0, 1), (1, .invokevirtual 123, 3), (4, .istore_n 1, 1), (5, .iconst 0, 1), (6, .istore_n 2, 1), (7, .iload_n 2, 1), (8, .aload_n 0, 1), (9, .getfield 75, 3), (12, .if_icmp .ge 40, 3), (15, .iload_n 1, 1), (16, .iconst (-1), 1), (17, .if_icmp .eq 35, 3), (20, .aload_n 0, 1), (21, .getfield 9, 3)]), (46, [(24, .iload_n 2, 1), (25, .iaload, 1), (26, .ifCond .le 20, 3), (29, .aload_n 0, 1), (30, .getfield 9, 3), (33, .iload_n 2, 1), (34, .iaload, 1), (35, .aload_n 0, 1), (36, .getfield 9, 3), (39, .iload_n 1, 1), (40, .iaload, 1), (41, .if_icmp .eq 5, 3), (44, .iconst 0, 1), (45, .ireturn, 1)]), (54, [(46, .iinc 2 1, 3), (49, .goto (-42), 3), (52, .iconst 1, 1), (53, .ireturn, 1)])]
theorem ftX0_isEven_ok : zk_ftb cX0_isEven ftX0_isEven = true := by decide +kernel
def qcX0_isEven : zQ := ((2, 2), ([(2, 1, 0)], ([(0, 0, 0)], [], [], []), ([(1, 41)], [], [], [], [], [])), [(some (0, 0, 0), ([(0, 0, 0)], [], [], []), ([], [], [], [], [], [])), (some (0, 0, 1), ([(0, 0, 0)], [], [], []), ([], [], [], [], [], []))], ([], []), (0, 0))
def mcX0_isEven : zM := (yX0_isEven, cX0_isEven, 3, (some .boolean), { frames := 2, cells := 0, slots := 0, locals := 33 }, qcX0_isEven)
def hcX0_isEven : zH := ([(7, [([(0, (2, 1, 0)), (1, (0, 2, 0)), (2, (0, 3, 0))], [], ([(0, 0, 0), (2, (-1), 255), (3, 0, 256)], [], [], []), ([(1, 41)], [], [], [], [], []), (4, ([(3, (-1))], 256), 0, 0))])], [], [], [], ([], 0, 0), 513)
theorem jcX0_isEven : zk_txok RX0 hcX0_isEven.2.2.2.2.1 := zk_txb_ok (p := (0, 0)) (by decide +kernel)
def xcX0_isEven : List zX := [(123, 2, 0, mcX0_leastList)]
theorem wcX0_isEven : zk_hwsb zcl RX0 mcX0_isEven.rm xcX0_isEven [(1016, 85, 1013, 1014, 1015)] = true := by decide +kernel
theorem icX0_isEven : zk_idb zcl RX0 0 false mcX0_isEven = true := by decide +kernel
theorem ecX0_isEven : zk_run zcl zft zTT zPF zPB zSUf zLX0 0 false mcX0_isEven ftX0_isEven hcX0_isEven zULf xcX0_isEven 25 = true := by decide +kernel
theorem gcX0_isEven {D : zD} {l : Launch} (hD : zWD D) : zCs D l xcX0_isEven := ⟨tcX0_leastList hD, trivial⟩
theorem tcX0_isEven {D : zD} {l : Launch} (hD : zWD D) : zC D l mcX0_isEven := zk_methC ⟨rfl, rfl⟩ hD poolX0 icX0_isEven jcX0_isEven ftX0_isEven_ok (gcX0_isEven hD) wcX0_isEven ecX0_isEven
def ftX0_pairs : List (Nat × List (Nat × Instr × Nat)) := [(20, [(0, .iconst 0, 1), (1, .istore_n 1, 1), (2, .iconst 0, 1), (3, .istore_n 2, 1), (4, .iload_n 2, 1), (5, .aload_n 0, 1), (6, .getfield 75, 3), (9, .if_icmp .ge 18, 3), (12, .iload_n 1, 1), (13, .aload_n 0, 1), (14, .getfield 9, 3), (17, .iload_n 2, 1), (18, .iaload, 1), (19, .iadd, 1)]), (29, [(20, .istore_n 1, 1), (21, .iinc 2 1, 3), (24, .goto (-20), 3), (27, .iload_n 1, 1), (28, .ireturn, 1)])]
theorem ftX0_pairs_ok : zk_ftb cX0_pairs ftX0_pairs = true := by decide +kernel
def qcX0_pairs : zQ := ((2, 3), ([(2, 1, 0)], ([(0, 0, 0)], [], [], []), ([(1, 41)], [], [], [], [], [])), [(some (0, 2, 0), ([(0, 0, 0), (2, (-2147483648), 2147483647)], [], [], []), ([], [], [], [], [], []))], ([], []), (0, 0))
def mcX0_pairs : zM := (yX0_pairs, cX0_pairs, 3, (some .int), { frames := 1, cells := 0, slots := 0, locals := 12 }, qcX0_pairs)
def hcX0_pairs : zH := ([(4, [([(0, (2, 1, 0)), (1, (0, 2, 0)), (2, (0, 3, 0))], [], ([(0, 0, 0), (2, (-2147483648), 2147483647), (3, 0, 256)], [], [], []), ([(1, 41)], [], [], [], [], []), (4, ([(3, (-1))], 256), 0, 0))])], [], [], [], ([], 0, 0), 513)
theorem jcX0_pairs : zk_txok RX0 hcX0_pairs.2.2.2.2.1 := zk_txb_ok (p := (0, 0)) (by decide +kernel)
def xcX0_pairs : List zX := []
theorem wcX0_pairs : zk_hwsb zcl RX0 mcX0_pairs.rm xcX0_pairs [] = true := by decide +kernel
theorem icX0_pairs : zk_idb zcl RX0 0 false mcX0_pairs = true := by decide +kernel
theorem ecX0_pairs : zk_run zcl zft zTT zPF zPB zSUf zLX0 0 false mcX0_pairs ftX0_pairs hcX0_pairs zULf xcX0_pairs 15 = true := by decide +kernel
theorem gcX0_pairs {D : zD} {l : Launch} (hD : zWD D) : zCs D l xcX0_pairs := trivial
theorem tcX0_pairs {D : zD} {l : Launch} (hD : zWD D) : zC D l mcX0_pairs := zk_methC ⟨rfl, rfl⟩ hD poolX0 icX0_pairs jcX0_pairs ftX0_pairs_ok (gcX0_pairs hD) wcX0_pairs ecX0_pairs
def ftX10_onlyTells : List (Nat × List (Nat × Instr × Nat)) := [(24, [(0, .aload_n 0, 1), (1, .getfield 15, 3), (4, .iload_n 1, 1), (5, .iaload, 1), (6, .bipush 6, 2), (8, .if_icmp .eq 14, 3), (11, .aload_n 0, 1), (12, .getfield 15, 3), (15, .iload_n 1, 1), (16, .iaload, 1), (17, .bipush 7, 2), (19, .if_icmp .ne 7, 3), (22, .iconst 1, 1), (23, .goto 4, 3)]), (28, [(26, .iconst 0, 1), (27, .ireturn, 1)])]
theorem ftX10_onlyTells_ok : zk_ftb cX10_onlyTells ftX10_onlyTells = true := by decide +kernel
def qcX10_onlyTells : zQ := ((3, 3), ([(2, 1, 0), (0, 2, 0)], ([(0, 0, 0), (2, 0, 29)], [], [], []), ([(1, 33)], [], [], [], [], [])), [(some (0, 0, 0), ([(0, 0, 0)], [], [], []), ([], [], [], [], [], [])), (some (0, 0, 1), ([(0, 0, 0)], [], [], []), ([], [], [], [], [], []))], ([], []), (0, 0))
def mcX10_onlyTells : zM := (yX10_onlyTells, cX10_onlyTells, 2, (some .boolean), { frames := 1, cells := 0, slots := 0, locals := 12 }, qcX10_onlyTells)
def hcX10_onlyTells : zH := ([], [], [], [], ([], 0, 0), 1)
theorem jcX10_onlyTells : zk_txok RX10 hcX10_onlyTells.2.2.2.2.1 := zk_txb_ok (p := (0, 0)) (by decide +kernel)
def xcX10_onlyTells : List zX := []
theorem wcX10_onlyTells : zk_hwsb zcl RX10 mcX10_onlyTells.rm xcX10_onlyTells [] = true := by decide +kernel
theorem icX10_onlyTells : zk_idb zcl RX10 10 false mcX10_onlyTells = true := by decide +kernel
theorem ecX10_onlyTells : zk_run zcl zft zTT zPF zPB zSUf zLX10 10 false mcX10_onlyTells ftX10_onlyTells hcX10_onlyTells zULf xcX10_onlyTells 17 = true := by decide +kernel
theorem gcX10_onlyTells {D : zD} {l : Launch} (hD : zWD D) : zCs D l xcX10_onlyTells := trivial
theorem tcX10_onlyTells {D : zD} {l : Launch} (hD : zWD D) : zC D l mcX10_onlyTells := zk_methC ⟨rfl, rfl⟩ hD poolX10 icX10_onlyTells jcX10_onlyTells ftX10_onlyTells_ok (gcX10_onlyTells hD) wcX10_onlyTells ecX10_onlyTells
def qcX5_make_40_36 : zQ := ((4, 4), ([(2, 1, 0), (0, 2, 0), (2, 3, 0)], ([(0, 0, 0), (2, 0, 1)], [], [], []), ([(1, 40), (3, 36)], [], [], [], [], [])), [(none, ([(0, 0, 0)], [], [], []), ([], [], [], [], [], []))], ([(36, 1), (36, 2), (36, 3), (36, 4)], [59]), (0, 0))
def mcX5_make_40_36 : zM := (yX5_make, cX5_make, 5, none, { frames := 2, cells := 0, slots := 0, locals := 33 }, qcX5_make_40_36)
def hcX5_make_40_36 : zH := ([(15, [([(2, (2, 3, 0)), (3, (2, 4, 0)), (4, (0, 5, 0))], [], ([(0, 0, 0), (5, 0, 40), (2, 0, 1)], [], [], []), ([(4, 38), (6, 65), (1, 40), (3, 36)], [(1, 5, 0, (2, 6, 0))], [], [], [], []), (7, ([(5, (-1))], 40), 0, 0))])], [], [], [], ([], 0, 0), 81)
theorem jcX5_make_40_36 : zk_txok RX5 hcX5_make_40_36.2.2.2.2.1 := zk_txb_ok (p := (0, 0)) (by decide +kernel)
def xcX5_make_40_36 : List zX := [(82, 2, 2, mcX2_begin), (92, 2, 2, mcX2_put)]
theorem wcX5_make_40_36 : zk_hwsb zcl RX5 mcX5_make_40_36.rm xcX5_make_40_36 [(896, 84, 893, 894, 895), (900, 84, 897, 898, 899)] = true := by decide +kernel
theorem icX5_make_40_36 : zk_idb zcl RX5 5 false mcX5_make_40_36 = true := by decide +kernel
theorem ecX5_make_40_36 : zk_run zcl zft zTT zPF zPB zSUf zLX5 5 false mcX5_make_40_36 ftX5_make hcX5_make_40_36 zULf xcX5_make_40_36 14 = true := by decide +kernel
theorem gcX5_make_40_36 {D : zD} {l : Launch} (hD : zWD D) : zCs D l xcX5_make_40_36 := ⟨tcX2_begin hD, tcX2_put hD, trivial⟩
theorem tcX5_make_40_36 {D : zD} {l : Launch} (hD : zWD D) : zC D l mcX5_make_40_36 := zk_methC ⟨rfl, rfl⟩ hD poolX5 icX5_make_40_36 jcX5_make_40_36 ftX5_make_ok (gcX5_make_40_36 hD) wcX5_make_40_36 ecX5_make_40_36
def qcX5_meet_40_36_36 : zQ := ((5, 5), ([(2, 1, 0), (0, 2, 0), (2, 3, 0), (2, 4, 0)], ([(0, 0, 0), (2, 0, 1)], [], [], []), ([(1, 40), (3, 36), (4, 36)], [], [], [], [], [])), [(none, ([(0, 0, 0)], [], [], []), ([], [], [], [], [], []))], ([(38, 11), (38, 12), (38, 13)], []), (0, 0))
def mcX5_meet_40_36_36 : zM := (yX5_meet, cX5_meet, 7, none, { frames := 2, cells := 0, slots := 0, locals := 34 }, qcX5_meet_40_36_36)
def hcX5_meet_40_36_36 : zH := ([(60, [([(2, (2, 3, 0)), (3, (2, 4, 0)), (4, (2, 5, 0)), (5, (0, 6, 0)), (6, (0, 7, 0))], [], ([(0, 0, 0), (6, 0, 1), (7, 0, 60), (8, (-9223372036854775808), 9223372036854775807), (9, (-2147483648), 2147483647), (10, 0, 1), (2, 0, 1)], [], [], []), ([(5, 38), (11, 65), (1, 40), (3, 36), (4, 36)], [(5, 3, 13, (1, 8, 0)), (5, 3, 12, (0, 9, 0)), (5, 3, 11, (0, 6, 0)), (3, 2, 2, (0, 10, 0)), (1, 5, 0, (2, 11, 0))], [], [], [], []), (12, ([(7, (-1))], 60), 0, 0))])], [], [(91, [(3, 0, 0)])], [], ([], 0, 0), 121)
theorem jcX5_meet_40_36_36 : zk_txok RX5 hcX5_meet_40_36_36.2.2.2.2.1 := zk_txb_ok (p := (0, 0)) (by decide +kernel)
def xcX5_meet_40_36_36 : List zX := [(137, 2, 2, mcX2_has)]
theorem wcX5_meet_40_36_36 : zk_hwsb zcl RX5 mcX5_meet_40_36_36.rm xcX5_meet_40_36_36 [(947, 84, 944, 945, 946)] = true := by decide +kernel
theorem icX5_meet_40_36_36 : zk_idb zcl RX5 5 false mcX5_meet_40_36_36 = true := by decide +kernel
theorem ecX5_meet_40_36_36 : zk_run zcl zft zTT zPF zPB zSUf zLX5 5 false mcX5_meet_40_36_36 ftX5_meet hcX5_meet_40_36_36 zULf xcX5_meet_40_36_36 35 = true := by decide +kernel
theorem gcX5_meet_40_36_36 {D : zD} {l : Launch} (hD : zWD D) : zCs D l xcX5_meet_40_36_36 := ⟨tcX2_has hD, trivial⟩
theorem tcX5_meet_40_36_36 {D : zD} {l : Launch} (hD : zWD D) : zC D l mcX5_meet_40_36_36 := zk_methC ⟨rfl, rfl⟩ hD poolX5 icX5_meet_40_36_36 jcX5_meet_40_36_36 ftX5_meet_ok (gcX5_meet_40_36_36 hD) wcX5_meet_40_36_36 ecX5_meet_40_36_36
def qcX3_nextDraw_38 : zQ := ((3, 4), ([(2, 1, 0), (0, 2, 0)], ([(0, 0, 0), (2, (-2147483648), 2147483647)], [], [], []), ([(1, 38)], [], [], [], [], [])), [(some (0, 3, 0), ([(0, 0, 0), (3, (-2147483648), 2147483647)], [], [], []), ([], [], [], [], [], []))], ([(38, 9)], []), (0, 0))
def mcX3_nextDraw_38 : zM := (yX3_nextDraw, cX3_nextDraw, 2, (some .int), { frames := 1, cells := 0, slots := 0, locals := 12 }, qcX3_nextDraw_38)
def hcX3_nextDraw_38 : zH := ([], [], [(45, [(3, 0, 0)])], [], ([], 0, 0), 1)
theorem jcX3_nextDraw_38 : zk_txok RX3 hcX3_nextDraw_38.2.2.2.2.1 := zk_txb_ok (p := (0, 0)) (by decide +kernel)
def xcX3_nextDraw_38 : List zX := []
theorem wcX3_nextDraw_38 : zk_hwsb zcl RX3 mcX3_nextDraw_38.rm xcX3_nextDraw_38 [] = true := by decide +kernel
theorem icX3_nextDraw_38 : zk_idb zcl RX3 3 false mcX3_nextDraw_38 = true := by decide +kernel
theorem ecX3_nextDraw_38 : zk_run zcl zft zTT zPF zPB zSUf zLX3 3 false mcX3_nextDraw_38 ftX3_nextDraw hcX3_nextDraw_38 zULf xcX3_nextDraw_38 29 = true := by decide +kernel
theorem gcX3_nextDraw_38 {D : zD} {l : Launch} (hD : zWD D) : zCs D l xcX3_nextDraw_38 := trivial
theorem tcX3_nextDraw_38 {D : zD} {l : Launch} (hD : zWD D) : zC D l mcX3_nextDraw_38 := zk_methC ⟨rfl, rfl⟩ hD poolX3 icX3_nextDraw_38 jcX3_nextDraw_38 ftX3_nextDraw_ok (gcX3_nextDraw_38 hD) wcX3_nextDraw_38 ecX3_nextDraw_38
def qcX5_pad_40_38_36 : zQ := ((5, 5), ([(2, 1, 0), (2, 2, 0), (2, 3, 0), (0, 4, 0)], ([(0, 0, 0), (4, 0, 60)], [], [], []), ([(1, 40), (2, 38), (3, 36)], [], [], [], [], [])), [(none, ([(0, 0, 0)], [], [], []), ([], [], [], [], [], []))], ([(36, 1), (38, 9)], [59]), (0, 0))
def mcX5_pad_40_38_36 : zM := (yX5_pad, cX5_pad, 5, none, { frames := 2, cells := 0, slots := 0, locals := 33 }, qcX5_pad_40_38_36)
def hcX5_pad_40_38_36 : zH := ([(6, [([(0, (2, 1, 0)), (1, (2, 2, 0)), (2, (2, 3, 0)), (3, (0, 4, 0)), (4, (0, 5, 0))], [], ([(0, 0, 0), (5, 0, 60), (4, 0, 60)], [], [], []), ([(1, 40), (2, 38), (3, 36)], [], [], [], [], []), (6, ([(5, (-1))], 60), 0, 0))])], [], [], [], ([], 0, 0), 121)
theorem jcX5_pad_40_38_36 : zk_txok RX5 hcX5_pad_40_38_36.2.2.2.2.1 := zk_txb_ok (p := (0, 0)) (by decide +kernel)
def xcX5_pad_40_38_36 : List zX := [(92, 2, 2, mcX2_put), (118, 2, 3, mcX3_nextDraw_38)]
theorem wcX5_pad_40_38_36 : zk_hwsb zcl RX5 mcX5_pad_40_38_36.rm xcX5_pad_40_38_36 [(900, 84, 897, 898, 899), (935, 83, 932, 933, 934)] = true := by decide +kernel
theorem icX5_pad_40_38_36 : zk_idb zcl RX5 5 false mcX5_pad_40_38_36 = true := by decide +kernel
theorem ecX5_pad_40_38_36 : zk_run zcl zft zTT zPF zPB zSUf zLX5 5 false mcX5_pad_40_38_36 ftX5_pad hcX5_pad_40_38_36 zULf xcX5_pad_40_38_36 13 = true := by decide +kernel
theorem gcX5_pad_40_38_36 {D : zD} {l : Launch} (hD : zWD D) : zCs D l xcX5_pad_40_38_36 := ⟨tcX2_put hD, tcX3_nextDraw_38 hD, trivial⟩
theorem tcX5_pad_40_38_36 {D : zD} {l : Launch} (hD : zWD D) : zC D l mcX5_pad_40_38_36 := zk_methC ⟨rfl, rfl⟩ hD poolX5 icX5_pad_40_38_36 jcX5_pad_40_38_36 ftX5_pad_ok (gcX5_pad_40_38_36 hD) wcX5_pad_40_38_36 ecX5_pad_40_38_36
def qcX3_see_38 : zQ := ((3, 3), ([(2, 1, 0), (0, 2, 0)], ([(0, 0, 0), (2, (-2147483648), 2147483647)], [], [], []), ([(1, 38)], [], [], [], [], [])), [(none, ([(0, 0, 0)], [], [], []), ([], [], [], [], [], []))], ([(38, 5), (38, 10)], []), (0, 0))
def mcX3_see_38 : zM := (yX3_see, cX3_see, 2, none, { frames := 1, cells := 0, slots := 0, locals := 12 }, qcX3_see_38)
def hcX3_see_38 : zH := ([], [], [], [], ([], 0, 0), 1)
theorem jcX3_see_38 : zk_txok RX3 hcX3_see_38.2.2.2.2.1 := zk_txb_ok (p := (0, 0)) (by decide +kernel)
def xcX3_see_38 : List zX := []
theorem wcX3_see_38 : zk_hwsb zcl RX3 mcX3_see_38.rm xcX3_see_38 [] = true := by decide +kernel
theorem icX3_see_38 : zk_idb zcl RX3 3 false mcX3_see_38 = true := by decide +kernel
theorem ecX3_see_38 : zk_run zcl zft zTT zPF zPB zSUf zLX3 3 false mcX3_see_38 ftX3_see hcX3_see_38 zULf xcX3_see_38 28 = true := by decide +kernel
theorem gcX3_see_38 {D : zD} {l : Launch} (hD : zWD D) : zCs D l xcX3_see_38 := trivial
theorem tcX3_see_38 {D : zD} {l : Launch} (hD : zWD D) : zC D l mcX3_see_38 := zk_methC ⟨rfl, rfl⟩ hD poolX3 icX3_see_38 jcX3_see_38 ftX3_see_ok (gcX3_see_38 hD) wcX3_see_38 ecX3_see_38
def qcX3_seeBag_38_36 : zQ := ((3, 3), ([(2, 1, 0), (2, 2, 0)], ([(0, 0, 0)], [], [], []), ([(1, 38), (2, 36)], [], [], [], [], [(150, [])])), [(none, ([(0, 0, 0)], [], [], []), ([], [], [], [], [], [(150, [])]))], ([(38, 5), (38, 10)], []), (0, 0))
def mcX3_seeBag_38_36 : zM := (yX3_seeBag, cX3_seeBag, 3, none, { frames := 2, cells := 0, slots := 0, locals := 33 }, qcX3_seeBag_38_36)
def hcX3_seeBag_38_36 : zH := ([(31, [([(0, (2, 1, 0)), (1, (2, 2, 0)), (2, (0, 3, 0))], [], ([(0, 0, 0), (3, 0, 60), (4, 0, 60), (5, 0, 0)], [(3, 4, 0)], [], []), ([(1, 38), (2, 36)], [(2, 2, 1, (0, 4, 0)), (2, 2, 3, (0, 5, 0))], [], [], [], [(150, []), (151, [(2, 1, 0), (0, 0, 0), (0, 0, 0)])]), (6, ([(3, (-1))], 60), 0, 0))])], [], [(7, [(9, 50, 0)]), (20, [(9, 53, 0)]), (21, [(9, 50, 0)]), (55, [(9, 54, 0)])], [], ([], 0, 0), 121)
theorem jcX3_seeBag_38_36 : zk_txok RX3 hcX3_seeBag_38_36.2.2.2.2.1 := zk_txb_ok (p := (0, 0)) (by decide +kernel)
def xcX3_seeBag_38_36 : List zX := [(87, 2, 3, mcX3_see_38)]
theorem wcX3_seeBag_38_36 : zk_hwsb zcl RX3 mcX3_seeBag_38_36.rm xcX3_seeBag_38_36 [(927, 83, 924, 925, 926)] = true := by decide +kernel
theorem icX3_seeBag_38_36 : zk_idb zcl RX3 3 false mcX3_seeBag_38_36 = true := by decide +kernel
theorem ecX3_seeBag_38_36 : zk_run zcl zft zTT zPF zPB zSUf zLX3 3 false mcX3_seeBag_38_36 ftX3_seeBag hcX3_seeBag_38_36 zULf xcX3_seeBag_38_36 14 = true := by decide +kernel
theorem gcX3_seeBag_38_36 {D : zD} {l : Launch} (hD : zWD D) : zCs D l xcX3_seeBag_38_36 := ⟨tcX3_see_38 hD, trivial⟩
theorem tcX3_seeBag_38_36 {D : zD} {l : Launch} (hD : zWD D) : zC D l mcX3_seeBag_38_36 := zk_methC ⟨rfl, rfl⟩ hD poolX3 icX3_seeBag_38_36 jcX3_seeBag_38_36 ftX3_seeBag_ok (gcX3_seeBag_38_36 hD) wcX3_seeBag_38_36 ecX3_seeBag_38_36
def qcX5_send_40_36_38 : zQ := ((5, 5), ([(2, 1, 0), (2, 2, 0), (2, 3, 0), (0, 4, 0)], ([(0, 0, 0), (4, 0, 7)], [], [], []), ([(1, 40), (2, 36), (3, 38)], [], [], [], [], [(150, [])])), [(none, ([(0, 0, 0)], [], [], []), ([], [], [], [], [], [(150, [])]))], ([(36, 1), (36, 2), (36, 3), (36, 4), (38, 5), (38, 10), (40, 3)], [59]), (0, 0))
def mcX5_send_40_36_38 : zM := (yX5_send, cX5_send, 4, none, { frames := 3, cells := 0, slots := 0, locals := 55 }, qcX5_send_40_36_38)
def hcX5_send_40_36_38 : zH := ([], [], [(38, [(3, 0, 0)])], [], ([], 0, 0), 1)
theorem jcX5_send_40_36_38 : zk_txok RX5 hcX5_send_40_36_38.2.2.2.2.1 := zk_txb_ok (p := (0, 0)) (by decide +kernel)
def xcX5_send_40_36_38 : List zX := [(111, 2, 2, mcX2_copy), (115, 2, 3, mcX3_seeBag_38_36)]
theorem wcX5_send_40_36_38 : zk_hwsb zcl RX5 mcX5_send_40_36_38.rm xcX5_send_40_36_38 [(917, 84, 914, 915, 916), (923, 83, 920, 921, 922)] = true := by decide +kernel
theorem icX5_send_40_36_38 : zk_idb zcl RX5 5 false mcX5_send_40_36_38 = true := by decide +kernel
theorem ecX5_send_40_36_38 : zk_run zcl zft zTT zPF zPB zSUf zLX5 5 false mcX5_send_40_36_38 ftX5_send hcX5_send_40_36_38 zULf xcX5_send_40_36_38 24 = true := by decide +kernel
theorem gcX5_send_40_36_38 {D : zD} {l : Launch} (hD : zWD D) : zCs D l xcX5_send_40_36_38 := ⟨tcX2_copy hD, tcX3_seeBag_38_36 hD, trivial⟩
theorem tcX5_send_40_36_38 {D : zD} {l : Launch} (hD : zWD D) : zC D l mcX5_send_40_36_38 := zk_methC ⟨rfl, rfl⟩ hD poolX5 icX5_send_40_36_38 jcX5_send_40_36_38 ftX5_send_ok (gcX5_send_40_36_38 hD) wcX5_send_40_36_38 ecX5_send_40_36_38
def qcX5_sum_40_38 : zQ := ((3, 3), ([(2, 1, 0), (2, 2, 0)], ([(0, 0, 0)], [], [], []), ([(1, 40), (2, 38)], [], [], [], [], [])), [(none, ([(0, 0, 0)], [], [], []), ([], [], [], [], [], []))], ([(38, 11), (38, 12), (38, 13)], []), (0, 0))
def mcX5_sum_40_38 : zM := (yX5_sum, cX5_sum, 4, none, { frames := 1, cells := 0, slots := 0, locals := 12 }, qcX5_sum_40_38)
def hcX5_sum_40_38 : zH := ([(4, [([(1, (2, 2, 0)), (2, (0, 3, 0)), (3, (0, 4, 0))], [], ([(0, 0, 0), (3, (-2147483648), 2147483647), (4, 0, 40)], [], [], []), ([(1, 40), (2, 38)], [], [], [], [], []), (5, ([(4, (-1))], 40), 0, 0))])], [], [], [], ([], 0, 0), 81)
theorem jcX5_sum_40_38 : zk_txok RX5 hcX5_sum_40_38.2.2.2.2.1 := zk_txb_ok (p := (0, 0)) (by decide +kernel)
def xcX5_sum_40_38 : List zX := []
theorem wcX5_sum_40_38 : zk_hwsb zcl RX5 mcX5_sum_40_38.rm xcX5_sum_40_38 [] = true := by decide +kernel
theorem icX5_sum_40_38 : zk_idb zcl RX5 5 false mcX5_sum_40_38 = true := by decide +kernel
theorem ecX5_sum_40_38 : zk_run zcl zft zTT zPF zPB zSUf zLX5 5 false mcX5_sum_40_38 ftX5_sum hcX5_sum_40_38 zULf xcX5_sum_40_38 24 = true := by decide +kernel
theorem gcX5_sum_40_38 {D : zD} {l : Launch} (hD : zWD D) : zCs D l xcX5_sum_40_38 := trivial
theorem tcX5_sum_40_38 {D : zD} {l : Launch} (hD : zWD D) : zC D l mcX5_sum_40_38 := zk_methC ⟨rfl, rfl⟩ hD poolX5 icX5_sum_40_38 jcX5_sum_40_38 ftX5_sum_ok (gcX5_sum_40_38 hD) wcX5_sum_40_38 ecX5_sum_40_38
