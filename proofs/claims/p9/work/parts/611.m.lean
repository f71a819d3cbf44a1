/-! METHODS (printed by wip/t4) -/
def qcX6_takeNumber_k0_k9999 : zQ := ((2, 4), ([(2, 1, 0), (0, 0, 0), (0, 0, 9999)], ([(0, 0, 0)], [], [], []), ([(1, 34)], [], [], [], [], [])), [(some (0, 0, 0), ([(0, 0, 0)], [], [], []), ([(2, 30)], [(1, 6, 0, (2, 2, 0))], [], [], [], [])), (some (0, 0, 1), ([(0, 0, 0), (3, 0, 9999)], [], [], []), ([(2, 30)], [(1, 6, 0, (2, 2, 0)), (2, 8, 7, (0, 3, 0))], [], [], [], []))], ([(30, 2), (30, 3), (30, 4), (30, 5), (30, 6), (30, 7), (34, 1), (34, 2)], []), (0, 0))
def mcX6_takeNumber_k0_k9999 : zM := (yX6_takeNumber, cX6_takeNumber, 3, (some .boolean), { frames := 4, cells := 0, slots := 0, locals := 72 }, qcX6_takeNumber_k0_k9999)
def hcX6_takeNumber_k0_k9999 : zH := ([], [], [], [], ([], 0, 0), 1)
theorem jcX6_takeNumber_k0_k9999 : zk_txok RX6 hcX6_takeNumber_k0_k9999.2.2.2.2.1 := zk_txb_ok (p := (0, 0)) (by decide +kernel)
def xcX6_takeNumber_k0_k9999 : List zX := [(30, 2, 8, mcX8_step), (36, 2, 6, mcX6_fail)]
theorem wcX6_takeNumber_k0_k9999 : zk_hwsb zcl RX6 mcX6_takeNumber_k0_k9999.rm xcX6_takeNumber_k0_k9999 [(537, 76, 534, 535, 536), (623, 77, 620, 622, 5)] = true := by decide +kernel
theorem icX6_takeNumber_k0_k9999 : zk_idb zcl RX6 6 false mcX6_takeNumber_k0_k9999 = true := by decide +kernel
theorem ecX6_takeNumber_k0_k9999 : zk_run zcl zft zTT zPF zPB zSUf zLX6 6 false mcX6_takeNumber_k0_k9999 ftX6_takeNumber hcX6_takeNumber_k0_k9999 zULf xcX6_takeNumber_k0_k9999 26 = true := by decide +kernel
theorem gcX6_takeNumber_k0_k9999 {D : zD} {l : Launch} (hD : zWD D) : zCs D l xcX6_takeNumber_k0_k9999 := ⟨tcX8_step hD, tcX6_fail hD, trivial⟩
theorem tcX6_takeNumber_k0_k9999 {D : zD} {l : Launch} (hD : zWD D) : zC D l mcX6_takeNumber_k0_k9999 := zk_methC ⟨rfl, rfl⟩ hD poolX6 icX6_takeNumber_k0_k9999 jcX6_takeNumber_k0_k9999 ftX6_takeNumber_ok (gcX6_takeNumber_k0_k9999 hD) wcX6_takeNumber_k0_k9999 ecX6_takeNumber_k0_k9999
def qcX6_takeSemicolon : zQ := ((2, 2), ([(2, 1, 0)], ([(0, 0, 0)], [], [], []), ([(1, 34)], [], [], [], [], [])), [(some (0, 0, 0), ([(0, 0, 0)], [], [], []), ([], [], [], [], [], [])), (some (0, 0, 1), ([(0, 0, 0)], [], [], []), ([], [], [], [], [], []))], ([(30, 2), (30, 3), (30, 4), (30, 5), (30, 6), (30, 7), (34, 1), (34, 2)], []), (0, 0))
def mcX6_takeSemicolon : zM := (yX6_takeSemicolon, cX6_takeSemicolon, 1, (some .boolean), { frames := 4, cells := 0, slots := 0, locals := 72 }, qcX6_takeSemicolon)
def hcX6_takeSemicolon : zH := ([], [], [], [], ([], 0, 0), 1)
theorem jcX6_takeSemicolon : zk_txok RX6 hcX6_takeSemicolon.2.2.2.2.1 := zk_txb_ok (p := (0, 0)) (by decide +kernel)
def xcX6_takeSemicolon : List zX := [(30, 2, 8, mcX8_step), (36, 2, 6, mcX6_fail)]
theorem wcX6_takeSemicolon : zk_hwsb zcl RX6 mcX6_takeSemicolon.rm xcX6_takeSemicolon [(537, 76, 534, 535, 536), (623, 77, 620, 622, 5)] = true := by decide +kernel
theorem icX6_takeSemicolon : zk_idb zcl RX6 6 false mcX6_takeSemicolon = true := by decide +kernel
theorem ecX6_takeSemicolon : zk_run zcl zft zTT zPF zPB zSUf zLX6 6 false mcX6_takeSemicolon ftX6_takeSemicolon hcX6_takeSemicolon zULf xcX6_takeSemicolon 16 = true := by decide +kernel
theorem gcX6_takeSemicolon {D : zD} {l : Launch} (hD : zWD D) : zCs D l xcX6_takeSemicolon := ⟨tcX8_step hD, tcX6_fail hD, trivial⟩
theorem tcX6_takeSemicolon {D : zD} {l : Launch} (hD : zWD D) : zC D l mcX6_takeSemicolon := zk_methC ⟨rfl, rfl⟩ hD poolX6 icX6_takeSemicolon jcX6_takeSemicolon ftX6_takeSemicolon_ok (gcX6_takeSemicolon hD) wcX6_takeSemicolon ecX6_takeSemicolon
def ftX6_readNames : List (Nat × List (Nat × Instr × Nat)) := [(28, [(0, .aload_n 0, 1), (1, .invokevirtual 43, 3), (4, .aload_n 1, 1), (5, .invokevirtual 111, 3), (8, .iconst 0, 1), (9, .istore 5, 2), (11, .iload 5, 2), (13, .sipush 1200, 3), (16, .if_icmp .gt 109, 3), (19, .aload_n 0, 1), (20, .getfield 9, 3), (23, .invokevirtual 30, 3), (26, .aload_n 0, 1), (27, .getfield 9, 3)]), (56, [(30, .getfield 33, 3), (33, .ifCond .ne 6, 3), (36, .goto 89, 3), (39, .aload_n 0, 1), (40, .aload_n 1, 1), (41, .aload_n 2, 1), (42, .iload_n 3, 1), (43, .invokevirtual 114, 3), (46, .ifCond .ne 5, 3), (49, .iconst 0, 1), (50, .ireturn, 1), (51, .aload_n 0, 1), (52, .getfield 9, 3), (55, .getfield 118, 3)]), (85, [(58, .lstore 6, 2), (60, .iload 4, 2), (62, .ifCond .eq 16, 3), (65, .aload_n 0, 1), (66, .iconst 0, 1), (67, .sipush 9999, 3), (70, .invokevirtual 103, 3), (73, .ifCond .ne 5, 3), (76, .iconst 0, 1), (77, .ireturn, 1), (78, .iload 4, 2), (80, .ifCond .eq 13, 3), (83, .aload_n 0, 1), (84, .getfield 9, 3)]), (112, [(87, .getfield 40, 3), (90, .goto 4, 3), (93, .iconst 0, 1), (94, .istore 8, 2), (96, .aload_n 0, 1), (97, .invokevirtual 97, 3), (100, .ifCond .ne 5, 3), (103, .iconst 0, 1), (104, .ireturn, 1), (105, .aload_n 1, 1), (106, .lload 6, 2), (108, .aload_n 2, 1), (109, .lload 6, 2), (111, .invokevirtual 122, 3)]), (127, [(114, .iload 8, 2), (116, .invokevirtual 126, 3), (119, .iinc 5 1, 3), (122, .goto (-111), 3), (125, .iconst 1, 1), (126, .ireturn, 1)])]
theorem ftX6_readNames_ok : zk_ftb cX6_readNames ftX6_readNames = true := by decide +kernel
def qcX6_readNames : zQ := ((6, 6), ([(2, 1, 0), (2, 2, 0), (2, 3, 0), (0, 4, 0), (0, 5, 0)], ([(0, 0, 0), (4, 8, 40), (5, 0, 1)], [], [], []), ([(1, 34), (2, 31), (3, 32)], [], [], [], [], [])), [(some (0, 0, 0), ([(0, 0, 0)], [], [], []), ([], [], [], [], [], [])), (some (0, 0, 1), ([(0, 0, 0)], [], [], []), ([], [], [], [], [], []))], ([(30, 2), (30, 3), (30, 4), (30, 5), (30, 6), (30, 7), (31, 5), (31, 6), (34, 1), (34, 2)], [47, 48, 49, 50, 51]), (0, 0))
def mcX6_readNames : zM := (yX6_readNames, cX6_readNames, 9, (some .boolean), { frames := 5, cells := 0, slots := 0, locals := 94 }, qcX6_readNames)
def hcX6_readNames : zH := ([(11, [([(0, (2, 1, 0)), (1, (2, 2, 0)), (2, (2, 3, 0)), (3, (0, 4, 0)), (4, (0, 5, 0)), (5, (0, 6, 0))], [], ([(0, 0, 0), (6, 0, 1201), (4, 8, 40), (5, 0, 1)], [], [], []), ([(1, 34), (2, 31), (3, 32)], [], [], [], [], []), (7, ([(6, (-1))], 1201), 0, 0))])], [], [], [], ([], 0, 0), 2403)
theorem jcX6_readNames : zk_txok RX6 hcX6_readNames.2.2.2.2.1 := zk_txb_ok (p := (0, 0)) (by decide +kernel)
def xcX6_readNames : List zX := [(30, 2, 8, mcX8_step), (43, 2, 6, mcX6_begin), (97, 2, 6, mcX6_takeSemicolon), (103, 2, 6, mcX6_takeNumber_k0_k9999), (111, 2, 4, mcX4_clear), (114, 2, 6, mcX6_isNewName), (122, 2, 7, mcX7_keyOf), (126, 2, 4, mcX4_tell)]
theorem wcX6_readNames : zk_hwsb zcl RX6 mcX6_readNames.rm xcX6_readNames [(537, 76, 534, 535, 536), (528, 77, 525, 527, 0), (645, 77, 642, 644, 8), (654, 77, 651, 653, 10), (658, 79, 682, 656, 657), (686, 77, 683, 685, 13), (690, 78, 687, 688, 689), (705, 79, 702, 703, 704)] = true := by decide +kernel
theorem icX6_readNames : zk_idb zcl RX6 6 false mcX6_readNames = true := by decide +kernel
theorem ecX6_readNames : zk_run zcl zft zTT zPF zPB zSUf zLX6 6 false mcX6_readNames ftX6_readNames hcX6_readNames zULf xcX6_readNames 48 = true := by decide +kernel
theorem gcX6_readNames {D : zD} {l : Launch} (hD : zWD D) : zCs D l xcX6_readNames := ⟨tcX8_step hD, tcX6_begin hD, tcX6_takeSemicolon hD, tcX6_takeNumber_k0_k9999 hD, tcX4_clear hD, tcX6_isNewName hD, tcX7_keyOf hD, tcX4_tell hD, trivial⟩
theorem tcX6_readNames {D : zD} {l : Launch} (hD : zWD D) : zC D l mcX6_readNames := zk_methC ⟨rfl, rfl⟩ hD poolX6 icX6_readNames jcX6_readNames ftX6_readNames_ok (gcX6_readNames hD) wcX6_readNames ecX6_readNames
def ftX6_readList : List (Nat × List (Nat × Instr × Nat)) := [(10, [(0, .aload_n 0, 1), (1, .aload_n 1, 1), (2, .aload_n 2, 1), (3, .bipush 40, 2), (5, .iconst 1, 1), (6, .invokevirtual 107, 3), (9, .ireturn, 1)])]
theorem ftX6_readList_ok : zk_ftb cX6_readList ftX6_readList = true := by decide +kernel
def qcX6_readList : zQ := ((4, 4), ([(2, 1, 0), (2, 2, 0), (2, 3, 0)], ([(0, 0, 0)], [], [], []), ([(1, 34), (2, 31), (3, 32)], [], [], [], [], [])), [(some (0, 0, 0), ([(0, 0, 0)], [], [], []), ([], [], [], [], [], [])), (some (0, 0, 1), ([(0, 0, 0)], [], [], []), ([], [], [], [], [], []))], ([(30, 2), (30, 3), (30, 4), (30, 5), (30, 6), (30, 7), (31, 5), (31, 6), (34, 1), (34, 2)], [47, 48, 49, 50, 51]), (0, 0))
def mcX6_readList : zM := (yX6_readList, cX6_readList, 3, (some .boolean), { frames := 6, cells := 0, slots := 0, locals := 122 }, qcX6_readList)
def hcX6_readList : zH := ([], [], [], [], ([], 0, 0), 1)
theorem jcX6_readList : zk_txok RX6 hcX6_readList.2.2.2.2.1 := zk_txb_ok (p := (0, 0)) (by decide +kernel)
def xcX6_readList : List zX := [(107, 2, 6, mcX6_readNames)]
theorem wcX6_readList : zk_hwsb zcl RX6 mcX6_readList.rm xcX6_readList [(681, 77, 678, 680, 12)] = true := by decide +kernel
theorem icX6_readList : zk_idb zcl RX6 6 false mcX6_readList = true := by decide +kernel
theorem ecX6_readList : zk_run zcl zft zTT zPF zPB zSUf zLX6 6 false mcX6_readList ftX6_readList hcX6_readList zULf xcX6_readList 9 = true := by decide +kernel
theorem gcX6_readList {D : zD} {l : Launch} (hD : zWD D) : zCs D l xcX6_readList := ⟨tcX6_readNames hD, trivial⟩
theorem tcX6_readList {D : zD} {l : Launch} (hD : zWD D) : zC D l mcX6_readList := zk_methC ⟨rfl, rfl⟩ hD poolX6 icX6_readList jcX6_readList ftX6_readList_ok (gcX6_readList hD) wcX6_readList ecX6_readList
def ftX11_list : List (Nat × List (Nat × Instr × Nat)) := [(27, [(0, .iload_n 1, 1), (1, .invokestatic 123, 3), (4, .ifCond .ne 14, 3), (7, .aload_n 0, 1), (8, .getfield 12, 3), (11, .iconst 0, 1), (12, .putfield 103, 3), (15, .bipush (-2), 2), (17, .ireturn, 1), (18, .aload_n 0, 1), (19, .getfield 21, 3), (22, .aload_n 0, 1), (23, .getfield 38, 3), (26, .iconst 3, 1)]), (51, [(27, .aaload, 1), (28, .aload_n 0, 1), (29, .getfield 28, 3), (32, .invokevirtual 127, 3), (35, .istore_n 2, 1), (36, .aload_n 0, 1), (37, .getfield 12, 3), (40, .iconst 0, 1), (41, .putfield 103, 3), (44, .iload_n 2, 1), (45, .ifCond .ne 5, 3), (48, .iconst (-1), 1), (49, .ireturn, 1), (50, .aload_n 0, 1)]), (74, [(51, .iload_n 1, 1), (52, .invokevirtual 131, 3), (55, .aload_n 0, 1), (56, .invokevirtual 117, 3), (59, .aload_n 0, 1), (60, .iconst 0, 1), (61, .putfield 93, 3), (64, .aload_n 0, 1), (65, .getfield 38, 3), (68, .iload_n 1, 1), (69, .aaload, 1), (70, .getfield 134, 3), (73, .ireturn, 1)])]
theorem ftX11_list_ok : zk_ftb cX11_list ftX11_list = true := by decide +kernel
def qcX11_list : zQ := ((5, 6), ([(2, 1, 0), (0, 2, 0)], ([(0, 0, 0), (2, (-2147483648), 2147483647), (4, 0, 1200)], [], [], []), ([(1, 42), (3, 30)], [(1, 11, 0, (2, 3, 0)), (3, 8, 1, (0, 4, 0))], [], [], [], [])), [(some (0, 0, (-1)), ([(0, 0, 0), (2, 0, 1)], [], [], []), ([], [(1, 11, 0, (2, 3, 0)), (3, 8, 1, (0, 0, 0))], [], [], [], [])), (some (0, 0, (-2)), ([(0, 0, 0)], [], [], []), ([], [(1, 11, 0, (2, 3, 0)), (3, 8, 1, (0, 0, 0))], [], [], [], [])), (some (0, 5, 0), ([(0, 0, 0), (5, 0, 80), (2, 0, 1)], [], [], []), ([], [(1, 11, 0, (2, 3, 0)), (3, 8, 1, (0, 0, 0))], [], [], [], []))], ([(30, 1), (30, 2), (30, 3), (30, 4), (30, 5), (30, 6), (30, 7), (31, 5), (31, 6), (34, 1), (34, 2), (42, 13), (42, 14), (42, 15)], [47, 48, 49, 50, 51, 68]), (0, 0))
def mcX11_list : zM := (yX11_list, cX11_list, 3, (some .int), { frames := 7, cells := 0, slots := 0, locals := 144 }, qcX11_list)
def hcX11_list : zH := ([], [], [], [], ([], 0, 0), 1)
theorem jcX11_list : zk_txok RX11 hcX11_list.2.2.2.2.1 := zk_txb_ok (p := (0, 0)) (by decide +kernel)
def xcX11_list : List zX := [(117, 2, 11, mcX11_forgetChanges), (123, 0, 0, mcX11_isSide), (127, 2, 6, mcX6_readList), (131, 2, 11, mcX11_takeSpare)]
theorem wcX11_list : zk_hwsb zcl RX11 mcX11_list.rm xcX11_list [(662, 75, 659, 661, 11), (673, 75, 671, 672, 0), (677, 77, 674, 675, 676), (713, 75, 710, 712, 14)] = true := by decide +kernel
theorem icX11_list : zk_idb zcl RX11 11 false mcX11_list = true := by decide +kernel
theorem ecX11_list : zk_run zcl zft zTT zPF zPB zSUf zLX11 11 false mcX11_list ftX11_list hcX11_list zULf xcX11_list 35 = true := by decide +kernel
theorem gcX11_list {D : zD} {l : Launch} (hD : zWD D) : zCs D l xcX11_list := ⟨tcX11_forgetChanges hD, tcX11_isSide hD, tcX6_readList hD, tcX11_takeSpare hD, trivial⟩
theorem tcX11_list {D : zD} {l : Launch} (hD : zWD D) : zC D l mcX11_list := zk_methC ⟨rfl, rfl⟩ hD poolX11 icX11_list jcX11_list ftX11_list_ok (gcX11_list hD) wcX11_list ecX11_list
def ftX11_forgetAgreements : List (Nat × List (Nat × Instr × Nat)) := [(24, [(0, .iconst 0, 1), (1, .istore_n 1, 1), (2, .iload_n 1, 1), (3, .iconst 2, 1), (4, .if_icmp .ge 19, 3), (7, .aload_n 0, 1), (8, .getfield 89, 3), (11, .iload_n 1, 1), (12, .aaload, 1), (13, .iconst 0, 1), (14, .putfield 347, 3), (17, .iinc 1 1, 3), (20, .goto (-18), 3), (23, .return_, 1)])]
theorem ftX11_forgetAgreements_ok : zk_ftb cX11_forgetAgreements ftX11_forgetAgreements = true := by decide +kernel
def qcX11_forgetAgreements : zQ := ((2, 2), ([(2, 1, 0)], ([(0, 0, 0)], [], [], []), ([(1, 42)], [], [], [], [], [])), [(none, ([(0, 0, 0)], [], [], []), ([], [], [], [], [], []))], ([(41, 4)], []), (0, 0))
def mcX11_forgetAgreements : zM := (yX11_forgetAgreements, cX11_forgetAgreements, 2, none, { frames := 1, cells := 0, slots := 0, locals := 12 }, qcX11_forgetAgreements)
def hcX11_forgetAgreements : zH := ([(2, [([(0, (2, 1, 0)), (1, (0, 2, 0))], [], ([(0, 0, 0), (2, 0, 2)], [], [], []), ([(1, 42)], [], [], [], [], []), (3, ([(2, (-1))], 2), 0, 0))])], [], [], [], ([], 0, 0), 5)
theorem jcX11_forgetAgreements : zk_txok RX11 hcX11_forgetAgreements.2.2.2.2.1 := zk_txb_ok (p := (0, 0)) (by decide +kernel)
def xcX11_forgetAgreements : List zX := []
theorem wcX11_forgetAgreements : zk_hwsb zcl RX11 mcX11_forgetAgreements.rm xcX11_forgetAgreements [] = true := by decide +kernel
theorem icX11_forgetAgreements : zk_idb zcl RX11 11 false mcX11_forgetAgreements = true := by decide +kernel
theorem ecX11_forgetAgreements : zk_run zcl zft zTT zPF zPB zSUf zLX11 11 false mcX11_forgetAgreements ftX11_forgetAgreements hcX11_forgetAgreements zULf xcX11_forgetAgreements 13 = true := by decide +kernel
theorem gcX11_forgetAgreements {D : zD} {l : Launch} (hD : zWD D) : zCs D l xcX11_forgetAgreements := trivial
theorem tcX11_forgetAgreements {D : zD} {l : Launch} (hD : zWD D) : zC D l mcX11_forgetAgreements := zk_methC ⟨rfl, rfl⟩ hD poolX11 icX11_forgetAgreements jcX11_forgetAgreements ftX11_forgetAgreements_ok (gcX11_forgetAgreements hD) wcX11_forgetAgreements ecX11_forgetAgreements
def ftX6_readKnown : List (Nat × List (Nat × Instr × Nat)) := [(10, [(0, .aload_n 0, 1), (1, .aload_n 1, 1), (2, .aload_n 2, 1), (3, .bipush 8, 2), (5, .iconst 0, 1), (6, .invokevirtual 107, 3), (9, .ireturn, 1)])]
theorem ftX6_readKnown_ok : zk_ftb cX6_readKnown ftX6_readKnown = true := by decide +kernel
def qcX6_readKnown : zQ := ((4, 4), ([(2, 1, 0), (2, 2, 0), (2, 3, 0)], ([(0, 0, 0)], [], [], []), ([(1, 34), (2, 31), (3, 32)], [], [], [], [], [])), [(some (0, 0, 0), ([(0, 0, 0)], [], [], []), ([], [], [], [], [], [])), (some (0, 0, 1), ([(0, 0, 0)], [], [], []), ([], [], [], [], [], []))], ([(30, 2), (30, 3), (30, 4), (30, 5), (30, 6), (30, 7), (31, 5), (31, 6), (34, 1), (34, 2)], [47, 48, 49, 50, 51]), (0, 0))
def mcX6_readKnown : zM := (yX6_readKnown, cX6_readKnown, 3, (some .boolean), { frames := 6, cells := 0, slots := 0, locals := 122 }, qcX6_readKnown)
def hcX6_readKnown : zH := ([], [], [], [], ([], 0, 0), 1)
theorem jcX6_readKnown : zk_txok RX6 hcX6_readKnown.2.2.2.2.1 := zk_txb_ok (p := (0, 0)) (by decide +kernel)
def xcX6_readKnown : List zX := [(107, 2, 6, mcX6_readNames)]
theorem wcX6_readKnown : zk_hwsb zcl RX6 mcX6_readKnown.rm xcX6_readKnown [(681, 77, 678, 680, 12)] = true := by decide +kernel
theorem icX6_readKnown : zk_idb zcl RX6 6 false mcX6_readKnown = true := by decide +kernel
theorem ecX6_readKnown : zk_run zcl zft zTT zPF zPB zSUf zLX6 6 false mcX6_readKnown ftX6_readKnown hcX6_readKnown zULf xcX6_readKnown 9 = true := by decide +kernel
theorem gcX6_readKnown {D : zD} {l : Launch} (hD : zWD D) : zCs D l xcX6_readKnown := ⟨tcX6_readNames hD, trivial⟩
theorem tcX6_readKnown {D : zD} {l : Launch} (hD : zWD D) : zC D l mcX6_readKnown := zk_methC ⟨rfl, rfl⟩ hD poolX6 icX6_readKnown jcX6_readKnown ftX6_readKnown_ok (gcX6_readKnown hD) wcX6_readKnown ecX6_readKnown
def ftX11_known : List (Nat × List (Nat × Instr × Nat)) := [(24, [(0, .aload_n 0, 1), (1, .getfield 21, 3), (4, .aload_n 0, 1), (5, .getfield 38, 3), (8, .iconst 3, 1), (9, .aaload, 1), (10, .aload_n 0, 1), (11, .getfield 28, 3), (14, .invokevirtual 137, 3), (17, .istore_n 1, 1), (18, .aload_n 0, 1), (19, .getfield 12, 3), (22, .iconst 0, 1), (23, .putfield 103, 3)]), (48, [(26, .iload_n 1, 1), (27, .ifCond .ne 5, 3), (30, .iconst (-1), 1), (31, .ireturn, 1), (32, .aload_n 0, 1), (33, .iconst 2, 1), (34, .invokevirtual 131, 3), (37, .aload_n 0, 1), (38, .invokevirtual 140, 3), (41, .aload_n 0, 1), (42, .getfield 38, 3), (45, .iconst 2, 1), (46, .aaload, 1), (47, .getfield 134, 3)]), (51, [(50, .ireturn, 1)])]
theorem ftX11_known_ok : zk_ftb cX11_known ftX11_known = true := by decide +kernel
def qcX11_known : zQ := ((4, 5), ([(2, 1, 0)], ([(0, 0, 0), (3, 0, 1200)], [], [], []), ([(1, 42), (2, 30)], [(1, 11, 0, (2, 2, 0)), (2, 8, 1, (0, 3, 0))], [], [], [], [])), [(some (0, 0, (-1)), ([(0, 0, 0)], [], [], []), ([], [(1, 11, 0, (2, 2, 0)), (2, 8, 1, (0, 0, 0))], [], [], [], [])), (some (0, 4, 0), ([(0, 0, 0), (4, 0, 80)], [], [], []), ([], [(1, 11, 0, (2, 2, 0)), (2, 8, 1, (0, 0, 0))], [], [], [], []))], ([(30, 1), (30, 2), (30, 3), (30, 4), (30, 5), (30, 6), (30, 7), (31, 5), (31, 6), (34, 1), (34, 2), (41, 4)], [47, 48, 49, 50, 51, 68]), (0, 0))
def mcX11_known : zM := (yX11_known, cX11_known, 2, (some .int), { frames := 7, cells := 0, slots := 0, locals := 144 }, qcX11_known)
def hcX11_known : zH := ([], [], [], [], ([], 0, 0), 1)
theorem jcX11_known : zk_txok RX11 hcX11_known.2.2.2.2.1 := zk_txb_ok (p := (0, 0)) (by decide +kernel)
def xcX11_known : List zX := [(131, 2, 11, mcX11_takeSpare), (137, 2, 6, mcX6_readKnown), (140, 2, 11, mcX11_forgetAgreements)]
theorem wcX11_known : zk_hwsb zcl RX11 mcX11_known.rm xcX11_known [(713, 75, 710, 712, 14), (721, 77, 718, 719, 720), (725, 75, 722, 724, 15)] = true := by decide +kernel
theorem icX11_known : zk_idb zcl RX11 11 false mcX11_known = true := by decide +kernel
theorem ecX11_known : zk_run zcl zft zTT zPF zPB zSUf zLX11 11 false mcX11_known ftX11_known hcX11_known zULf xcX11_known 29 = true := by decide +kernel
theorem gcX11_known {D : zD} {l : Launch} (hD : zWD D) : zCs D l xcX11_known := ⟨tcX11_takeSpare hD, tcX6_readKnown hD, tcX11_forgetAgreements hD, trivial⟩
theorem tcX11_known {D : zD} {l : Launch} (hD : zWD D) : zC D l mcX11_known := zk_methC ⟨rfl, rfl⟩ hD poolX11 icX11_known jcX11_known ftX11_known_ok (gcX11_known hD) wcX11_known ecX11_known
def ftX10_clear : List (Nat × List (Nat × Instr × Nat)) := [(21, [(0, .aload_n 0, 1), (1, .iconst 0, 1), (2, .putfield 31, 3), (5, .iconst 0, 1), (6, .istore_n 1, 1), (7, .iload_n 1, 1), (8, .bipush 16, 2), (10, .if_icmp .ge 23, 3), (13, .aload_n 0, 1), (14, .getfield 24, 3), (17, .iload_n 1, 1), (18, .iconst 0, 1), (19, .bastore, 1), (20, .aload_n 0, 1)]), (34, [(21, .getfield 28, 3), (24, .iload_n 1, 1), (25, .iconst 0, 1), (26, .bastore, 1), (27, .iinc 1 1, 3), (30, .goto (-23), 3), (33, .return_, 1)])]
theorem ftX10_clear_ok : zk_ftb cX10_clear ftX10_clear = true := by decide +kernel
def qcX10_clear : zQ := ((2, 2), ([(2, 1, 0)], ([(0, 0, 0)], [], [], []), ([(1, 33)], [], [], [], [], [])), [(none, ([(0, 0, 0)], [], [], []), ([], [], [], [], [], []))], ([(33, 6)], [56, 57]), (0, 0))
def mcX10_clear : zM := (yX10_clear, cX10_clear, 2, none, { frames := 1, cells := 0, slots := 0, locals := 12 }, qcX10_clear)
def hcX10_clear : zH := ([(7, [([(0, (2, 1, 0)), (1, (0, 2, 0))], [], ([(0, 0, 0), (2, 0, 16)], [], [], []), ([(1, 33)], [(1, 10, 6, (0, 0, 0))], [], [], [], []), (3, ([(2, (-1))], 16), 0, 0))])], [], [], [], ([], 0, 0), 33)
theorem jcX10_clear : zk_txok RX10 hcX10_clear.2.2.2.2.1 := zk_txb_ok (p := (0, 0)) (by decide +kernel)
def xcX10_clear : List zX := []
theorem wcX10_clear : zk_hwsb zcl RX10 mcX10_clear.rm xcX10_clear [] = true := by decide +kernel
theorem icX10_clear : zk_idb zcl RX10 10 false mcX10_clear = true := by decide +kernel
theorem ecX10_clear : zk_run zcl zft zTT zPF zPB zSUf zLX10 10 false mcX10_clear ftX10_clear hcX10_clear zULf xcX10_clear 17 = true := by decide +kernel
theorem gcX10_clear {D : zD} {l : Launch} (hD : zWD D) : zCs D l xcX10_clear := trivial
theorem tcX10_clear {D : zD} {l : Launch} (hD : zWD D) : zC D l mcX10_clear := zk_methC ⟨rfl, rfl⟩ hD poolX10 icX10_clear jcX10_clear ftX10_clear_ok (gcX10_clear hD) wcX10_clear ecX10_clear
def ftX10_placeOf : List (Nat × List (Nat × Instr × Nat)) := [(7, [(0, .iload_n 0, 1), (1, .bipush 8, 2), (3, .imul, 1), (4, .iload_n 1, 1), (5, .iadd, 1), (6, .ireturn, 1)])]
theorem ftX10_placeOf_ok : zk_ftb cX10_placeOf ftX10_placeOf = true := by decide +kernel
def qcX10_placeOf_k0 : zQ := ((2, 2), ([(0, 0, 0), (0, 1, 0)], ([(0, 0, 0), (1, 0, 7)], [], [], []), ([], [], [], [], [], [])), [(some (0, 1, 0), ([(0, 0, 0)], [], [], []), ([], [], [], [], [], []))], ([], []), (0, 0))
def mcX10_placeOf_k0 : zM := (yX10_placeOf, cX10_placeOf, 2, (some .int), { frames := 1, cells := 0, slots := 0, locals := 12 }, qcX10_placeOf_k0)
def hcX10_placeOf_k0 : zH := ([], [], [], [], ([], 0, 0), 1)
theorem jcX10_placeOf_k0 : zk_txok RX10 hcX10_placeOf_k0.2.2.2.2.1 := zk_txb_ok (p := (0, 0)) (by decide +kernel)
def xcX10_placeOf_k0 : List zX := []
theorem wcX10_placeOf_k0 : zk_hwsb zcl RX10 mcX10_placeOf_k0.rm xcX10_placeOf_k0 [] = true := by decide +kernel
theorem icX10_placeOf_k0 : zk_idb zcl RX10 10 false mcX10_placeOf_k0 = true := by decide +kernel
theorem ecX10_placeOf_k0 : zk_run zcl zft zTT zPF zPB zSUf zLX10 10 false mcX10_placeOf_k0 ftX10_placeOf hcX10_placeOf_k0 zULf xcX10_placeOf_k0 8 = true := by decide +kernel
theorem gcX10_placeOf_k0 {D : zD} {l : Launch} (hD : zWD D) : zCs D l xcX10_placeOf_k0 := trivial
theorem tcX10_placeOf_k0 {D : zD} {l : Launch} (hD : zWD D) : zC D l mcX10_placeOf_k0 := zk_methC ⟨rfl, rfl⟩ hD poolX10 icX10_placeOf_k0 jcX10_placeOf_k0 ftX10_placeOf_ok (gcX10_placeOf_k0 hD) wcX10_placeOf_k0 ecX10_placeOf_k0
def ftX10_add : List (Nat × List (Nat × Instr × Nat)) := [(25, [(0, .aload_n 0, 1), (1, .getfield 31, 3), (4, .bipush 30, 2), (6, .if_icmp .lt 4, 3), (9, .return_, 1), (10, .aload_n 0, 1), (11, .getfield 9, 3), (14, .aload_n 0, 1), (15, .getfield 31, 3), (18, .iload_n 1, 1), (19, .iastore, 1), (20, .aload_n 0, 1), (21, .getfield 15, 3), (24, .aload_n 0, 1)]), (49, [(25, .getfield 31, 3), (28, .iload_n 2, 1), (29, .iastore, 1), (30, .aload_n 0, 1), (31, .getfield 18, 3), (34, .aload_n 0, 1), (35, .getfield 31, 3), (38, .iload_n 3, 1), (39, .iastore, 1), (40, .aload_n 0, 1), (41, .getfield 21, 3), (44, .aload_n 0, 1), (45, .getfield 31, 3), (48, .iload 4, 2)]), (73, [(50, .iastore, 1), (51, .aload_n 0, 1), (52, .dup, 1), (53, .getfield 31, 3), (56, .iconst 1, 1), (57, .iadd, 1), (58, .putfield 31, 3), (61, .iload_n 1, 1), (62, .iload_n 3, 1), (63, .invokestatic 35, 3), (66, .istore 5, 2), (68, .iload_n 2, 1), (69, .ifCond .ne 14, 3), (72, .aload_n 0, 1)]), (97, [(73, .getfield 24, 3), (76, .iload 5, 2), (78, .iconst 1, 1), (79, .bastore, 1), (80, .goto 55, 3), (83, .iload_n 2, 1), (84, .iconst 4, 1), (85, .if_icmp .ne 14, 3), (88, .aload_n 0, 1), (89, .getfield 28, 3), (92, .iload 5, 2), (94, .iconst 1, 1), (95, .bastore, 1), (96, .goto 39, 3)]), (121, [(99, .iload_n 2, 1), (100, .iconst 3, 1), (101, .if_icmp .ne 34, 3), (104, .iconst 1, 1), (105, .iload_n 1, 1), (106, .isub, 1), (107, .iload_n 3, 1), (108, .invokestatic 35, 3), (111, .istore 6, 2), (113, .aload_n 0, 1), (114, .getfield 24, 3), (117, .iload 6, 2), (119, .iconst 1, 1), (120, .bastore, 1)]), (136, [(121, .aload_n 0, 1), (122, .getfield 28, 3), (125, .iload 6, 2), (127, .aload_n 0, 1), (128, .getfield 28, 3), (131, .iload 5, 2), (133, .baload, 1), (134, .bastore, 1), (135, .return_, 1)])]
theorem ftX10_add_ok : zk_ftb cX10_add ftX10_add = true := by decide +kernel
def qcX10_add_a_k0 : zQ := ((5, 5), ([(2, 1, 0), (0, 0, 0), (0, 2, 0), (0, 3, 0), (0, 4, 0)], ([(0, 0, 0), (2, 5, 5), (3, 0, 7), (4, 1, 60)], [], [], []), ([(1, 33)], [], [], [], [], [(100, [])])), [(none, ([(0, 0, 0)], [], [], []), ([], [], [], [], [], [(100, [])]))], ([(33, 6)], [52, 53, 54, 55]), (0, 0))
def mcX10_add_a_k0 : zM := (yX10_add, cX10_add, 7, none, { frames := 2, cells := 0, slots := 0, locals := 33 }, qcX10_add_a_k0)
def hcX10_add_a_k0 : zH := ([], [], [], [], ([], 0, 0), 1)
theorem jcX10_add_a_k0 : zk_txok RX10 hcX10_add_a_k0.2.2.2.2.1 := zk_txb_ok (p := (0, 0)) (by decide +kernel)
def xcX10_add_a_k0 : List zX := [(35, 0, 0, mcX10_placeOf_k0)]
theorem wcX10_add_a_k0 : zk_hwsb zcl RX10 mcX10_add_a_k0.rm xcX10_add_a_k0 [(766, 80, 764, 765, 0)] = true := by decide +kernel
theorem icX10_add_a_k0 : zk_idb zcl RX10 10 false mcX10_add_a_k0 = true := by decide +kernel
theorem ecX10_add_a_k0 : zk_run zcl zft zTT zPF zPB zSUf zLX10 10 false mcX10_add_a_k0 ftX10_add hcX10_add_a_k0 zULf xcX10_add_a_k0 49 = true := by decide +kernel
theorem gcX10_add_a_k0 {D : zD} {l : Launch} (hD : zWD D) : zCs D l xcX10_add_a_k0 := ⟨tcX10_placeOf_k0 hD, trivial⟩
theorem tcX10_add_a_k0 {D : zD} {l : Launch} (hD : zWD D) : zC D l mcX10_add_a_k0 := zk_methC ⟨rfl, rfl⟩ hD poolX10 icX10_add_a_k0 jcX10_add_a_k0 ftX10_add_ok (gcX10_add_a_k0 hD) wcX10_add_a_k0 ecX10_add_a_k0
def qcX10_placeOf_k1 : zQ := ((2, 2), ([(0, 0, 1), (0, 1, 0)], ([(0, 0, 0), (1, 0, 7)], [], [], []), ([], [], [], [], [], [])), [(some (0, 1, 8), ([(0, 0, 0)], [], [], []), ([], [], [], [], [], []))], ([], []), (0, 0))
def mcX10_placeOf_k1 : zM := (yX10_placeOf, cX10_placeOf, 2, (some .int), { frames := 1, cells := 0, slots := 0, locals := 12 }, qcX10_placeOf_k1)
def hcX10_placeOf_k1 : zH := ([], [], [], [], ([], 0, 0), 1)
theorem jcX10_placeOf_k1 : zk_txok RX10 hcX10_placeOf_k1.2.2.2.2.1 := zk_txb_ok (p := (0, 0)) (by decide +kernel)
def xcX10_placeOf_k1 : List zX := []
theorem wcX10_placeOf_k1 : zk_hwsb zcl RX10 mcX10_placeOf_k1.rm xcX10_placeOf_k1 [] = true := by decide +kernel
theorem icX10_placeOf_k1 : zk_idb zcl RX10 10 false mcX10_placeOf_k1 = true := by decide +kernel
theorem ecX10_placeOf_k1 : zk_run zcl zft zTT zPF zPB zSUf zLX10 10 false mcX10_placeOf_k1 ftX10_placeOf hcX10_placeOf_k1 zULf xcX10_placeOf_k1 8 = true := by decide +kernel
theorem gcX10_placeOf_k1 {D : zD} {l : Launch} (hD : zWD D) : zCs D l xcX10_placeOf_k1 := trivial
theorem tcX10_placeOf_k1 {D : zD} {l : Launch} (hD : zWD D) : zC D l mcX10_placeOf_k1 := zk_methC ⟨rfl, rfl⟩ hD poolX10 icX10_placeOf_k1 jcX10_placeOf_k1 ftX10_placeOf_ok (gcX10_placeOf_k1 hD) wcX10_placeOf_k1 ecX10_placeOf_k1
def qcX10_add_a_k1 : zQ := ((5, 5), ([(2, 1, 0), (0, 0, 1), (0, 2, 0), (0, 3, 0), (0, 4, 0)], ([(0, 0, 0), (2, 5, 5), (3, 0, 7), (4, 1, 60)], [], [], []), ([(1, 33)], [], [], [], [], [(100, [])])), [(none, ([(0, 0, 0)], [], [], []), ([], [], [], [], [], [(100, [])]))], ([(33, 6)], [52, 53, 54, 55]), (0, 0))
def mcX10_add_a_k1 : zM := (yX10_add, cX10_add, 7, none, { frames := 2, cells := 0, slots := 0, locals := 33 }, qcX10_add_a_k1)
def hcX10_add_a_k1 : zH := ([], [], [], [], ([], 0, 0), 1)
theorem jcX10_add_a_k1 : zk_txok RX10 hcX10_add_a_k1.2.2.2.2.1 := zk_txb_ok (p := (0, 0)) (by decide +kernel)
def xcX10_add_a_k1 : List zX := [(35, 0, 0, mcX10_placeOf_k1)]
theorem wcX10_add_a_k1 : zk_hwsb zcl RX10 mcX10_add_a_k1.rm xcX10_add_a_k1 [(766, 80, 764, 765, 0)] = true := by decide +kernel
theorem icX10_add_a_k1 : zk_idb zcl RX10 10 false mcX10_add_a_k1 = true := by decide +kernel
theorem ecX10_add_a_k1 : zk_run zcl zft zTT zPF zPB zSUf zLX10 10 false mcX10_add_a_k1 ftX10_add hcX10_add_a_k1 zULf xcX10_add_a_k1 49 = true := by decide +kernel
theorem gcX10_add_a_k1 {D : zD} {l : Launch} (hD : zWD D) : zCs D l xcX10_add_a_k1 := ⟨tcX10_placeOf_k1 hD, trivial⟩
theorem tcX10_add_a_k1 {D : zD} {l : Launch} (hD : zWD D) : zC D l mcX10_add_a_k1 := zk_methC ⟨rfl, rfl⟩ hD poolX10 icX10_add_a_k1 jcX10_add_a_k1 ftX10_add_ok (gcX10_add_a_k1 hD) wcX10_add_a_k1 ecX10_add_a_k1
def qcX10_add_b_k0 : zQ := ((5, 5), ([(2, 1, 0), (0, 0, 0), (0, 2, 0), (0, 3, 0), (0, 4, 0)], ([(0, 0, 0), (2, 0, 7), (3, 0, 7), (4, 0, 7)], [], [], []), ([(1, 33)], [], [], [], [], [(100, [])])), [(none, ([(0, 0, 0)], [], [], []), ([], [], [], [], [], [(100, [])]))], ([(33, 6)], [52, 53, 54, 55, 56, 57]), (0, 0))
def mcX10_add_b_k0 : zM := (yX10_add, cX10_add, 7, none, { frames := 2, cells := 0, slots := 0, locals := 33 }, qcX10_add_b_k0)
def hcX10_add_b_k0 : zH := ([], [], [], [], ([], 0, 0), 1)
theorem jcX10_add_b_k0 : zk_txok RX10 hcX10_add_b_k0.2.2.2.2.1 := zk_txb_ok (p := (0, 0)) (by decide +kernel)
def xcX10_add_b_k0 : List zX := [(35, 0, 0, mcX10_placeOf_k0), (35, 0, 0, mcX10_placeOf_k1)]
theorem wcX10_add_b_k0 : zk_hwsb zcl RX10 mcX10_add_b_k0.rm xcX10_add_b_k0 [(766, 80, 764, 765, 0), (766, 80, 764, 765, 0)] = true := by decide +kernel
theorem icX10_add_b_k0 : zk_idb zcl RX10 10 false mcX10_add_b_k0 = true := by decide +kernel
theorem ecX10_add_b_k0 : zk_run zcl zft zTT zPF zPB zSUf zLX10 10 false mcX10_add_b_k0 ftX10_add hcX10_add_b_k0 zULf xcX10_add_b_k0 68 = true := by decide +kernel
theorem gcX10_add_b_k0 {D : zD} {l : Launch} (hD : zWD D) : zCs D l xcX10_add_b_k0 := ⟨tcX10_placeOf_k0 hD, tcX10_placeOf_k1 hD, trivial⟩
theorem tcX10_add_b_k0 {D : zD} {l : Launch} (hD : zWD D) : zC D l mcX10_add_b_k0 := zk_methC ⟨rfl, rfl⟩ hD poolX10 icX10_add_b_k0 jcX10_add_b_k0 ftX10_add_ok (gcX10_add_b_k0 hD) wcX10_add_b_k0 ecX10_add_b_k0
