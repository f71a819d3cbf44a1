/-! METHODS (printed by wip/t4) -/
def ftX7_keyOf : List (Nat × List (Nat × Instr × Nat)) := [(25, [(0, .aload_n 0, 1), (1, .getfield 26, 3), (4, .ifCond .ne 8, 3), (7, .bipush 10, 2), (9, .goto 7, 3), (12, .aload_n 0, 1), (13, .getfield 26, 3), (16, .istore_n 3, 1), (17, .lconst 0, 1), (18, .lstore 4, 2), (20, .iconst 0, 1), (21, .istore 6, 2), (23, .iconst 0, 1), (24, .istore 7, 2)]), (54, [(26, .bipush 45, 2), (28, .istore 8, 2), (30, .iload 8, 2), (32, .ifCond .lt 79, 3), (35, .iload 6, 2), (37, .iload_n 3, 1), (38, .if_icmp .ge 73, 3), (41, .lload_n 1, 1), (42, .iload 8, 2), (44, .invokestatic 33, 3), (47, .istore 9, 2), (49, .iload 9, 2), (51, .bipush 26, 2), (53, .if_icmp .gt 13, 3)]), (84, [(56, .aload_n 0, 1), (57, .getfield 9, 3), (60, .iload 9, 2), (62, .iaload, 1), (63, .goto 4, 3), (66, .iconst 0, 1), (67, .istore 10, 2), (69, .iload 10, 2), (71, .ifCond .eq 34, 3), (74, .aload_n 0, 1), (75, .getfield 22, 3), (78, .ifCond .eq 10, 3), (81, .iload 10, 2), (83, .iload 7, 2)]), (112, [(85, .if_icmp .eq 20, 3), (88, .lload 4, 2), (90, .iconst 5, 1), (91, .lshl, 1), (92, .iload 10, 2), (94, .i2l, 1), (95, .lor, 1), (96, .lstore 4, 2), (98, .iinc 6 1, 3), (101, .iload 10, 2), (103, .istore 7, 2), (105, .iinc 8 (-5), 3), (108, .goto (-78), 3), (111, .lload 4, 2)]), (114, [(113, .lreturn, 1)])]
theorem ftX7_keyOf_ok : zk_ftb cX7_keyOf ftX7_keyOf = true := by decide +kernel
def qcX7_keyOf : zQ := ((3, 4), ([(2, 1, 0), (1, 2, 0)], ([(0, 0, 0), (2, (-9223372036854775808), 9223372036854775807)], [], [], []), ([(1, 32)], [], [], [], [], [])), [(some (1, 3, 0), ([(0, 0, 0), (3, (-9223372036854775808), 9223372036854775807)], [], [], []), ([], [], [], [], [], []))], ([], []), (0, 0))
def mcX7_keyOf : zM := (yX7_keyOf, cX7_keyOf, 11, (some .long), { frames := 2, cells := 0, slots := 0, locals := 34 }, qcX7_keyOf)
def hcX7_keyOf : zH := ([(30, [([(0, (2, 1, 0)), (1, (1, 2, 0)), (3, (0, 3, 0)), (4, (1, 4, 0)), (6, (0, 5, 0)), (7, (0, 6, 0)), (8, (0, 7, 0))], [], ([(0, 0, 0), (3, 1, 10), (4, (-9223372036854775808), 9223372036854775807), (5, 0, 10), (6, (-2147483648), 2147483647), (7, (-5), 45), (8, 0, 10), (2, (-9223372036854775808), 9223372036854775807)], [(5, 3, 0), (8, 3, 0)], [], []), ([(1, 32)], [(1, 7, 3, (0, 8, 0))], [], [], [], []), (9, ([(7, 1)], 5), 0, 0))])], [], [], [], ([], 0, 0), 51)
theorem jcX7_keyOf : zk_txok RX7 hcX7_keyOf.2.2.2.2.1 := zk_txb_ok (p := (0, 0)) (by decide +kernel)
def xcX7_keyOf : List zX := [(33, 1, 0, mcX11_letterAt)]
theorem wcX7_keyOf : zk_hwsb zcl RX7 mcX7_keyOf.rm xcX7_keyOf [(693, 75, 0, 692, 0)] = true := by decide +kernel
theorem icX7_keyOf : zk_idb zcl RX7 7 false mcX7_keyOf = true := by decide +kernel
theorem ecX7_keyOf : zk_run zcl zft zTT zPF zPB zSUf zLX7 7 false mcX7_keyOf ftX7_keyOf hcX7_keyOf zULf xcX7_keyOf 40 = true := by decide +kernel
theorem gcX7_keyOf {D : zD} {l : Launch} (hD : zWD D) : zCs D l xcX7_keyOf := ⟨tcX11_letterAt hD, trivial⟩
theorem tcX7_keyOf {D : zD} {l : Launch} (hD : zWD D) : zC D l mcX7_keyOf := zk_methC ⟨rfl, rfl⟩ hD poolX7 icX7_keyOf jcX7_keyOf ftX7_keyOf_ok (gcX7_keyOf hD) wcX7_keyOf ecX7_keyOf
def ftX6_isNewName : List (Nat × List (Nat × Instr × Nat)) := [(24, [(0, .aload_n 0, 1), (1, .getfield 9, 3), (4, .getfield 33, 3), (7, .iconst 1, 1), (8, .if_icmp .eq 9, 3), (11, .aload_n 0, 1), (12, .iconst 1, 1), (13, .invokevirtual 36, 3), (16, .ireturn, 1), (17, .aload_n 1, 1), (18, .aload_n 2, 1), (19, .aload_n 0, 1), (20, .getfield 9, 3), (23, .getfield 118, 3)]), (52, [(26, .invokevirtual 122, 3), (29, .iconst 0, 1), (30, .invokevirtual 129, 3), (33, .iconst (-1), 1), (34, .if_icmp .eq 9, 3), (37, .aload_n 0, 1), (38, .iconst 3, 1), (39, .invokevirtual 36, 3), (42, .ireturn, 1), (43, .aload_n 1, 1), (44, .getfield 133, 3), (47, .iload_n 3, 1), (48, .if_icmp .lt 11, 3), (51, .aload_n 0, 1)]), (65, [(52, .iconst 4, 1), (53, .invokevirtual 36, 3), (56, .ifCond .eq 7, 3), (59, .iconst 1, 1), (60, .goto 4, 3), (63, .iconst 0, 1), (64, .ireturn, 1)])]
theorem ftX6_isNewName_ok : zk_ftb cX6_isNewName ftX6_isNewName = true := by decide +kernel
def qcX6_isNewName : zQ := ((5, 5), ([(2, 1, 0), (2, 2, 0), (2, 3, 0), (0, 4, 0)], ([(0, 0, 0), (4, 8, 40)], [], [], []), ([(1, 34), (2, 31), (3, 32)], [], [], [], [], [])), [(some (0, 0, 0), ([(0, 0, 0)], [], [], []), ([], [], [], [], [], [])), (some (0, 0, 1), ([(0, 0, 0)], [], [], []), ([], [], [], [], [], []))], ([(34, 1), (34, 2)], []), (0, 0))
def mcX6_isNewName : zM := (yX6_isNewName, cX6_isNewName, 4, (some .boolean), { frames := 3, cells := 0, slots := 0, locals := 64 }, qcX6_isNewName)
def hcX6_isNewName : zH := ([], [], [], [], ([], 0, 0), 1)
theorem jcX6_isNewName : zk_txok RX6 hcX6_isNewName.2.2.2.2.1 := zk_txb_ok (p := (0, 0)) (by decide +kernel)
def xcX6_isNewName : List zX := [(36, 2, 6, mcX6_fail), (122, 2, 7, mcX7_keyOf), (129, 2, 4, mcX4_find)]
theorem wcX6_isNewName : zk_hwsb zcl RX6 mcX6_isNewName.rm xcX6_isNewName [(623, 77, 620, 622, 5), (690, 78, 687, 688, 689), (697, 79, 694, 695, 696)] = true := by decide +kernel
theorem icX6_isNewName : zk_idb zcl RX6 6 false mcX6_isNewName = true := by decide +kernel
theorem ecX6_isNewName : zk_run zcl zft zTT zPF zPB zSUf zLX6 6 false mcX6_isNewName ftX6_isNewName hcX6_isNewName zULf xcX6_isNewName 27 = true := by decide +kernel
theorem gcX6_isNewName {D : zD} {l : Launch} (hD : zWD D) : zCs D l xcX6_isNewName := ⟨tcX6_fail hD, tcX7_keyOf hD, tcX4_find hD, trivial⟩
theorem tcX6_isNewName {D : zD} {l : Launch} (hD : zWD D) : zC D l mcX6_isNewName := zk_methC ⟨rfl, rfl⟩ hD poolX6 icX6_isNewName jcX6_isNewName ftX6_isNewName_ok (gcX6_isNewName hD) wcX6_isNewName ecX6_isNewName
def qcX6_takeNumber_k0_k9999 : zQ := ((2, 4), ([(2, 1, 0), (0, 0, 0), (0, 0, 9999)], ([(0, 0, 0)], [], [], []), ([(1, 34)], [], [], [], [], [])), [(some (0, 0, 0), ([(0, 0, 0)], [], [], []), ([(2, 30)], [(1, 6, 0, (2, 2, 0))], [], [], [], [])), (some (0, 0, 1), ([(0, 0, 0), (3, 0, 9999)], [], [], []), ([(2, 30)], [(1, 6, 0, (2, 2, 0)), (2, 8, 7, (0, 3, 0))], [], [], [], []))], ([(30, 2), (30, 3), (30, 4), (30, 5), (30, 6), (30, 7), (34, 1), (34, 2)], []), (0, 0))
def mcX6_takeNumber_k0_k9999 : zM := (yX6_takeNumber, cX6_takeNumber, 3, (some .boolean), { frames := 4, cells := 0, slots := 0, locals := 72 }, qcX6_takeNumber_k0_k9999)
def hcX6_takeNumber_k0_k9999 : zH := ([], [], [], [], ([], 0, 0), 1)
theorem jcX6_takeNumber_k0_k9999 : zk_txok RX6 hcX6_takeNumber_k0_k9999.2.2.2.2.1 := zk_txb_ok (p := (0, 0)) (by decide +kernel)
def xcX6_takeNumber_k0_k9999 : List zX := [(30, 2, 8, mcX8_step), (36, 2, 6, mcX6_fail)]
theorem wcX6_takeNumber_k0_k9999 : zk_hwsb zcl RX6 mcX6_takeNumber_k0_k9999.rm xcX6_takeNumber_k0_k9999 [(537, 76, 534, 535, 536), (623, 77, 620, 622, 5)] = true := by decide +kernel
theorem icX6_takeNumber_k0_k9999 : zk_idb zcl RX6 6 false mcX6_takeNumber_k0_k9999 = true := by decide +kernel
theorem ecX6_takeNumber_k0_k9999 : zk_run zcl zft zTT zPF zPB zSUf zLX6 6 false mcX6_takeNumber_k0_k9999 ftX6_takeNumber hcX6_takeNumber_k0_k9999 zULf xcX6_takeNumber_k0_k9999 26 = true := by decide +kernel
theorem gcX6_takeNumber_k0_k9999 {D : zD} {l : Launch} (hD : zWD D) : zCs D l xcX6_takeNumber_k0_k9999 := ⟨tcX8_step hD, tcX6_fail hD, trivial⟩
theorem tcX6_takeNumber_k0_k9999 {D : zD} {l : Launch} (hD : zWD D) : zC D l mcX6_takeNumber_k0_k9999 := zk_methC ⟨rfl, rfl⟩ hD poolX6 icX6_takeNumber_k0_k9999 jcX6_takeNumber_k0_k9999 ftX6_takeNumber_ok (gcX6_takeNumber_k0_k9999 hD) wcX6_takeNumber_k0_k9999 ecX6_takeNumber_k0_k9999
def ftX6_readNames : List (Nat × List (Nat × Instr × Nat)) := [(28, [(0, .aload_n 0, 1), (1, .invokevirtual 43, 3), (4, .aload_n 1, 1), (5, .invokevirtual 111, 3), (8, .iconst 0, 1), (9, .istore 5, 2), (11, .iload 5, 2), (13, .sipush 1200, 3), (16, .if_icmp .gt 109, 3), (19, .aload_n 0, 1), (20, .getfield 9, 3), (23, .invokevirtual 30, 3), (26, .aload_n 0, 1), (27, .getfield 9, 3)]), (56, [(30, .getfield 33, 3), (33, .ifCond .ne 6, 3), (36, .goto 89, 3), (39, .aload_n 0, 1), (40, .aload_n 1, 1), (41, .aload_n 2, 1), (42, .iload_n 3, 1), (43, .invokevirtual 114, 3), (46, .ifCond .ne 5, 3), (49, .iconst 0, 1), (50, .ireturn, 1), (51, .aload_n 0, 1), (52, .getfield 9, 3), (55, .getfield 118, 3)]), (85, [(58, .lstore 6, 2), (60, .iload 4, 2), (62, .ifCond .eq 16, 3), (65, .aload_n 0, 1), (66, .iconst 0, 1), (67, .sipush 9999, 3), (70, .invokevirtual 103, 3), (73, .ifCond .ne 5, 3), (76, .iconst 0, 1), (77, .ireturn, 1), (78, .iload 4, 2), (80, .ifCond .eq 13, 3), (83, .aload_n 0, 1), (84, .getfield 9, 3)]), (112, [(87, .getfield 40, 3), (90, .goto 4, 3), (93, .iconst 0, 1), (94, .istore 8, 2), (96, .aload_n 0, 1), (97, .invokevirtual 97, 3), (100, .ifCond .ne 5, 3), (103, .iconst 0, 1), (104, .ireturn, 1), (105, .aload_n 1, 1), (106, .lload 6, 2), (108, .aload_n 2, 1), (109, .lload 6, 2), (111, .invokevirtual 122, 3)]), (127, [(114, .iload 8, 2), (116, .invokevirtual 126, 3), (119, .iinc 5 1, 3), (122, .goto (-111), 3), (125, .iconst 1, 1), (126, .ireturn, 1)])]
theorem ftX6_readNames_ok : zk_ftb cX6_readNames ftX6_readNames = true := by decide +kernel
def qcX6_readNames : zQ := ((6, 6), ([(2, 1, 0), (2, 2, 0), (2, 3, 0), (0, 4, 0), (0, 5, 0)], ([(0, 0, 0), (4, 8, 40), (5, 0, 1)], [], [], []), ([(1, 34), (2, 31), (3, 32)], [], [], [], [], [])), [(some (0, 0, 0), ([(0, 0, 0)], [], [], []), ([], [], [], [], [], [])), (some (0, 0, 1), ([(0, 0, 0)], [], [], []), ([], [], [], [], [], []))], ([(30, 2), (30, 3), (30, 4), (30, 5), (30, 6), (30, 7), (31, 5), (31, 6), (34, 1), (34, 2)], [47, 48, 49, 50, 51]), (0, 0))
def mcX6_readNames : zM := (yX6_readNames, cX6_readNames, 9, (some .boolean), { frames := 5, cells := 0, slots := 0, locals := 94 }, qcX6_readNames)
def hcX6_readNames : zH := ([(11, [([(0, (2, 1, 0)), (1, (2, 2, 0)), (2, (2, 3, 0)), (3, (0, 4, 0)), (4, (0, 5, 0)), (5, (0, 6, 0))], [], ([(0, 0, 0), (6, 0, 1201), (4, 8, 40), (5, 0, 1)], [], [], []), ([(1, 34), (2, 31), (3, 32)], [], [], [], [], []), (7, ([(6, (-1))], 1201), 0, 0))])], [], [], [], ([], 0, 0), 2403)
theorem jcX6_readNames : zk_txok RX6 hcX6_readNames.2.2.2.2.1 := zk_txb_ok (p := (0, 0)) (by decide +kernel)
def xcX6_readNames : List zX := [(30, 2, 8, mcX8_step), (43, 2, 6, mcX6_begin), (97, 2, 6, mcX6_takeSemicolon), (103, 2, 6, mcX6_takeNumber_k0_k9999), (111, 2, 4, mcX4_clear), (114, 2, 6, mcX6_isNewName), (122, 2, 7, mcX7_keyOf), (126, 2, 4, mcX4_tell)]
theorem wcX6_readNames : zk_hwsb zcl RX6 mcX6_readNames.rm xcX6_readNames [(537, 76, 534, 535, 536), (528, 77, 525, 527, 0), (645, 77, 642, 644, 8), (654, 77, 651, 653, 10), (658, 79, 682, 656, 657), (686, 77, 683, 685, 13), (690, 78, 687, 688, 689), (705, 79, 702, 703, 704)] = true := by decide +kernel
theorem icX6_readNames : zk_idb zcl RX6 6 false mcX6_readNames = true := by decide +kernel
theorem ecX6_readNames : zk_run zcl zft zTT zPF zPB zSUf zLX6 6 false mcX6_readNames ftX6_readNames hcX6_readNames zULf xcX6_readNames 48 = true := by decide +kernel
theorem gcX6_readNames {D : zD} {l : Launch} (hD : zWD D) : zCs D l xcX6_readNames := ⟨tcX8_step hD, tcX6_begin hD, tcX6_takeSemicolon hD, tcX6_takeNumber_k0_k9999 hD, tcX4_clear hD, tcX6_isNewName hD, tcX7_keyOf hD, tcX4_tell hD, trivial⟩
theorem tcX6_readNames {D : zD} {l : Launch} (hD : zWD D) : zC D l mcX6_readNames := zk_methC ⟨rfl, rfl⟩ hD poolX6 icX6_readNames jcX6_readNames ftX6_readNames_ok (gcX6_readNames hD) wcX6_readNames ecX6_readNames
def ftX6_readList : List (Nat × List (Nat × Instr × Nat)) := [(10, [(0, .aload_n 0, 1), (1, .aload_n 1, 1), (2, .aload_n 2, 1), (3, .bipush 40, 2), (5, .iconst 1, 1), (6, .invokevirtual 107, 3), (9, .ireturn, 1)])]
theorem ftX6_readList_ok : zk_ftb cX6_readList ftX6_readList = true := by decide +kernel
def qcX6_readList : zQ := ((4, 4), ([(2, 1, 0), (2, 2, 0), (2, 3, 0)], ([(0, 0, 0)], [], [], []), ([(1, 34), (2, 31), (3, 32)], [], [], [], [], [])), [(some (0, 0, 0), ([(0, 0, 0)], [], [], []), ([], [], [], [], [], [])), (some (0, 0, 1), ([(0, 0, 0)], [], [], []), ([], [], [], [], [], []))], ([(30, 2), (30, 3), (30, 4), (30, 5), (30, 6), (30, 7), (31, 5), (31, 6), (34, 1), (34, 2)], [47, 48, 49, 50, 51]), (0, 0))
def mcX6_readList : zM := (yX6_readList, cX6_readList, 3, (some .boolean), { frames := 6, cells := 0, slots := 0, locals := 122 }, qcX6_readList)
def hcX6_readList : zH := ([], [], [], [], ([], 0, 0), 1)
theorem jcX6_readList : zk_txok RX6 hcX6_readList.2.2.2.2.1 := zk_txb_ok (p := (0, 0)) (by decide +kernel)
def xcX6_readList : List zX := [(107, 2, 6, mcX6_readNames)]
theorem wcX6_readList : zk_hwsb zcl RX6 mcX6_readList.rm xcX6_readList [(681, 77, 678, 680, 12)] = true := by decide +kernel
theorem icX6_readList : zk_idb zcl RX6 6 false mcX6_readList = true := by decide +kernel
theorem ecX6_readList : zk_run zcl zft zTT zPF zPB zSUf zLX6 6 false mcX6_readList ftX6_readList hcX6_readList zULf xcX6_readList 9 = true := by decide +kernel
theorem gcX6_readList {D : zD} {l : Launch} (hD : zWD D) : zCs D l xcX6_readList := ⟨tcX6_readNames hD, trivial⟩
theorem tcX6_readList {D : zD} {l : Launch} (hD : zWD D) : zC D l mcX6_readList := zk_methC ⟨rfl, rfl⟩ hD poolX6 icX6_readList jcX6_readList ftX6_readList_ok (gcX6_readList hD) wcX6_readList ecX6_readList
def ftX11_list : List (Nat × List (Nat × Instr × Nat)) := [(27, [(0, .iload_n 1, 1), (1, .invokestatic 123, 3), (4, .ifCond .ne 14, 3), (7, .aload_n 0, 1), (8, .getfield 12, 3), (11, .iconst 0, 1), (12, .putfield 103, 3), (15, .bipush (-2), 2), (17, .ireturn, 1), (18, .aload_n 0, 1), (19, .getfield 21, 3), (22, .aload_n 0, 1), (23, .getfield 38, 3), (26, .iconst 3, 1)]), (51, [(27, .aaload, 1), (28, .aload_n 0, 1), (29, .getfield 28, 3), (32, .invokevirtual 127, 3), (35, .istore_n 2, 1), (36, .aload_n 0, 1), (37, .getfield 12, 3), (40, .iconst 0, 1), (41, .putfield 103, 3), (44, .iload_n 2, 1), (45, .ifCond .ne 5, 3), (48, .iconst (-1), 1), (49, .ireturn, 1), (50, .aload_n 0, 1)]), (74, [(51, .iload_n 1, 1), (52, .invokevirtual 131, 3), (55, .aload_n 0, 1), (56, .invokevirtual 117, 3), (59, .aload_n 0, 1), (60, .iconst 0, 1), (61, .putfield 93, 3), (64, .aload_n 0, 1), (65, .getfield 38, 3), (68, .iload_n 1, 1), (69, .aaload, 1), (70, .getfield 134, 3), (73, .ireturn, 1)])]
theorem ftX11_list_ok : zk_ftb cX11_list ftX11_list = true := by decide +kernel
def qcX11_list : zQ := ((5, 6), ([(2, 1, 0), (0, 2, 0)], ([(0, 0, 0), (2, (-2147483648), 2147483647), (4, 0, 1200)], [], [], []), ([(1, 42), (3, 30)], [(1, 11, 0, (2, 3, 0)), (3, 8, 1, (0, 4, 0))], [], [], [], [])), [(some (0, 0, (-1)), ([(0, 0, 0), (2, 0, 1)], [], [], []), ([], [(1, 11, 0, (2, 3, 0)), (3, 8, 1, (0, 0, 0))], [], [], [], [])), (some (0, 0, (-2)), ([(0, 0, 0)], [], [], []), ([], [(1, 11, 0, (2, 3, 0)), (3, 8, 1, (0, 0, 0))], [], [], [], [])), (some (0, 5, 0), ([(0, 0, 0), (5, 0, 80), (2, 0, 1)], [], [], []), ([], [(1, 11, 0, (2, 3, 0)), (3, 8, 1, (0, 0, 0))], [], [], [], []))], ([(30, 1), (30, 2), (30, 3), (30, 4), (30, 5), (30, 6), (30, 7), (31, 5), (31, 6), (34, 1), (34, 2), (42, 13), (42, 14), (42, 15)], [47, 48, 49, 50, 51, 68]), (0, 0))
def mcX11_list : zM := (yX11_list, cX11_list, 3, (some .int), { frames := 7, cells := 0, slots := 0, locals := 144 }, qcX11_list)
def hcX11_list : zH := ([], [], [], [], ([], 0, 0), 1)
theorem jcX11_list : zk_txok RX11 hcX11_list.2.2.2.2.1 := zk_txb_ok (p := (0, 0)) (by decide +kernel)
def xcX11_list : List zX := [(117, 2, 11, mcX11_forgetChanges), (123, 0, 0, mcX11_isSide), (127, 2, 6, mcX6_readList), (131, 2, 11, mcX11_takeSpare)]
theorem wcX11_list : zk_hwsb zcl RX11 mcX11_list.rm xcX11_list [(662, 75, 659, 661, 11), (673, 75, 671, 672, 0), (677, 77, 674, 675, 676), (713, 75, 710, 712, 14)] = true := by decide +kernel
theorem icX11_list : zk_idb zcl RX11 11 false mcX11_list = true := by decide +kernel
theorem ecX11_list : zk_run zcl zft zTT zPF zPB zSUf zLX11 11 false mcX11_list ftX11_list hcX11_list zULf xcX11_list 35 = true := by decide +kernel
theorem gcX11_list {D : zD} {l : Launch} (hD : zWD D) : zCs D l xcX11_list := ⟨tcX11_forgetChanges hD, tcX11_isSide hD, tcX6_readList hD, tcX11_takeSpare hD, trivial⟩
theorem tcX11_list {D : zD} {l : Launch} (hD : zWD D) : zC D l mcX11_list := zk_methC ⟨rfl, rfl⟩ hD poolX11 icX11_list jcX11_list ftX11_list_ok (gcX11_list hD) wcX11_list ecX11_list
def ftX11_forgetAgreements : List (Nat × List (Nat × Instr × Nat)) := [(24, [(0, .iconst 0, 1), (1, .istore_n 1, 1), (2, .iload_n 1, 1), (3, .iconst 2, 1), (4, .if_icmp .ge 19, 3), (7, .aload_n 0, 1), (8, .getfield 89, 3), (11, .iload_n 1, 1), (12, .aaload, 1), (13, .iconst 0, 1), (14, .putfield 347, 3), (17, .iinc 1 1, 3), (20, .goto (-18), 3), (23, .return_, 1)])]
theorem ftX11_forgetAgreements_ok : zk_ftb cX11_forgetAgreements ftX11_forgetAgreements = true := by decide +kernel
def qcX11_forgetAgreements : zQ := ((2, 2), ([(2, 1, 0)], ([(0, 0, 0)], [], [], []), ([(1, 42)], [], [], [], [], [])), [(none, ([(0, 0, 0)], [], [], []), ([], [], [], [], [], []))], ([(41, 4)], []), (0, 0))
def mcX11_forgetAgreements : zM := (yX11_forgetAgreements, cX11_forgetAgreements, 2, none, { frames := 1, cells := 0, slots := 0, locals := 12 }, qcX11_forgetAgreements)
def hcX11_forgetAgreements : zH := ([(2, [([(0, (2, 1, 0)), (1, (0, 2, 0))], [], ([(0, 0, 0), (2, 0, 2)], [], [], []), ([(1, 42)], [], [], [], [], []), (3, ([(2, (-1))], 2), 0, 0))])], [], [], [], ([], 0, 0), 5)
theorem jcX11_forgetAgreements : zk_txok RX11 hcX11_forgetAgreements.2.2.2.2.1 := zk_txb_ok (p := (0, 0)) (by decide +kernel)
def xcX11_forgetAgreements : List zX := []
theorem wcX11_forgetAgreements : zk_hwsb zcl RX11 mcX11_forgetAgreements.rm xcX11_forgetAgreements [] = true := by decide +kernel
theorem icX11_forgetAgreements : zk_idb zcl RX11 11 false mcX11_forgetAgreements = true := by decide +kernel
theorem ecX11_forgetAgreements : zk_run zcl zft zTT zPF zPB zSUf zLX11 11 false mcX11_forgetAgreements ftX11_forgetAgreements hcX11_forgetAgreements zULf xcX11_forgetAgreements 13 = true := by decide +kernel
theorem gcX11_forgetAgreements {D : zD} {l : Launch} (hD : zWD D) : zCs D l xcX11_forgetAgreements := trivial
theorem tcX11_forgetAgreements {D : zD} {l : Launch} (hD : zWD D) : zC D l mcX11_forgetAgreements := zk_methC ⟨rfl, rfl⟩ hD poolX11 icX11_forgetAgreements jcX11_forgetAgreements ftX11_forgetAgreements_ok (gcX11_forgetAgreements hD) wcX11_forgetAgreements ecX11_forgetAgreements
def ftX6_readKnown : List (Nat × List (Nat × Instr × Nat)) := [(10, [(0, .aload_n 0, 1), (1, .aload_n 1, 1), (2, .aload_n 2, 1), (3, .bipush 8, 2), (5, .iconst 0, 1), (6, .invokevirtual 107, 3), (9, .ireturn, 1)])]
theorem ftX6_readKnown_ok : zk_ftb cX6_readKnown ftX6_readKnown = true := by decide +kernel
def qcX6_readKnown : zQ := ((4, 4), ([(2, 1, 0), (2, 2, 0), (2, 3, 0)], ([(0, 0, 0)], [], [], []), ([(1, 34), (2, 31), (3, 32)], [], [], [], [], [])), [(some (0, 0, 0), ([(0, 0, 0)], [], [], []), ([], [], [], [], [], [])), (some (0, 0, 1), ([(0, 0, 0)], [], [], []), ([], [], [], [], [], []))], ([(30, 2), (30, 3), (30, 4), (30, 5), (30, 6), (30, 7), (31, 5), (31, 6), (34, 1), (34, 2)], [47, 48, 49, 50, 51]), (0, 0))
def mcX6_readKnown : zM := (yX6_readKnown, cX6_readKnown, 3, (some .boolean), { frames := 6, cells := 0, slots := 0, locals := 122 }, qcX6_readKnown)
def hcX6_readKnown : zH := ([], [], [], [], ([], 0, 0), 1)
theorem jcX6_readKnown : zk_txok RX6 hcX6_readKnown.2.2.2.2.1 := zk_txb_ok (p := (0, 0)) (by decide +kernel)
def xcX6_readKnown : List zX := [(107, 2, 6, mcX6_readNames)]
theorem wcX6_readKnown : zk_hwsb zcl RX6 mcX6_readKnown.rm xcX6_readKnown [(681, 77, 678, 680, 12)] = true := by decide +kernel
theorem icX6_readKnown : zk_idb zcl RX6 6 false mcX6_readKnown = true := by decide +kernel
theorem ecX6_readKnown : zk_run zcl zft zTT zPF zPB zSUf zLX6 6 false mcX6_readKnown ftX6_readKnown hcX6_readKnown zULf xcX6_readKnown 9 = true := by decide +kernel
theorem gcX6_readKnown {D : zD} {l : Launch} (hD : zWD D) : zCs D l xcX6_readKnown := ⟨tcX6_readNames hD, trivial⟩
theorem tcX6_readKnown {D : zD} {l : Launch} (hD : zWD D) : zC D l mcX6_readKnown := zk_methC ⟨rfl, rfl⟩ hD poolX6 icX6_readKnown jcX6_readKnown ftX6_readKnown_ok (gcX6_readKnown hD) wcX6_readKnown ecX6_readKnown
def ftX11_known : List (Nat × List (Nat × Instr × Nat)) := [(24, [(0, .aload_n 0, 1), (1, .getfield 21, 3), (4, .aload_n 0, 1), (5, .getfield 38, 3), (8, .iconst 3, 1), (9, .aaload, 1), (10, .aload_n 0, 1), (11, .getfield 28, 3), (14, .invokevirtual 137, 3), (17, .istore_n 1, 1), (18, .aload_n 0, 1), (19, .getfield 12, 3), (22, .iconst 0, 1), (23, .putfield 103, 3)]), (48, [(26, .iload_n 1, 1), (27, .ifCond .ne 5, 3), (30, .iconst (-1), 1), (31, .ireturn, 1), (32, .aload_n 0, 1), (33, .iconst 2, 1), (34, .invokevirtual 131, 3), (37, .aload_n 0, 1), (38, .invokevirtual 140, 3), (41, .aload_n 0, 1), (42, .getfield 38, 3), (45, .iconst 2, 1), (46, .aaload, 1), (47, .getfield 134, 3)]), (51, [(50, .ireturn, 1)])]
theorem ftX11_known_ok : zk_ftb cX11_known ftX11_known = true := by decide +kernel
def qcX11_known : zQ := ((4, 5), ([(2, 1, 0)], ([(0, 0, 0), (3, 0, 1200)], [], [], []), ([(1, 42), (2, 30)], [(1, 11, 0, (2, 2, 0)), (2, 8, 1, (0, 3, 0))], [], [], [], [])), [(some (0, 0, (-1)), ([(0, 0, 0)], [], [], []), ([], [(1, 11, 0, (2, 2, 0)), (2, 8, 1, (0, 0, 0))], [], [], [], [])), (some (0, 4, 0), ([(0, 0, 0), (4, 0, 80)], [], [], []), ([], [(1, 11, 0, (2, 2, 0)), (2, 8, 1, (0, 0, 0))], [], [], [], []))], ([(30, 1), (30, 2), (30, 3), (30, 4), (30, 5), (30, 6), (30, 7), (31, 5), (31, 6), (34, 1), (34, 2), (41, 4)], [47, 48, 49, 50, 51, 68]), (0, 0))
def mcX11_known : zM := (yX11_known, cX11_known, 2, (some .int), { frames := 7, cells := 0, slots := 0, locals := 144 }, qcX11_known)
def hcX11_known : zH := ([], [], [], [], ([], 0, 0), 1)
theorem jcX11_known : zk_txok RX11 hcX11_known.2.2.2.2.1 := zk_txb_ok (p := (0, 0)) (by decide +kernel)
def xcX11_known : List zX := [(131, 2, 11, mcX11_takeSpare), (137, 2, 6, mcX6_readKnown), (140, 2, 11, mcX11_forgetAgreements)]
theorem wcX11_known : zk_hwsb zcl RX11 mcX11_known.rm xcX11_known [(713, 75, 710, 712, 14), (721, 77, 718, 719, 720), (725, 75, 722, 724, 15)] = true := by decide +kernel
theorem icX11_known : zk_idb zcl RX11 11 false mcX11_known = true := by decide +kernel
theorem ecX11_known : zk_run zcl zft zTT zPF zPB zSUf zLX11 11 false mcX11_known ftX11_known hcX11_known zULf xcX11_known 29 = true := by decide +kernel
theorem gcX11_known {D : zD} {l : Launch} (hD : zWD D) : zCs D l xcX11_known := ⟨tcX11_takeSpare hD, tcX6_readKnown hD, tcX11_forgetAgreements hD, trivial⟩
theorem tcX11_known {D : zD} {l : Launch} (hD : zWD D) : zC D l mcX11_known := zk_methC ⟨rfl, rfl⟩ hD poolX11 icX11_known jcX11_known ftX11_known_ok (gcX11_known hD) wcX11_known ecX11_known
def ftX10_clear : List (Nat × List (Nat × Instr × Nat)) := [(21, [(0, .aload_n 0, 1), (1, .iconst 0, 1), (2, .putfield 31, 3), (5, .iconst 0, 1), (6, .istore_n 1, 1), (7, .iload_n 1, 1), (8, .bipush 16, 2), (10, .if_icmp .ge 23, 3), (13, .aload_n 0, 1), (14, .getfield 24, 3), (17, .iload_n 1, 1), (18, .iconst 0, 1), (19, .bastore, 1), (20, .aload_n 0, 1)]), (34, [(21, .getfield 28, 3), (24, .iload_n 1, 1), (25, .iconst 0, 1), (26, .bastore, 1), (27, .iinc 1 1, 3), (30, .goto (-23), 3), (33, .return_, 1)])]
theorem ftX10_clear_ok : zk_ftb cX10_clear ftX10_clear = true := by decide +kernel
def qcX10_clear_tk : zQ := ((6, 6), ([(2, 1, 0)], ([(0, 0, 0), (5, 0, 30)], [], [], []), ([(1, 33), (2, 56), (3, 57), (4, 33)], [(1, 10, 4, (2, 2, 0)), (1, 10, 5, (2, 3, 0))], [], [], [], [(109, []), (343, [(2, 4, 0), (0, 5, 0)]), (259, [(2, 4, 0), (2, 1, 0)])])), [(none, ([(0, 0, 0)], [], [], []), ([], [(1, 10, 6, (0, 0, 0))], [], [], [], [(375, [(2, 2, 0), (0, 0, 16)]), (376, [(2, 3, 0), (0, 0, 16)]), (343, [(2, 4, 0), (0, 5, 0)]), (109, [])]))], ([(33, 6)], [56, 57]), (0, 0))
def mcX10_clear_tk : zM := (yX10_clear, cX10_clear, 2, none, { frames := 1, cells := 0, slots := 0, locals := 12 }, qcX10_clear_tk)
def hcX10_clear_tk : zH := ([(7, [([(0, (2, 1, 0)), (1, (0, 6, 0))], [], ([(0, 0, 0), (6, 0, 16), (5, 0, 30)], [], [], []), ([(1, 33), (2, 56), (3, 57), (4, 33)], [(1, 10, 6, (0, 0, 0)), (1, 10, 4, (2, 2, 0)), (1, 10, 5, (2, 3, 0))], [], [], [], [(109, []), (259, [(2, 4, 0), (2, 1, 0)]), (375, [(2, 2, 0), (0, 6, 0)]), (376, [(2, 3, 0), (0, 6, 0)]), (343, [(2, 4, 0), (0, 5, 0)])]), (7, ([(6, (-1))], 16), 0, 0))])], [], [(2, [(9, 560, 0), (9, 561, 0)]), (33, [(1, 1, 0)])], [], ([], 0, 0), 33)
theorem jcX10_clear_tk : zk_txok RX10 hcX10_clear_tk.2.2.2.2.1 := zk_txb_ok (p := (0, 0)) (by decide +kernel)
def xcX10_clear_tk : List zX := []
theorem wcX10_clear_tk : zk_hwsb zcl RX10 mcX10_clear_tk.rm xcX10_clear_tk [] = true := by decide +kernel
theorem icX10_clear_tk : zk_idb zcl RX10 10 false mcX10_clear_tk = true := by decide +kernel
theorem ecX10_clear_tk : zk_run zcl zft zTT zPF zPB zSUf zLX10 10 false mcX10_clear_tk ftX10_clear hcX10_clear_tk zULf xcX10_clear_tk 17 = true := by decide +kernel
theorem gcX10_clear_tk {D : zD} {l : Launch} (hD : zWD D) : zCs D l xcX10_clear_tk := trivial
theorem tcX10_clear_tk {D : zD} {l : Launch} (hD : zWD D) : zC D l mcX10_clear_tk := zk_methC ⟨rfl, rfl⟩ hD poolX10 icX10_clear_tk jcX10_clear_tk ftX10_clear_ok (gcX10_clear_tk hD) wcX10_clear_tk ecX10_clear_tk
def qcX8_rewind_tk : zQ := ((2, 2), ([(2, 1, 0)], ([(0, 0, 0)], [], [], []), ([(1, 30)], [], [], [], [], [])), [(none, ([(0, 0, 0)], [], [], []), ([], [(1, 8, 2, (0, 0, 0))], [], [], [], []))], ([(30, 2)], []), (0, 0))
def mcX8_rewind_tk : zM := (yX8_rewind, cX8_rewind, 1, none, { frames := 1, cells := 0, slots := 0, locals := 12 }, qcX8_rewind_tk)
def hcX8_rewind_tk : zH := ([], [], [], [], ([], 0, 0), 1)
theorem jcX8_rewind_tk : zk_txok RX8 hcX8_rewind_tk.2.2.2.2.1 := zk_txb_ok (p := (0, 0)) (by decide +kernel)
def xcX8_rewind_tk : List zX := []
theorem wcX8_rewind_tk : zk_hwsb zcl RX8 mcX8_rewind_tk.rm xcX8_rewind_tk [] = true := by decide +kernel
theorem icX8_rewind_tk : zk_idb zcl RX8 8 false mcX8_rewind_tk = true := by decide +kernel
theorem ecX8_rewind_tk : zk_run zcl zft zTT zPF zPB zSUf zLX8 8 false mcX8_rewind_tk ftX8_rewind hcX8_rewind_tk zULf xcX8_rewind_tk 6 = true := by decide +kernel
theorem gcX8_rewind_tk {D : zD} {l : Launch} (hD : zWD D) : zCs D l xcX8_rewind_tk := trivial
theorem tcX8_rewind_tk {D : zD} {l : Launch} (hD : zWD D) : zC D l mcX8_rewind_tk := zk_methC ⟨rfl, rfl⟩ hD poolX8 icX8_rewind_tk jcX8_rewind_tk ftX8_rewind_ok (gcX8_rewind_tk hD) wcX8_rewind_tk ecX8_rewind_tk
def qcX6_begin_tk : zQ := ((5, 5), ([(2, 1, 0)], ([(0, 0, 0), (4, 0, 1200)], [], [], []), ([(1, 34), (2, 30), (3, 44)], [(1, 6, 0, (2, 2, 0)), (2, 8, 0, (2, 3, 0)), (2, 8, 1, (0, 4, 0))], [], [], [], [])), [(none, ([(0, 0, 0)], [], [], []), ([], [(1, 6, 1, (0, 0, 0)), (1, 6, 2, (0, 0, (-1))), (1, 6, 0, (2, 2, 0)), (2, 8, 2, (0, 0, 0))], [], [], [], []))], ([(30, 2), (34, 1), (34, 2)], []), (0, 0))
def mcX6_begin_tk : zM := (yX6_begin, cX6_begin, 1, none, { frames := 2, cells := 0, slots := 0, locals := 32 }, qcX6_begin_tk)
def hcX6_begin_tk : zH := ([], [], [], [], ([], 0, 0), 1)
theorem jcX6_begin_tk : zk_txok RX6 hcX6_begin_tk.2.2.2.2.1 := zk_txb_ok (p := (0, 0)) (by decide +kernel)
def xcX6_begin_tk : List zX := [(22, 2, 8, mcX8_rewind_tk)]
theorem wcX6_begin_tk : zk_hwsb zcl RX6 mcX6_begin_tk.rm xcX6_begin_tk [(532, 76, 529, 530, 531)] = true := by decide +kernel
theorem icX6_begin_tk : zk_idb zcl RX6 6 false mcX6_begin_tk = true := by decide +kernel
theorem ecX6_begin_tk : zk_run zcl zft zTT zPF zPB zSUf zLX6 6 false mcX6_begin_tk ftX6_begin hcX6_begin_tk zULf xcX6_begin_tk 12 = true := by decide +kernel
theorem gcX6_begin_tk {D : zD} {l : Launch} (hD : zWD D) : zCs D l xcX6_begin_tk := ⟨tcX8_rewind_tk hD, trivial⟩
theorem tcX6_begin_tk {D : zD} {l : Launch} (hD : zWD D) : zC D l mcX6_begin_tk := zk_methC ⟨rfl, rfl⟩ hD poolX6 icX6_begin_tk jcX6_begin_tk ftX6_begin_ok (gcX6_begin_tk hD) wcX6_begin_tk ecX6_begin_tk
def ftX10_placeOf : List (Nat × List (Nat × Instr × Nat)) := [(7, [(0, .iload_n 0, 1), (1, .bipush 8, 2), (3, .imul, 1), (4, .iload_n 1, 1), (5, .iadd, 1), (6, .ireturn, 1)])]
theorem ftX10_placeOf_ok : zk_ftb cX10_placeOf ftX10_placeOf = true := by decide +kernel
def qcX10_placeOf_k0 : zQ := ((2, 2), ([(0, 0, 0), (0, 1, 0)], ([(0, 0, 0), (1, 0, 7)], [], [], []), ([], [], [], [], [], [])), [(some (0, 1, 0), ([(0, 0, 0)], [], [], []), ([], [], [], [], [], []))], ([], []), (0, 0))
def mcX10_placeOf_k0 : zM := (yX10_placeOf, cX10_placeOf, 2, (some .int), { frames := 1, cells := 0, slots := 0, locals := 12 }, qcX10_placeOf_k0)
def hcX10_placeOf_k0 : zH := ([], [], [], [], ([], 0, 0), 1)
theorem jcX10_placeOf_k0 : zk_txok RX10 hcX10_placeOf_k0.2.2.2.2.1 := zk_txb_ok (p := (0, 0)) (by decide +kernel)
def xcX10_placeOf_k0 : List zX := []
theorem wcX10_placeOf_k0 : zk_hwsb zcl RX10 mcX10_placeOf_k0.rm xcX10_placeOf_k0 [] = true := by decide +kernel
theorem icX10_placeOf_k0 : zk_idb zcl RX10 10 false mcX10_placeOf_k0 = true := by decide +kernel
theorem ecX10_placeOf_k0 : zk_run zcl zft zTT zPF zPB zSUf zLX10 10 false mcX10_placeOf_k0 ftX10_placeOf hcX10_placeOf_k0 zULf xcX10_placeOf_k0 8 = true := by decide +kernel
theorem gcX10_placeOf_k0 {D : zD} {l : Launch} (hD : zWD D) : zCs D l xcX10_placeOf_k0 := trivial
theorem tcX10_placeOf_k0 {D : zD} {l : Launch} (hD : zWD D) : zC D l mcX10_placeOf_k0 := zk_methC ⟨rfl, rfl⟩ hD poolX10 icX10_placeOf_k0 jcX10_placeOf_k0 ftX10_placeOf_ok (gcX10_placeOf_k0 hD) wcX10_placeOf_k0 ecX10_placeOf_k0
def qcX10_placeOf_k1 : zQ := ((2, 2), ([(0, 0, 1), (0, 1, 0)], ([(0, 0, 0), (1, 0, 7)], [], [], []), ([], [], [], [], [], [])), [(some (0, 1, 8), ([(0, 0, 0)], [], [], []), ([], [], [], [], [], []))], ([], []), (0, 0))
def mcX10_placeOf_k1 : zM := (yX10_placeOf, cX10_placeOf, 2, (some .int), { frames := 1, cells := 0, slots := 0, locals := 12 }, qcX10_placeOf_k1)
def hcX10_placeOf_k1 : zH := ([], [], [], [], ([], 0, 0), 1)
theorem jcX10_placeOf_k1 : zk_txok RX10 hcX10_placeOf_k1.2.2.2.2.1 := zk_txb_ok (p := (0, 0)) (by decide +kernel)
def xcX10_placeOf_k1 : List zX := []
theorem wcX10_placeOf_k1 : zk_hwsb zcl RX10 mcX10_placeOf_k1.rm xcX10_placeOf_k1 [] = true := by decide +kernel
theorem icX10_placeOf_k1 : zk_idb zcl RX10 10 false mcX10_placeOf_k1 = true := by decide +kernel
theorem ecX10_placeOf_k1 : zk_run zcl zft zTT zPF zPB zSUf zLX10 10 false mcX10_placeOf_k1 ftX10_placeOf hcX10_placeOf_k1 zULf xcX10_placeOf_k1 8 = true := by decide +kernel
theorem gcX10_placeOf_k1 {D : zD} {l : Launch} (hD : zWD D) : zCs D l xcX10_placeOf_k1 := trivial
theorem tcX10_placeOf_k1 {D : zD} {l : Launch} (hD : zWD D) : zC D l mcX10_placeOf_k1 := zk_methC ⟨rfl, rfl⟩ hD poolX10 icX10_placeOf_k1 jcX10_placeOf_k1 ftX10_placeOf_ok (gcX10_placeOf_k1 hD) wcX10_placeOf_k1 ecX10_placeOf_k1
def ftX10_add : List (Nat × List (Nat × Instr × Nat)) := [(25, [(0, .aload_n 0, 1), (1, .getfield 31, 3), (4, .bipush 30, 2), (6, .if_icmp .lt 4, 3), (9, .return_, 1), (10, .aload_n 0, 1), (11, .getfield 9, 3), (14, .aload_n 0, 1), (15, .getfield 31, 3), (18, .iload_n 1, 1), (19, .iastore, 1), (20, .aload_n 0, 1), (21, .getfield 15, 3), (24, .aload_n 0, 1)]), (49, [(25, .getfield 31, 3), (28, .iload_n 2, 1), (29, .iastore, 1), (30, .aload_n 0, 1), (31, .getfield 18, 3), (34, .aload_n 0, 1), (35, .getfield 31, 3), (38, .iload_n 3, 1), (39, .iastore, 1), (40, .aload_n 0, 1), (41, .getfield 21, 3), (44, .aload_n 0, 1), (45, .getfield 31, 3), (48, .iload 4, 2)]), (73, [(50, .iastore, 1), (51, .aload_n 0, 1), (52, .dup, 1), (53, .getfield 31, 3), (56, .iconst 1, 1), (57, .iadd, 1), (58, .putfield 31, 3), (61, .iload_n 1, 1), (62, .iload_n 3, 1), (63, .invokestatic 35, 3), (66, .istore 5, 2), (68, .iload_n 2, 1), (69, .ifCond .ne 14, 3), (72, .aload_n 0, 1)]), (97, [(73, .getfield 24, 3), (76, .iload 5, 2), (78, .iconst 1, 1), (79, .bastore, 1), (80, .goto 55, 3), (83, .iload_n 2, 1), (84, .iconst 4, 1), (85, .if_icmp .ne 14, 3), (88, .aload_n 0, 1), (89, .getfield 28, 3), (92, .iload 5, 2), (94, .iconst 1, 1), (95, .bastore, 1), (96, .goto 39, 3)]), (121, [(99, .iload_n 2, 1), (100, .iconst 3, 1), (101, .if_icmp .ne 34, 3), (104, .iconst 1, 1), (105, .iload_n 1, 1), (106, .isub, 1), (107, .iload_n 3, 1), (108, .invokestatic 35, 3), (111, .istore 6, 2), (113, .aload_n 0, 1), (114, .getfield 24, 3), (117, .iload 6, 2), (119, .iconst 1, 1), (120, .bastore, 1)]), (136, [(121, .aload_n 0, 1), (122, .getfield 28, 3), (125, .iload 6, 2), (127, .aload_n 0, 1), (128, .getfield 28, 3), (131, .iload 5, 2), (133, .baload, 1), (134, .bastore, 1), (135, .return_, 1)])]
theorem ftX10_add_ok : zk_ftb cX10_add ftX10_add = true := by decide +kernel
def qcX10_add_ta_k0 : zQ := ((14, 14), ([(2, 1, 0), (0, 0, 0), (0, 2, 0), (0, 3, 0), (0, 4, 0)], ([(0, 0, 0), (2, 0, 5), (3, 0, 7), (4, 0, 60), (7, 0, 29), (13, 0, 30)], [], [], []), ([(1, 33), (5, 56), (6, 57), (12, 33)], [(1, 10, 4, (2, 5, 0)), (1, 10, 5, (2, 6, 0)), (1, 10, 6, (0, 7, 0))], [], [], [], [(109, []), (100, []), (370, [(0, 8, 0), (0, 9, 0), (2, 5, 0), (2, 6, 0), (0, 0, 5), (0, 10, 0), (0, 11, 0), (0, 0, 0), (0, 2, 0), (0, 3, 0)]), (343, [(2, 12, 0), (0, 13, 0)]), (259, [(2, 12, 0), (2, 1, 0)])])), [(none, ([(0, 0, 0)], [], [], []), ([], [(1, 10, 6, (0, 7, 1))], [], [], [], [(372, [(0, 8, 0), (0, 9, 0), (2, 5, 0), (2, 6, 0), (0, 0, 5), (0, 10, 0), (0, 11, 0), (0, 0, 0), (0, 2, 0), (0, 3, 0)]), (343, [(2, 12, 0), (0, 13, 0)]), (109, []), (100, [])]))], ([(33, 6)], [52, 53, 54, 55, 56, 57]), (0, 0))
def mcX10_add_ta_k0 : zM := (yX10_add, cX10_add, 7, none, { frames := 2, cells := 0, slots := 0, locals := 33 }, qcX10_add_ta_k0)
def hcX10_add_ta_k0 : zH := ([], [], [(85, [(9, 400, 0)]), (101, [(9, 400, 0)]), (135, [(9, 523, 0), (9, 524, 0)])], [], ([], 0, 0), 1)
theorem jcX10_add_ta_k0 : zk_txok RX10 hcX10_add_ta_k0.2.2.2.2.1 := zk_txb_ok (p := (0, 0)) (by decide +kernel)
def xcX10_add_ta_k0 : List zX := [(35, 0, 0, mcX10_placeOf_k0), (35, 0, 0, mcX10_placeOf_k1)]
theorem wcX10_add_ta_k0 : zk_hwsb zcl RX10 mcX10_add_ta_k0.rm xcX10_add_ta_k0 [(766, 80, 764, 765, 0), (766, 80, 764, 765, 0)] = true := by decide +kernel
theorem icX10_add_ta_k0 : zk_idb zcl RX10 10 false mcX10_add_ta_k0 = true := by decide +kernel
theorem ecX10_add_ta_k0 : zk_run zcl zft zTT zPF zPB zSUf zLX10 10 false mcX10_add_ta_k0 ftX10_add hcX10_add_ta_k0 zULf xcX10_add_ta_k0 68 = true := by decide +kernel
theorem gcX10_add_ta_k0 {D : zD} {l : Launch} (hD : zWD D) : zCs D l xcX10_add_ta_k0 := ⟨tcX10_placeOf_k0 hD, tcX10_placeOf_k1 hD, trivial⟩
theorem tcX10_add_ta_k0 {D : zD} {l : Launch} (hD : zWD D) : zC D l mcX10_add_ta_k0 := zk_methC ⟨rfl, rfl⟩ hD poolX10 icX10_add_ta_k0 jcX10_add_ta_k0 ftX10_add_ok (gcX10_add_ta_k0 hD) wcX10_add_ta_k0 ecX10_add_ta_k0
