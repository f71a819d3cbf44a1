/-! METHODS (printed by wip/t4) -/
def ftX6_readWay : List (Nat × List (Nat × Instr × Nat)) := [(26, [(0, .aload_n 0, 1), (1, .invokevirtual 43, 3), (4, .aload_n 1, 1), (5, .invokevirtual 136, 3), (8, .iconst 0, 1), (9, .istore_n 2, 1), (10, .iload_n 2, 1), (11, .sipush 1200, 3), (14, .if_icmp .gt 39, 3), (17, .aload_n 0, 1), (18, .getfield 9, 3), (21, .invokevirtual 30, 3), (24, .aload_n 0, 1), (25, .getfield 9, 3)]), (55, [(28, .getfield 33, 3), (31, .ifCond .ne 6, 3), (34, .goto 19, 3), (37, .aload_n 0, 1), (38, .aload_n 1, 1), (39, .invokevirtual 139, 3), (42, .ifCond .ne 5, 3), (45, .iconst 0, 1), (46, .ireturn, 1), (47, .iinc 2 1, 3), (50, .goto (-40), 3), (53, .iconst 1, 1), (54, .ireturn, 1)])]
theorem ftX6_readWay_ok : zk_ftb cX6_readWay ftX6_readWay = true := by decide +kernel
def qcX6_readWay_tk : zQ := ((8, 11), ([(2, 1, 0), (2, 2, 0)], ([(0, 0, 0), (5, 0, 1200)], [], [], []), ([(1, 34), (2, 33), (3, 30), (4, 44), (6, 56), (7, 57)], [(1, 6, 0, (2, 3, 0)), (3, 8, 0, (2, 4, 0)), (3, 8, 1, (0, 5, 0)), (2, 10, 4, (2, 6, 0)), (2, 10, 5, (2, 7, 0))], [], [], [], [(0, []), (109, []), (100, [])])), [(some (0, 0, 0), ([(0, 0, 0), (8, 1, 6), (9, 0, 1200), (10, 0, 30)], [(8, 5, 2)], [], []), ([], [(1, 6, 1, (0, 8, 0)), (1, 6, 2, (0, 9, 0)), (2, 10, 6, (0, 10, 0))], [], [], [], [(373, [(2, 4, 0), (0, 5, 0), (0, 8, 0), (0, 9, 0)]), (109, []), (100, [])])), (some (0, 0, 1), ([(0, 0, 0), (8, 0, 30)], [], [], []), ([], [(1, 6, 1, (0, 0, 0)), (1, 6, 2, (0, 0, (-1))), (2, 10, 6, (0, 8, 0))], [], [], [], [(374, [(2, 4, 0), (0, 5, 0), (0, 8, 0)]), (109, []), (100, [])]))], ([(30, 2), (30, 3), (30, 4), (30, 5), (30, 6), (30, 7), (33, 6), (34, 1), (34, 2), (34, 5), (34, 6)], [52, 53, 54, 55, 56, 57]), (0, 0))
def mcX6_readWay_tk : zM := (yX6_readWay, cX6_readWay, 3, (some .boolean), { frames := 8, cells := 0, slots := 0, locals := 163 }, qcX6_readWay_tk)
def hcX6_readWay_tk : zH := ([(10, [([(0, (2, 1, 0)), (1, (2, 2, 0)), (2, (0, 8, 0))], [], ([(0, 0, 0), (8, 0, 30), (9, 0, 1200), (5, 0, 1200)], [(9, 8, 1199), (9, 5, 1196)], [], []), ([(1, 34), (2, 33), (3, 30), (4, 44), (6, 56), (7, 57)], [(2, 10, 6, (0, 8, 0)), (1, 6, 1, (0, 0, 0)), (1, 6, 2, (0, 0, (-1))), (1, 6, 0, (2, 3, 0)), (3, 8, 2, (0, 9, 0)), (3, 8, 0, (2, 4, 0)), (3, 8, 1, (0, 5, 0)), (2, 10, 4, (2, 6, 0)), (2, 10, 5, (2, 7, 0))], [], [], [], [(109, []), (0, []), (109, []), (100, []), (370, [(2, 4, 0), (0, 5, 0), (2, 6, 0), (2, 7, 0), (0, 0, 0), (0, 9, 0), (0, 8, 0), (0, 0, 0), (0, 0, 0), (0, 0, 0)])]), (10, ([(8, (-1))], 30), 0, 0))])], [], [(8, [(9, 500, 0)]), (10, [(9, 733, 0)]), (14, [(9, 735, 0)]), (21, [(9, 410, 0)]), (34, [(9, 502, 0)]), (46, [(9, 736, 0)]), (47, [(9, 734, 0)])], [], ([], 0, 0), 61)
theorem jcX6_readWay_tk : zk_txok RX6 hcX6_readWay_tk.2.2.2.2.1 := zk_txb_ok (p := (0, 0)) (by decide +kernel)
def xcX6_readWay_tk : List zX := [(30, 2, 8, mcX8_step_tk), (43, 2, 6, mcX6_begin_tk), (136, 2, 10, mcX10_clear_tk), (139, 2, 6, mcX6_readLine_tk)]
theorem wcX6_readWay_tk : zk_hwsb zcl RX6 mcX6_readWay_tk.rm xcX6_readWay_tk [(537, 76, 534, 535, 536), (528, 77, 525, 527, 0), (737, 80, 734, 735, 736), (741, 77, 738, 740, 16)] = true := by decide +kernel
theorem icX6_readWay_tk : zk_idb zcl RX6 6 false mcX6_readWay_tk = true := by decide +kernel
theorem ecX6_readWay_tk : zk_run zcl zft zTT zPF zPB zSUf zLX6 6 false mcX6_readWay_tk ftX6_readWay hcX6_readWay_tk zULf xcX6_readWay_tk 18 = true := by decide +kernel
theorem gcX6_readWay_tk {D : zD} {l : Launch} (hD : zWD D) : zCs D l xcX6_readWay_tk := ⟨tcX8_step_tk hD, tcX6_begin_tk hD, tcX10_clear_tk hD, tcX6_readLine_tk hD, trivial⟩
theorem tcX6_readWay_tk {D : zD} {l : Launch} (hD : zWD D) : zC D l mcX6_readWay_tk := zk_methC ⟨rfl, rfl⟩ hD poolX6 icX6_readWay_tk jcX6_readWay_tk ftX6_readWay_ok (gcX6_readWay_tk hD) wcX6_readWay_tk ecX6_readWay_tk
def ftX11_way : List (Nat × List (Nat × Instr × Nat)) := [(26, [(0, .aload_n 0, 1), (1, .getfield 21, 3), (4, .aload_n 0, 1), (5, .getfield 49, 3), (8, .invokevirtual 143, 3), (11, .istore_n 1, 1), (12, .aload_n 0, 1), (13, .getfield 12, 3), (16, .iconst 0, 1), (17, .putfield 103, 3), (20, .iload_n 1, 1), (21, .ifCond .ne 5, 3), (24, .iconst (-1), 1), (25, .ireturn, 1)]), (50, [(26, .aload_n 0, 1), (27, .getfield 45, 3), (30, .astore_n 2, 1), (31, .aload_n 0, 1), (32, .aload_n 0, 1), (33, .getfield 49, 3), (36, .putfield 45, 3), (39, .aload_n 0, 1), (40, .aload_n 2, 1), (41, .putfield 49, 3), (44, .aload_n 0, 1), (45, .iconst 0, 1), (46, .putfield 93, 3), (49, .aload_n 0, 1)]), (57, [(50, .getfield 45, 3), (53, .getfield 147, 3), (56, .ireturn, 1)])]
theorem ftX11_way_ok : zk_ftb cX11_way ftX11_way = true := by decide +kernel
def qcX11_way : zQ := ((14, 16), ([(2, 1, 0)], ([(0, 0, 0), (4, 0, 1200), (12, 0, 7), (13, (-1), 1200)], [], [], []), ([(1, 42), (2, 30), (3, 44), (5, 34), (6, 33), (7, 56), (8, 57), (9, 33), (10, 56), (11, 57)], [(1, 11, 0, (2, 2, 0)), (2, 8, 0, (2, 3, 0)), (2, 8, 1, (0, 4, 0)), (1, 11, 1, (2, 5, 0)), (5, 6, 0, (2, 2, 0)), (1, 11, 6, (2, 6, 0)), (6, 10, 4, (2, 7, 0)), (6, 10, 5, (2, 8, 0)), (1, 11, 5, (2, 9, 0)), (9, 10, 4, (2, 10, 0)), (9, 10, 5, (2, 11, 0)), (5, 6, 1, (0, 12, 0)), (5, 6, 2, (0, 13, 0))], [], [], [], [(0, []), (100, []), (109, [])])), [(some (0, 0, (-1)), ([(0, 0, 0), (14, 1, 6), (15, 0, 1200)], [(14, 4, 2)], [], []), ([], [(1, 11, 0, (2, 2, 0)), (2, 8, 1, (0, 0, 0)), (1, 11, 5, (2, 9, 0)), (9, 10, 4, (2, 10, 0)), (9, 10, 5, (2, 11, 0)), (1, 11, 6, (2, 6, 0)), (6, 10, 4, (2, 7, 0)), (6, 10, 5, (2, 8, 0)), (1, 11, 1, (2, 5, 0)), (5, 6, 1, (0, 14, 0)), (5, 6, 2, (0, 15, 0))], [], [], [], [(378, [(2, 3, 0), (0, 4, 0), (0, 0, (-1))]), (373, [(2, 3, 0), (0, 4, 0), (0, 14, 0), (0, 15, 0)]), (100, []), (109, [])])), (some (0, 14, 0), ([(0, 0, 0), (14, 0, 30), (15, 0, 30)], [(15, 14, 0), (14, 15, 0)], [], []), ([], [(1, 11, 0, (2, 2, 0)), (2, 8, 1, (0, 0, 0)), (1, 11, 5, (2, 6, 0)), (6, 10, 4, (2, 7, 0)), (6, 10, 5, (2, 8, 0)), (1, 11, 6, (2, 9, 0)), (9, 10, 4, (2, 10, 0)), (9, 10, 5, (2, 11, 0)), (6, 10, 6, (0, 15, 0)), (1, 11, 1, (2, 5, 0)), (5, 6, 1, (0, 0, 0)), (5, 6, 2, (0, 0, (-1)))], [], [], [], [(378, [(2, 3, 0), (0, 4, 0), (0, 14, 0)]), (100, []), (109, [])]))], ([(30, 1), (30, 2), (30, 3), (30, 4), (30, 5), (30, 6), (30, 7), (33, 6), (34, 1), (34, 2), (34, 5), (34, 6), (42, 5), (42, 6), (42, 13)], [52, 53, 54, 55, 56, 57]), (0, 0))
def mcX11_way : zM := (yX11_way, cX11_way, 3, (some .int), { frames := 9, cells := 0, slots := 0, locals := 185 }, qcX11_way)
def hcX11_way : zH := ([], [], [(24, [(9, 731, 0)]), (56, [(9, 730, 0)])], [], ([], 0, 0), 1)
theorem jcX11_way : zk_txok RX11 hcX11_way.2.2.2.2.1 := zk_txb_ok (p := (0, 0)) (by decide +kernel)
def xcX11_way : List zX := [(143, 2, 6, mcX6_readWay_tk)]
theorem wcX11_way : zk_hwsb zcl RX11 mcX11_way.rm xcX11_way [(733, 77, 730, 731, 732)] = true := by decide +kernel
theorem icX11_way : zk_idb zcl RX11 11 false mcX11_way = true := by decide +kernel
theorem ecX11_way : zk_run zcl zft zTT zPF zPB zSUf zLX11 11 false mcX11_way ftX11_way hcX11_way zULf xcX11_way 31 = true := by decide +kernel
theorem gcX11_way {D : zD} {l : Launch} (hD : zWD D) : zCs D l xcX11_way := ⟨tcX6_readWay_tk hD, trivial⟩
theorem tcX11_way {D : zD} {l : Launch} (hD : zWD D) : zC D l mcX11_way := zk_methC ⟨rfl, rfl⟩ hD poolX11 icX11_way jcX11_way ftX11_way_ok (gcX11_way hD) wcX11_way ecX11_way
def ftX11_fault : List (Nat × List (Nat × Instr × Nat)) := [(28, [(0, .iload_n 1, 1), (1, .ifCond .ne 11, 3), (4, .aload_n 0, 1), (5, .getfield 21, 3), (8, .getfield 150, 3), (11, .ireturn, 1), (12, .iload_n 1, 1), (13, .iconst 1, 1), (14, .if_icmp .ne 13, 3), (17, .aload_n 0, 1), (18, .getfield 21, 3), (21, .getfield 153, 3), (24, .goto 4, 3), (27, .iconst (-1), 1)]), (29, [(28, .ireturn, 1)])]
theorem ftX11_fault_ok : zk_ftb cX11_fault ftX11_fault = true := by decide +kernel
def qcX11_fault : zQ := ((6, 6), ([(2, 1, 0), (0, 2, 0)], ([(0, 0, 0), (2, (-2147483648), 2147483647), (4, 0, 7), (5, (-1), 1200)], [], [], []), ([(1, 42), (3, 34)], [(1, 11, 1, (2, 3, 0)), (3, 6, 1, (0, 4, 0)), (3, 6, 2, (0, 5, 0))], [], [], [], [])), [(some (0, 4, 0), ([(0, 0, 0), (2, 0, 0)], [], [], []), ([], [], [], [], [], [])), (some (0, 5, 0), ([(0, 0, 0), (2, 1, 1)], [], [], []), ([], [], [], [], [], [])), (some (0, 0, (-1)), ([(0, 0, 0), (2, 2, 2147483647)], [], [], []), ([], [], [], [], [], [])), (some (0, 0, (-1)), ([(0, 0, 0), (2, (-2147483648), (-1))], [], [], []), ([], [], [], [], [], []))], ([], []), (0, 0))
def mcX11_fault : zM := (yX11_fault, cX11_fault, 2, (some .int), { frames := 1, cells := 0, slots := 0, locals := 12 }, qcX11_fault)
def hcX11_fault : zH := ([], [], [(0, [(0, 1, (-1)), (0, 1, 0), (0, 1, 1)])], [], ([], 0, 0), 1)
theorem jcX11_fault : zk_txok RX11 hcX11_fault.2.2.2.2.1 := zk_txb_ok (p := (0, 0)) (by decide +kernel)
def xcX11_fault : List zX := []
theorem wcX11_fault : zk_hwsb zcl RX11 mcX11_fault.rm xcX11_fault [] = true := by decide +kernel
theorem icX11_fault : zk_idb zcl RX11 11 false mcX11_fault = true := by decide +kernel
theorem ecX11_fault : zk_run zcl zft zTT zPF zPB zSUf zLX11 11 false mcX11_fault ftX11_fault hcX11_fault zULf xcX11_fault 12 = true := by decide +kernel
theorem gcX11_fault {D : zD} {l : Launch} (hD : zWD D) : zCs D l xcX11_fault := trivial
theorem tcX11_fault {D : zD} {l : Launch} (hD : zWD D) : zC D l mcX11_fault := zk_methC ⟨rfl, rfl⟩ hD poolX11 icX11_fault jcX11_fault ftX11_fault_ok (gcX11_fault hD) wcX11_fault ecX11_fault
def qcX11_letterAt : zQ := ((3, 4), ([(1, 1, 0), (0, 2, 0)], ([(0, 0, 0), (1, (-9223372036854775808), 9223372036854775807), (2, (-2147483648), 2147483647)], [], [], []), ([], [], [], [], [], [])), [(some (0, 3, 0), ([(0, 0, 0), (3, 0, 31)], [], [], []), ([], [], [], [], [], []))], ([], []), (0, 0))
def mcX11_letterAt : zM := (yX11_letterAt, cX11_letterAt, 3, (some .int), { frames := 1, cells := 0, slots := 0, locals := 12 }, qcX11_letterAt)
def hcX11_letterAt : zH := ([], [], [], [], ([], 0, 0), 1)
theorem jcX11_letterAt : zk_txok RX11 hcX11_letterAt.2.2.2.2.1 := zk_txb_ok (p := (0, 0)) (by decide +kernel)
def xcX11_letterAt : List zX := []
theorem wcX11_letterAt : zk_hwsb zcl RX11 mcX11_letterAt.rm xcX11_letterAt [] = true := by decide +kernel
theorem icX11_letterAt : zk_idb zcl RX11 11 false mcX11_letterAt = true := by decide +kernel
theorem ecX11_letterAt : zk_run zcl zft zTT zPF zPB zSUf zLX11 11 false mcX11_letterAt ftX11_letterAt hcX11_letterAt zULf xcX11_letterAt 9 = true := by decide +kernel
theorem gcX11_letterAt {D : zD} {l : Launch} (hD : zWD D) : zCs D l xcX11_letterAt := trivial
theorem tcX11_letterAt {D : zD} {l : Launch} (hD : zWD D) : zC D l mcX11_letterAt := zk_methC ⟨rfl, rfl⟩ hD poolX11 icX11_letterAt jcX11_letterAt ftX11_letterAt_ok (gcX11_letterAt hD) wcX11_letterAt ecX11_letterAt
def ftX11_lettersOf : List (Nat × List (Nat × Instr × Nat)) := [(27, [(0, .iconst 0, 1), (1, .istore_n 2, 1), (2, .bipush 45, 2), (4, .istore_n 3, 1), (5, .iload_n 3, 1), (6, .ifCond .lt 20, 3), (9, .lload_n 0, 1), (10, .iload_n 3, 1), (11, .invokestatic 172, 3), (14, .ifCond .eq 6, 3), (17, .iinc 2 1, 3), (20, .iinc 3 (-5), 3), (23, .goto (-18), 3), (26, .iload_n 2, 1)]), (28, [(27, .ireturn, 1)])]
theorem ftX11_lettersOf_ok : zk_ftb cX11_lettersOf ftX11_lettersOf = true := by decide +kernel
def qcX11_lettersOf : zQ := ((2, 3), ([(1, 1, 0)], ([(0, 0, 0), (1, (-9223372036854775808), 9223372036854775807)], [], [], []), ([], [], [], [], [], [])), [(some (0, 2, 0), ([(0, 0, 0), (2, (-2147483648), 2147483647)], [], [], []), ([], [], [], [], [], []))], ([], []), (0, 0))
def mcX11_lettersOf : zM := (yX11_lettersOf, cX11_lettersOf, 4, (some .int), { frames := 2, cells := 0, slots := 0, locals := 34 }, qcX11_lettersOf)
def hcX11_lettersOf : zH := ([(5, [([(0, (1, 1, 0)), (2, (0, 2, 0)), (3, (0, 3, 0))], [], ([(0, 0, 0), (3, (-5), 45), (1, (-9223372036854775808), 9223372036854775807)], [], [], []), ([], [], [], [], [], []), (4, ([(3, 1)], 5), 0, 0))])], [], [(27, [(3, 0, 0)])], [], ([], 0, 0), 51)
theorem jcX11_lettersOf : zk_txok RX11 hcX11_lettersOf.2.2.2.2.1 := zk_txb_ok (p := (0, 0)) (by decide +kernel)
def xcX11_lettersOf : List zX := [(172, 0, 0, mcX11_letterAt)]
theorem wcX11_lettersOf : zk_hwsb zcl RX11 mcX11_lettersOf.rm xcX11_lettersOf [(693, 75, 787, 692, 0)] = true := by decide +kernel
theorem icX11_lettersOf : zk_idb zcl RX11 11 false mcX11_lettersOf = true := by decide +kernel
theorem ecX11_lettersOf : zk_run zcl zft zTT zPF zPB zSUf zLX11 11 false mcX11_lettersOf ftX11_lettersOf hcX11_lettersOf zULf xcX11_lettersOf 11 = true := by decide +kernel
theorem gcX11_lettersOf {D : zD} {l : Launch} (hD : zWD D) : zCs D l xcX11_lettersOf := ⟨tcX11_letterAt hD, trivial⟩
theorem tcX11_lettersOf {D : zD} {l : Launch} (hD : zWD D) : zC D l mcX11_lettersOf := zk_methC ⟨rfl, rfl⟩ hD poolX11 icX11_lettersOf jcX11_lettersOf ftX11_lettersOf_ok (gcX11_lettersOf hD) wcX11_lettersOf ecX11_lettersOf
def qcX8_rewind : zQ := ((2, 2), ([(2, 1, 0)], ([(0, 0, 0)], [], [], []), ([(1, 30)], [], [], [], [], [])), [(none, ([(0, 0, 0)], [], [], []), ([], [], [], [], [], []))], ([(30, 2)], []), (0, 0))
def mcX8_rewind : zM := (yX8_rewind, cX8_rewind, 1, none, { frames := 1, cells := 0, slots := 0, locals := 12 }, qcX8_rewind)
def hcX8_rewind : zH := ([], [], [], [], ([], 0, 0), 1)
theorem jcX8_rewind : zk_txok RX8 hcX8_rewind.2.2.2.2.1 := zk_txb_ok (p := (0, 0)) (by decide +kernel)
def xcX8_rewind : List zX := []
theorem wcX8_rewind : zk_hwsb zcl RX8 mcX8_rewind.rm xcX8_rewind [] = true := by decide +kernel
theorem icX8_rewind : zk_idb zcl RX8 8 false mcX8_rewind = true := by decide +kernel
theorem ecX8_rewind : zk_run zcl zft zTT zPF zPB zSUf zLX8 8 false mcX8_rewind ftX8_rewind hcX8_rewind zULf xcX8_rewind 6 = true := by decide +kernel
theorem gcX8_rewind {D : zD} {l : Launch} (hD : zWD D) : zCs D l xcX8_rewind := trivial
theorem tcX8_rewind {D : zD} {l : Launch} (hD : zWD D) : zC D l mcX8_rewind := zk_methC ⟨rfl, rfl⟩ hD poolX8 icX8_rewind jcX8_rewind ftX8_rewind_ok (gcX8_rewind hD) wcX8_rewind ecX8_rewind
def qcX8_isBlank : zQ := ((2, 2), ([(0, 1, 0)], ([(0, 0, 0), (1, (-128), 127)], [], [], []), ([], [], [], [], [], [])), [(some (0, 0, 0), ([(0, 0, 0)], [], [], []), ([], [], [], [], [], [])), (some (0, 0, 1), ([(0, 0, 0), (1, 10, 32)], [], [], []), ([], [], [], [], [], []))], ([], []), (0, 0))
def mcX8_isBlank : zM := (yX8_isBlank, cX8_isBlank, 1, (some .boolean), { frames := 1, cells := 0, slots := 0, locals := 12 }, qcX8_isBlank)
def hcX8_isBlank : zH := ([], [], [], [], ([], 0, 0), 1)
theorem jcX8_isBlank : zk_txok RX8 hcX8_isBlank.2.2.2.2.1 := zk_txb_ok (p := (0, 0)) (by decide +kernel)
def xcX8_isBlank : List zX := []
theorem wcX8_isBlank : zk_hwsb zcl RX8 mcX8_isBlank.rm xcX8_isBlank [] = true := by decide +kernel
theorem icX8_isBlank : zk_idb zcl RX8 8 false mcX8_isBlank = true := by decide +kernel
theorem ecX8_isBlank : zk_run zcl zft zTT zPF zPB zSUf zLX8 8 false mcX8_isBlank ftX8_isBlank hcX8_isBlank zULf xcX8_isBlank 11 = true := by decide +kernel
theorem gcX8_isBlank {D : zD} {l : Launch} (hD : zWD D) : zCs D l xcX8_isBlank := trivial
theorem tcX8_isBlank {D : zD} {l : Launch} (hD : zWD D) : zC D l mcX8_isBlank := zk_methC ⟨rfl, rfl⟩ hD poolX8 icX8_isBlank jcX8_isBlank ftX8_isBlank_ok (gcX8_isBlank hD) wcX8_isBlank ecX8_isBlank
def qcX8_isDigit : zQ := ((2, 2), ([(0, 1, 0)], ([(0, 0, 0), (1, (-128), 127)], [], [], []), ([], [], [], [], [], [])), [(some (0, 0, 0), ([(0, 0, 0)], [], [], []), ([], [], [], [], [], [])), (some (0, 0, 1), ([(0, 0, 0), (1, 48, 57)], [], [], []), ([], [], [], [], [], []))], ([], []), (0, 0))
def mcX8_isDigit : zM := (yX8_isDigit, cX8_isDigit, 1, (some .boolean), { frames := 1, cells := 0, slots := 0, locals := 12 }, qcX8_isDigit)
def hcX8_isDigit : zH := ([], [], [], [], ([], 0, 0), 1)
theorem jcX8_isDigit : zk_txok RX8 hcX8_isDigit.2.2.2.2.1 := zk_txb_ok (p := (0, 0)) (by decide +kernel)
def xcX8_isDigit : List zX := []
theorem wcX8_isDigit : zk_hwsb zcl RX8 mcX8_isDigit.rm xcX8_isDigit [] = true := by decide +kernel
theorem icX8_isDigit : zk_idb zcl RX8 8 false mcX8_isDigit = true := by decide +kernel
theorem ecX8_isDigit : zk_run zcl zft zTT zPF zPB zSUf zLX8 8 false mcX8_isDigit ftX8_isDigit hcX8_isDigit zULf xcX8_isDigit 11 = true := by decide +kernel
theorem gcX8_isDigit {D : zD} {l : Launch} (hD : zWD D) : zCs D l xcX8_isDigit := trivial
theorem tcX8_isDigit {D : zD} {l : Launch} (hD : zWD D) : zC D l mcX8_isDigit := zk_methC ⟨rfl, rfl⟩ hD poolX8 icX8_isDigit jcX8_isDigit ftX8_isDigit_ok (gcX8_isDigit hD) wcX8_isDigit ecX8_isDigit
def qcX8_isSmall : zQ := ((2, 2), ([(0, 1, 0)], ([(0, 0, 0), (1, (-128), 127)], [], [], []), ([], [], [], [], [], [])), [(some (0, 0, 0), ([(0, 0, 0)], [], [], []), ([], [], [], [], [], [])), (some (0, 0, 1), ([(0, 0, 0), (1, 97, 122)], [], [], []), ([], [], [], [], [], []))], ([], []), (0, 0))
def mcX8_isSmall : zM := (yX8_isSmall, cX8_isSmall, 1, (some .boolean), { frames := 1, cells := 0, slots := 0, locals := 12 }, qcX8_isSmall)
def hcX8_isSmall : zH := ([], [], [], [], ([], 0, 0), 1)
theorem jcX8_isSmall : zk_txok RX8 hcX8_isSmall.2.2.2.2.1 := zk_txb_ok (p := (0, 0)) (by decide +kernel)
def xcX8_isSmall : List zX := []
theorem wcX8_isSmall : zk_hwsb zcl RX8 mcX8_isSmall.rm xcX8_isSmall [] = true := by decide +kernel
theorem icX8_isSmall : zk_idb zcl RX8 8 false mcX8_isSmall = true := by decide +kernel
theorem ecX8_isSmall : zk_run zcl zft zTT zPF zPB zSUf zLX8 8 false mcX8_isSmall ftX8_isSmall hcX8_isSmall zULf xcX8_isSmall 11 = true := by decide +kernel
theorem gcX8_isSmall {D : zD} {l : Launch} (hD : zWD D) : zCs D l xcX8_isSmall := trivial
theorem tcX8_isSmall {D : zD} {l : Launch} (hD : zWD D) : zC D l mcX8_isSmall := zk_methC ⟨rfl, rfl⟩ hD poolX8 icX8_isSmall jcX8_isSmall ftX8_isSmall_ok (gcX8_isSmall hD) wcX8_isSmall ecX8_isSmall
def qcX8_takeNumber : zQ := ((2, 2), ([(2, 1, 0)], ([(0, 0, 0)], [], [], []), ([(1, 30)], [(1, 8, 5, (0, 0, 0))], [], [], [], [])), [(none, ([(0, 0, 0)], [], [], []), ([], [], [], [], [], []))], ([(30, 2), (30, 3), (30, 5), (30, 7)], []), (0, 0))
def mcX8_takeNumber : zM := (yX8_takeNumber, cX8_takeNumber, 1, none, { frames := 2, cells := 0, slots := 0, locals := 32 }, qcX8_takeNumber)
def hcX8_takeNumber : zH := ([(0, [([(0, (2, 1, 0))], [], ([(0, 0, 0), (2, 1, 1200), (3, 1, 1200), (4, (-2147483648), 2147483647), (6, 1, 1200)], [(2, 6, 0), (3, 2, 0)], [], []), ([(5, 44), (1, 30)], [(1, 8, 2, (0, 2, 0)), (1, 8, 5, (0, 3, 0)), (1, 8, 7, (0, 4, 0)), (1, 8, 0, (2, 5, 0)), (1, 8, 1, (0, 6, 0))], [], [], [], []), (7, ([(2, (-1))], 1200), 0, 0))])], [], [(65, [(4, 0, 0)])], [], ([], 0, 0), 2401)
theorem jcX8_takeNumber : zk_txok RX8 hcX8_takeNumber.2.2.2.2.1 := zk_txb_ok (p := (0, 0)) (by decide +kernel)
def xcX8_takeNumber : List zX := [(48, 0, 0, mcX8_isDigit)]
theorem wcX8_takeNumber : zk_hwsb zcl RX8 mcX8_takeNumber.rm xcX8_takeNumber [(550, 76, 548, 549, 0)] = true := by decide +kernel
theorem icX8_takeNumber : zk_idb zcl RX8 8 false mcX8_takeNumber = true := by decide +kernel
theorem ecX8_takeNumber : zk_run zcl zft zTT zPF zPB zSUf zLX8 8 false mcX8_takeNumber ftX8_takeNumber hcX8_takeNumber zULf xcX8_takeNumber 45 = true := by decide +kernel
theorem gcX8_takeNumber {D : zD} {l : Launch} (hD : zWD D) : zCs D l xcX8_takeNumber := ⟨tcX8_isDigit hD, trivial⟩
theorem tcX8_takeNumber {D : zD} {l : Launch} (hD : zWD D) : zC D l mcX8_takeNumber := zk_methC ⟨rfl, rfl⟩ hD poolX8 icX8_takeNumber jcX8_takeNumber ftX8_takeNumber_ok (gcX8_takeNumber hD) wcX8_takeNumber ecX8_takeNumber
def qcX8_takeWord : zQ := ((2, 2), ([(2, 1, 0)], ([(0, 0, 0)], [], [], []), ([(1, 30)], [(1, 8, 5, (0, 0, 0))], [], [], [], [])), [(none, ([(0, 0, 0)], [], [], []), ([], [], [], [], [], []))], ([(30, 2), (30, 3), (30, 5), (30, 6)], []), (0, 0))
def mcX8_takeWord : zM := (yX8_takeWord, cX8_takeWord, 1, none, { frames := 2, cells := 0, slots := 0, locals := 32 }, qcX8_takeWord)
def hcX8_takeWord : zH := ([(0, [([(0, (2, 1, 0))], [], ([(0, 0, 0), (2, 1, 1200), (3, 1, 1200), (4, (-9223372036854775808), 9223372036854775807), (6, 1, 1200)], [(2, 6, 0), (3, 2, 0)], [], []), ([(5, 44), (1, 30)], [(1, 8, 2, (0, 2, 0)), (1, 8, 5, (0, 3, 0)), (1, 8, 6, (1, 4, 0)), (1, 8, 0, (2, 5, 0)), (1, 8, 1, (0, 6, 0))], [], [], [], []), (7, ([(2, (-1))], 1200), 0, 0))])], [], [(59, [(4, 0, 0)])], [], ([], 0, 0), 2401)
theorem jcX8_takeWord : zk_txok RX8 hcX8_takeWord.2.2.2.2.1 := zk_txb_ok (p := (0, 0)) (by decide +kernel)
def xcX8_takeWord : List zX := [(42, 0, 0, mcX8_isSmall)]
theorem wcX8_takeWord : zk_hwsb zcl RX8 mcX8_takeWord.rm xcX8_takeWord [(543, 76, 541, 542, 0)] = true := by decide +kernel
theorem icX8_takeWord : zk_idb zcl RX8 8 false mcX8_takeWord = true := by decide +kernel
theorem ecX8_takeWord : zk_run zcl zft zTT zPF zPB zSUf zLX8 8 false mcX8_takeWord ftX8_takeWord hcX8_takeWord zULf xcX8_takeWord 44 = true := by decide +kernel
theorem gcX8_takeWord {D : zD} {l : Launch} (hD : zWD D) : zCs D l xcX8_takeWord := ⟨tcX8_isSmall hD, trivial⟩
theorem tcX8_takeWord {D : zD} {l : Launch} (hD : zWD D) : zC D l mcX8_takeWord := zk_methC ⟨rfl, rfl⟩ hD poolX8 icX8_takeWord jcX8_takeWord ftX8_takeWord_ok (gcX8_takeWord hD) wcX8_takeWord ecX8_takeWord
def qcX8_step : zQ := ((2, 2), ([(2, 1, 0)], ([(0, 0, 0)], [], [], []), ([(1, 30)], [], [], [], [], [])), [(none, ([(0, 0, 0)], [], [], []), ([], [], [], [], [], []))], ([(30, 2), (30, 3), (30, 4), (30, 5), (30, 6), (30, 7)], []), (0, 0))
def mcX8_step : zM := (yX8_step, cX8_step, 1, none, { frames := 3, cells := 0, slots := 0, locals := 52 }, qcX8_step)
def hcX8_step : zH := ([(0, [([(0, (2, 1, 0))], [], ([(0, 0, 0), (2, 1, 1200), (4, 1, 1200)], [(2, 4, 0)], [], []), ([(3, 44), (1, 30)], [(1, 8, 2, (0, 2, 0)), (1, 8, 0, (2, 3, 0)), (1, 8, 1, (0, 4, 0))], [], [], [], []), (5, ([(2, (-1))], 1200), 0, 0))])], [], [], [], ([], 0, 0), 2401)
theorem jcX8_step : zk_txok RX8 hcX8_step.2.2.2.2.1 := zk_txb_ok (p := (0, 0)) (by decide +kernel)
def xcX8_step : List zX := [(22, 0, 0, mcX8_isBlank), (42, 0, 0, mcX8_isSmall), (45, 2, 8, mcX8_takeWord), (48, 0, 0, mcX8_isDigit), (51, 2, 8, mcX8_takeNumber)]
theorem wcX8_step : zk_hwsb zcl RX8 mcX8_step.rm xcX8_step [(540, 76, 538, 539, 0), (543, 76, 541, 542, 0), (547, 76, 544, 546, 1), (550, 76, 548, 549, 0), (554, 76, 551, 553, 2)] = true := by decide +kernel
theorem icX8_step : zk_idb zcl RX8 8 false mcX8_step = true := by decide +kernel
theorem ecX8_step : zk_run zcl zft zTT zPF zPB zSUf zLX8 8 false mcX8_step ftX8_step hcX8_step zULf xcX8_step 64 = true := by decide +kernel
theorem gcX8_step {D : zD} {l : Launch} (hD : zWD D) : zCs D l xcX8_step := ⟨tcX8_isBlank hD, tcX8_isSmall hD, tcX8_takeWord hD, tcX8_isDigit hD, tcX8_takeNumber hD, trivial⟩
theorem tcX8_step {D : zD} {l : Launch} (hD : zWD D) : zC D l mcX8_step := zk_methC ⟨rfl, rfl⟩ hD poolX8 icX8_step jcX8_step ftX8_step_ok (gcX8_step hD) wcX8_step ecX8_step
