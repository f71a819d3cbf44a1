/-! METHODS (printed by wip/t6) -/
def qcX11_bitsOf : zQ := ((4, 5), ([(0, 1, 0), (0, 2, 0), (0, 3, 0)], ([(0, 0, 0), (1, (-2147483648), 2147483647), (2, 1, 79), (3, 1, 6)], [], [], []), ([], [], [], [], [], [])), [(some (1, 4, 0), ([(0, 0, 0), (4, (-9223372036854775808), 9223372036854775807)], [], [], []), ([], [], [], [], [], []))], ([], []), (0, 0))
def mcX11_bitsOf : zM := (yX11_bitsOf, cX11_bitsOf, 6, (some .long), { frames := 1, cells := 0, slots := 0, locals := 12 }, qcX11_bitsOf)
def hcX11_bitsOf : zH := ([(5, [([(0, (0, 1, 0)), (1, (0, 2, 0)), (2, (0, 3, 0)), (3, (1, 4, 0)), (5, (0, 5, 0))], [], ([(0, 0, 0), (4, (-9223372036854775808), 9223372036854775807), (5, 0, 6), (1, (-2147483648), 2147483647), (2, 1, 79), (3, 1, 6)], [(5, 3, 0)], [], []), ([], [], [], [], [], []), (6, ([(5, (-1))], 6), 0, 0))])], [], [], [], ([], 0, 0), 13)
theorem jcX11_bitsOf : zk_txok RX11 hcX11_bitsOf.2.2.2.2.1 := zk_txb_ok (p := (0, 0)) (by decide +kernel)
def xcX11_bitsOf : List zX := []
theorem wcX11_bitsOf : zk_hwsb zcl RX11 mcX11_bitsOf.rm xcX11_bitsOf [] = true := by decide +kernel
theorem icX11_bitsOf : zk_idb zcl RX11 11 false mcX11_bitsOf = true := by decide +kernel
theorem ecX11_bitsOf : zk_run zcl zft zTT zPF zPB zSUf zLX11 11 false mcX11_bitsOf ftX11_bitsOf hcX11_bitsOf zULf xcX11_bitsOf 30 = true := by decide +kernel
theorem gcX11_bitsOf {D : zD} {l : Launch} (hD : zWD D) : zCs D l xcX11_bitsOf := trivial
theorem tcX11_bitsOf {D : zD} {l : Launch} (hD : zWD D) : zC D l mcX11_bitsOf := zk_methC ⟨rfl, rfl⟩ hD poolX11 icX11_bitsOf jcX11_bitsOf ftX11_bitsOf_ok (gcX11_bitsOf hD) wcX11_bitsOf ecX11_bitsOf
def qcX11_rowOf : zQ := ((5, 6), ([(2, 1, 0), (0, 2, 0), (0, 3, 0), (0, 4, 0)], ([(0, 0, 0), (2, 0, 40), (3, 1, 79), (4, 1, 6)], [], [], []), ([(1, 42)], [], [], [], [], [])), [(some (1, 5, 0), ([(0, 0, 0), (5, (-9223372036854775808), 9223372036854775807)], [], [], []), ([], [], [], [], [], []))], ([], []), (0, 0))
def mcX11_rowOf : zM := (yX11_rowOf, cX11_rowOf, 7, (some .long), { frames := 2, cells := 0, slots := 0, locals := 37 }, qcX11_rowOf)
def hcX11_rowOf : zH := ([(6, [([(0, (2, 1, 0)), (1, (0, 2, 0)), (2, (0, 3, 0)), (3, (0, 4, 0)), (4, (1, 5, 0)), (6, (0, 6, 0))], [], ([(0, 0, 0), (5, (-9223372036854775808), 9223372036854775807), (6, 0, 40), (2, 0, 40), (3, 1, 79), (4, 1, 6)], [(6, 2, 0)], [], []), ([(1, 42)], [], [], [], [], []), (7, ([(6, (-1))], 40), 0, 0))])], [], [], [], ([], 0, 0), 81)
theorem jcX11_rowOf : zk_txok RX11 hcX11_rowOf.2.2.2.2.1 := zk_txb_ok (p := (0, 0)) (by decide +kernel)
def xcX11_rowOf : List zX := [(353, 0, 0, mcX11_bitsOf)]
theorem wcX11_rowOf : zk_hwsb zcl RX11 mcX11_rowOf.rm xcX11_rowOf [(1056, 75, 1054, 1055, 0)] = true := by decide +kernel
theorem icX11_rowOf : zk_idb zcl RX11 11 false mcX11_rowOf = true := by decide +kernel
theorem ecX11_rowOf : zk_run zcl zft zTT zPF zPB zSUf zLX11 11 false mcX11_rowOf ftX11_rowOf hcX11_rowOf zULf xcX11_rowOf 17 = true := by decide +kernel
theorem gcX11_rowOf {D : zD} {l : Launch} (hD : zWD D) : zCs D l xcX11_rowOf := ⟨tcX11_bitsOf hD, trivial⟩
theorem tcX11_rowOf {D : zD} {l : Launch} (hD : zWD D) : zC D l mcX11_rowOf := zk_methC ⟨rfl, rfl⟩ hD poolX11 icX11_rowOf jcX11_rowOf ftX11_rowOf_ok (gcX11_rowOf hD) wcX11_rowOf ecX11_rowOf
def ftX11_seemingIn : List (Nat × List (Nat × Instr × Nat)) := [(25, [(0, .iconst 0, 1), (1, .istore 5, 2), (3, .iconst 1, 1), (4, .istore 6, 2), (6, .iload 6, 2), (8, .iload_n 3, 1), (9, .if_icmp .gt 55, 3), (12, .iload 6, 2), (14, .aload_n 0, 1), (15, .getfield 52, 3), (18, .if_icmp .ge 46, 3), (21, .iload 6, 2), (23, .iload_n 3, 1), (24, .iload 4, 2)]), (49, [(26, .invokestatic 353, 3), (29, .lload_n 1, 1), (30, .ldc2_w 356, 3), (33, .lxor, 1), (34, .land, 1), (35, .lconst 0, 1), (36, .lcmp, 1), (37, .ifCond .ne 21, 3), (40, .iload 5, 2), (42, .aload_n 0, 1), (43, .getfield 52, 3), (46, .iconst 1, 1), (47, .isub, 1), (48, .iload 6, 2)]), (67, [(50, .isub, 1), (51, .iload_n 3, 1), (52, .idiv, 1), (53, .iconst 1, 1), (54, .iadd, 1), (55, .iadd, 1), (56, .istore 5, 2), (58, .iinc 6 1, 3), (61, .goto (-55), 3), (64, .iload 5, 2), (66, .ireturn, 1)])]
theorem ftX11_seemingIn_ok : zk_ftb cX11_seemingIn ftX11_seemingIn = true := by decide +kernel
def qcX11_seemingIn : zQ := ((5, 6), ([(2, 1, 0), (1, 2, 0), (0, 3, 0), (0, 4, 0)], ([(0, 0, 0), (2, (-9223372036854775808), 9223372036854775807), (3, 1, 79), (4, 1, 6)], [], [], []), ([(1, 42)], [], [], [], [], [])), [(some (0, 5, 0), ([(0, 0, 0), (5, (-2147483648), 2147483647)], [], [], []), ([], [], [], [], [], []))], ([], []), (0, 0))
def mcX11_seemingIn : zM := (yX11_seemingIn, cX11_seemingIn, 7, (some .int), { frames := 2, cells := 0, slots := 0, locals := 37 }, qcX11_seemingIn)
def hcX11_seemingIn : zH := ([(6, [([(0, (2, 1, 0)), (1, (1, 2, 0)), (3, (0, 3, 0)), (4, (0, 4, 0)), (5, (0, 5, 0)), (6, (0, 6, 0))], [], ([(0, 0, 0), (5, (-2147483648), 2147483647), (6, 1, 80), (2, (-9223372036854775808), 9223372036854775807), (3, 1, 79), (4, 1, 6)], [(6, 3, 1)], [], []), ([(1, 42)], [], [], [], [], []), (7, ([(6, (-1))], 80), 0, 0))])], [], [], [], ([], 0, 0), 161)
theorem jcX11_seemingIn : zk_txok RX11 hcX11_seemingIn.2.2.2.2.1 := zk_txb_ok (p := (0, 0)) (by decide +kernel)
def xcX11_seemingIn : List zX := [(353, 0, 0, mcX11_bitsOf)]
theorem wcX11_seemingIn : zk_hwsb zcl RX11 mcX11_seemingIn.rm xcX11_seemingIn [(1056, 75, 1054, 1055, 0)] = true := by decide +kernel
theorem icX11_seemingIn : zk_idb zcl RX11 11 false mcX11_seemingIn = true := by decide +kernel
theorem ecX11_seemingIn : zk_run zcl zft zTT zPF zPB zSUf zLX11 11 false mcX11_seemingIn ftX11_seemingIn hcX11_seemingIn zULf xcX11_seemingIn 35 = true := by decide +kernel
theorem gcX11_seemingIn {D : zD} {l : Launch} (hD : zWD D) : zCs D l xcX11_seemingIn := ⟨tcX11_bitsOf hD, trivial⟩
theorem tcX11_seemingIn {D : zD} {l : Launch} (hD : zWD D) : zC D l mcX11_seemingIn := zk_methC ⟨rfl, rfl⟩ hD poolX11 icX11_seemingIn jcX11_seemingIn ftX11_seemingIn_ok (gcX11_seemingIn hD) wcX11_seemingIn ecX11_seemingIn
def ftX11_strangers : List (Nat × List (Nat × Instr × Nat)) := [(29, [(0, .iload_n 1, 1), (1, .invokestatic 123, 3), (4, .ifCond .eq 11, 3), (7, .iload_n 2, 1), (8, .iload_n 3, 1), (9, .invokestatic 274, 3), (12, .ifCond .ne 6, 3), (15, .bipush (-2), 2), (17, .ireturn, 1), (18, .aload_n 0, 1), (19, .getfield 52, 3), (22, .sipush 3000, 3), (25, .if_icmp .le 6, 3), (28, .bipush (-4), 2)]), (50, [(30, .ireturn, 1), (31, .aload_n 0, 1), (32, .iload_n 1, 1), (33, .invokevirtual 279, 3), (36, .istore 4, 2), (38, .aload_n 0, 1), (39, .aload_n 0, 1), (40, .iload 4, 2), (42, .iload_n 2, 1), (43, .iload_n 3, 1), (44, .invokevirtual 282, 3), (47, .iload_n 2, 1), (48, .iload_n 3, 1), (49, .invokevirtual 286, 3)]), (60, [(52, .aload_n 0, 1), (53, .iload 4, 2), (55, .invokevirtual 290, 3), (58, .isub, 1), (59, .ireturn, 1)])]
theorem ftX11_strangers_ok : zk_ftb cX11_strangers ftX11_strangers = true := by decide +kernel
def qcX11_strangers : zQ := ((5, 6), ([(2, 1, 0), (0, 2, 0), (0, 3, 0), (0, 4, 0)], ([(0, 0, 0), (2, (-2147483648), 2147483647), (3, (-2147483648), 2147483647), (4, (-2147483648), 2147483647)], [], [], []), ([(1, 42)], [], [], [], [], [])), [(some (0, 0, (-2)), ([(0, 0, 0)], [], [], []), ([], [], [], [], [], [])), (some (0, 0, (-4)), ([(0, 0, 0), (2, 0, 1), (3, 1, 62), (4, 1, 6)], [], [], []), ([], [], [], [], [], [])), (some (0, 5, 0), ([(0, 0, 0), (5, (-2147483648), 2147483647), (2, 0, 1), (3, 1, 62), (4, 1, 6)], [], [], []), ([], [], [], [], [], []))], ([], [71]), (0, 0))
def mcX11_strangers : zM := (yX11_strangers, cX11_strangers, 5, (some .int), { frames := 4, cells := 0, slots := 0, locals := 84 }, qcX11_strangers)
def hcX11_strangers : zH := ([], [], [], [], ([], 0, 0), 1)
theorem jcX11_strangers : zk_txok RX11 hcX11_strangers.2.2.2.2.1 := zk_txb_ok (p := (0, 0)) (by decide +kernel)
def xcX11_strangers : List zX := [(123, 0, 0, mcX11_isSide), (274, 0, 0, mcX11_isRow), (279, 2, 11, mcX11_numbersOf), (282, 2, 11, mcX11_rowOf), (286, 2, 11, mcX11_seemingIn), (290, 2, 11, mcX11_differentNumbers)]
theorem wcX11_strangers : zk_hwsb zcl RX11 mcX11_strangers.rm xcX11_strangers [(673, 75, 671, 672, 0), (1044, 75, 1042, 1043, 0), (1049, 75, 1046, 1048, 30), (1053, 75, 1050, 1052, 31), (1064, 75, 1061, 1063, 32), (1069, 75, 1066, 1068, 33)] = true := by decide +kernel
theorem icX11_strangers : zk_idb zcl RX11 11 false mcX11_strangers = true := by decide +kernel
theorem ecX11_strangers : zk_run zcl zft zTT zPF zPB zSUf zLX11 11 false mcX11_strangers ftX11_strangers hcX11_strangers zULf xcX11_strangers 31 = true := by decide +kernel
theorem gcX11_strangers {D : zD} {l : Launch} (hD : zWD D) : zCs D l xcX11_strangers := ⟨tcX11_isSide hD, tcX11_isRow hD, tcX11_numbersOf hD, tcX11_rowOf hD, tcX11_seemingIn hD, tcX11_differentNumbers hD, trivial⟩
theorem tcX11_strangers {D : zD} {l : Launch} (hD : zWD D) : zC D l mcX11_strangers := zk_methC ⟨rfl, rfl⟩ hD poolX11 icX11_strangers jcX11_strangers ftX11_strangers_ok (gcX11_strangers hD) wcX11_strangers ecX11_strangers
def ftX11_cheapest : List (Nat × List (Nat × Instr × Nat)) := [(28, [(0, .iload_n 1, 1), (1, .invokestatic 123, 3), (4, .ifCond .eq 7, 3), (7, .iload_n 2, 1), (8, .ifCond .ge 6, 3), (11, .bipush (-2), 2), (13, .ireturn, 1), (14, .aload_n 0, 1), (15, .getfield 52, 3), (18, .sipush 3000, 3), (21, .if_icmp .le 6, 3), (24, .bipush (-4), 2), (26, .ireturn, 1), (27, .aload_n 0, 1)]), (52, [(28, .iload_n 1, 1), (29, .invokevirtual 279, 3), (32, .istore_n 3, 1), (33, .aload_n 0, 1), (34, .iload_n 3, 1), (35, .invokevirtual 290, 3), (38, .istore 4, 2), (40, .iconst 1, 1), (41, .istore 5, 2), (43, .iload 5, 2), (45, .bipush 62, 2), (47, .if_icmp .gt 58, 3), (50, .iconst 1, 1), (51, .istore 6, 2)]), (80, [(53, .iload 6, 2), (55, .bipush 6, 2), (57, .if_icmp .gt 42, 3), (60, .aload_n 0, 1), (61, .aload_n 0, 1), (62, .iload_n 3, 1), (63, .iload 5, 2), (65, .iload 6, 2), (67, .invokevirtual 282, 3), (70, .iload 5, 2), (72, .iload 6, 2), (74, .invokevirtual 286, 3), (77, .iload 4, 2), (79, .isub, 1)]), (107, [(80, .iload_n 2, 1), (81, .if_icmp .gt 12, 3), (84, .bipush 10, 2), (86, .iload 5, 2), (88, .imul, 1), (89, .iload 6, 2), (91, .iadd, 1), (92, .ireturn, 1), (93, .iinc 6 1, 3), (96, .goto (-43), 3), (99, .iinc 5 1, 3), (102, .goto (-59), 3), (105, .iconst (-1), 1), (106, .ireturn, 1)])]
theorem ftX11_cheapest_ok : zk_ftb cX11_cheapest ftX11_cheapest = true := by decide +kernel
def qcX11_cheapest : zQ := ((4, 5), ([(2, 1, 0), (0, 2, 0), (0, 3, 0)], ([(0, 0, 0), (2, (-2147483648), 2147483647), (3, (-2147483648), 2147483647)], [], [], []), ([(1, 42)], [], [], [], [], [])), [(some (0, 0, (-1)), ([(0, 0, 0), (2, 0, 1), (3, 0, 2147483647)], [], [], []), ([], [], [], [], [], [])), (some (0, 0, (-2)), ([(0, 0, 0)], [], [], []), ([], [], [], [], [], [])), (some (0, 0, (-4)), ([(0, 0, 0), (2, 0, 1), (3, 0, 2147483647)], [], [], []), ([], [], [], [], [], [])), (some (0, 4, 0), ([(0, 0, 0), (4, 11, 796), (2, 0, 1), (3, 0, 2147483647)], [], [], []), ([], [], [], [], [], []))], ([], [71]), (0, 0))
def mcX11_cheapest : zM := (yX11_cheapest, cX11_cheapest, 7, (some .int), { frames := 4, cells := 0, slots := 0, locals := 84 }, qcX11_cheapest)
def hcX11_cheapest : zH := ([(43, [([(0, (2, 1, 0)), (2, (0, 3, 0)), (3, (0, 4, 0)), (4, (0, 5, 0)), (5, (0, 6, 0))], [], ([(0, 0, 0), (4, 0, 40), (5, (-2147483648), 2147483647), (6, 1, 80), (7, 5, 3000), (2, 0, 1), (3, 0, 2147483647)], [], [], []), ([(1, 42)], [(1, 11, 7, (0, 7, 0))], [], [], [], []), (8, ([(6, (-14))], 1127), 0, 0))]), (53, [([(0, (2, 1, 0)), (2, (0, 3, 0)), (3, (0, 4, 0)), (4, (0, 5, 0)), (5, (0, 6, 0)), (6, (0, 7, 0))], [], ([(0, 0, 0), (4, 0, 40), (5, (-2147483648), 2147483647), (6, 1, 79), (7, 1, 7), (8, 5, 3000), (2, 0, 1), (3, 0, 2147483647)], [], [], []), ([(1, 42)], [(1, 11, 7, (0, 8, 0))], [], [], [], []), (9, ([(6, (-14)), (7, (-1))], 1127), 0, 0))])], [], [], [], ([], 0, 0), 2248)
theorem jcX11_cheapest : zk_txok RX11 hcX11_cheapest.2.2.2.2.1 := zk_txb_ok (p := (0, 0)) (by decide +kernel)
def xcX11_cheapest : List zX := [(123, 0, 0, mcX11_isSide), (279, 2, 11, mcX11_numbersOf), (282, 2, 11, mcX11_rowOf), (286, 2, 11, mcX11_seemingIn), (290, 2, 11, mcX11_differentNumbers)]
theorem wcX11_cheapest : zk_hwsb zcl RX11 mcX11_cheapest.rm xcX11_cheapest [(673, 75, 671, 672, 0), (1049, 75, 1046, 1048, 30), (1053, 75, 1050, 1052, 31), (1064, 75, 1061, 1063, 32), (1069, 75, 1066, 1068, 33)] = true := by decide +kernel
theorem icX11_cheapest : zk_idb zcl RX11 11 false mcX11_cheapest = true := by decide +kernel
theorem ecX11_cheapest : zk_run zcl zft zTT zPF zPB zSUf zLX11 11 false mcX11_cheapest ftX11_cheapest hcX11_cheapest zULf xcX11_cheapest 24 = true := by decide +kernel
theorem gcX11_cheapest {D : zD} {l : Launch} (hD : zWD D) : zCs D l xcX11_cheapest := ⟨tcX11_isSide hD, tcX11_numbersOf hD, tcX11_rowOf hD, tcX11_seemingIn hD, tcX11_differentNumbers hD, trivial⟩
theorem tcX11_cheapest {D : zD} {l : Launch} (hD : zWD D) : zC D l mcX11_cheapest := zk_methC ⟨rfl, rfl⟩ hD poolX11 icX11_cheapest jcX11_cheapest ftX11_cheapest_ok (gcX11_cheapest hD) wcX11_cheapest ecX11_cheapest
def ftX11_near : List (Nat × List (Nat × Instr × Nat)) := [(18, [(0, .aload_n 0, 1), (1, .getfield 38, 3), (4, .iconst 0, 1), (5, .aaload, 1), (6, .astore_n 1, 1), (7, .aload_n 0, 1), (8, .getfield 38, 3), (11, .iconst 1, 1), (12, .aaload, 1), (13, .astore_n 2, 1), (14, .iconst 0, 1), (15, .istore_n 3, 1), (16, .iconst 0, 1), (17, .istore 4, 2)]), (47, [(19, .iload 4, 2), (21, .aload_n 1, 1), (22, .getfield 134, 3), (25, .if_icmp .ge 66, 3), (28, .iconst 0, 1), (29, .istore 5, 2), (31, .iload 5, 2), (33, .aload_n 2, 1), (34, .getfield 134, 3), (37, .if_icmp .ge 48, 3), (40, .aload_n 1, 1), (41, .getfield 185, 3), (44, .iload 4, 2), (46, .laload, 1)]), (72, [(47, .aload_n 2, 1), (48, .getfield 185, 3), (51, .iload 5, 2), (53, .laload, 1), (54, .lcmp, 1), (55, .ifCond .ne 24, 3), (58, .aload_n 1, 1), (59, .getfield 293, 3), (62, .iload 4, 2), (64, .laload, 1), (65, .aload_n 2, 1), (66, .getfield 293, 3), (69, .iload 5, 2), (71, .laload, 1)]), (93, [(72, .lcmp, 1), (73, .ifCond .eq 6, 3), (76, .iinc 3 1, 3), (79, .iinc 5 1, 3), (82, .goto (-51), 3), (85, .iinc 4 1, 3), (88, .goto (-69), 3), (91, .iload_n 3, 1), (92, .ireturn, 1)])]
theorem ftX11_near_ok : zk_ftb cX11_near ftX11_near = true := by decide +kernel
def qcX11_near : zQ := ((2, 3), ([(2, 1, 0)], ([(0, 0, 0)], [], [], []), ([(1, 42)], [], [], [], [], [])), [(some (0, 2, 0), ([(0, 0, 0), (2, (-2147483648), 2147483647)], [], [], []), ([], [], [], [], [], []))], ([], []), (0, 0))
def mcX11_near : zM := (yX11_near, cX11_near, 6, (some .int), { frames := 1, cells := 0, slots := 0, locals := 12 }, qcX11_near)
def hcX11_near : zH := ([(19, [([(1, (2, 2, 0)), (2, (2, 3, 0)), (3, (0, 4, 0)), (4, (0, 5, 0))], [], ([(0, 0, 0), (5, 0, 80)], [], [], []), ([(2, 31), (3, 31), (6, 68), (1, 42)], [(1, 11, 4, (2, 6, 0))], [], [], [], []), (7, ([(5, (-162))], 13041), 0, 0))]), (31, [([(1, (2, 2, 0)), (2, (2, 3, 0)), (3, (0, 4, 0)), (4, (0, 5, 0)), (5, (0, 6, 0))], [], ([(0, 0, 0), (5, 0, 79), (6, 0, 80), (7, 1, 80)], [(5, 7, (-1))], [], []), ([(2, 31), (3, 31), (8, 68), (1, 42)], [(2, 4, 5, (0, 7, 0)), (1, 11, 4, (2, 8, 0))], [], [], [], []), (9, ([(5, (-162)), (6, (-1))], 13040), 0, 0))])], [], [(92, [(3, 0, 0)])], [], ([], 0, 0), 26002)
theorem jcX11_near : zk_txok RX11 hcX11_near.2.2.2.2.1 := zk_txb_ok (p := (0, 0)) (by decide +kernel)
def xcX11_near : List zX := []
theorem wcX11_near : zk_hwsb zcl RX11 mcX11_near.rm xcX11_near [] = true := by decide +kernel
theorem icX11_near : zk_idb zcl RX11 11 false mcX11_near = true := by decide +kernel
theorem ecX11_near : zk_run zcl zft zTT zPF zPB zSUf zLX11 11 false mcX11_near ftX11_near hcX11_near zULf xcX11_near 29 = true := by decide +kernel
theorem gcX11_near {D : zD} {l : Launch} (hD : zWD D) : zCs D l xcX11_near := trivial
theorem tcX11_near {D : zD} {l : Launch} (hD : zWD D) : zC D l mcX11_near := zk_methC ⟨rfl, rfl⟩ hD poolX11 icX11_near jcX11_near ftX11_near_ok (gcX11_near hD) wcX11_near ecX11_near
def ftX11_countChange : List (Nat × List (Nat × Instr × Nat)) := [(20, [(0, .aload_n 0, 1), (1, .iload_n 1, 1), (2, .putfield 100, 3), (5, .aload_n 0, 1), (6, .dup, 1), (7, .getfield 97, 3), (10, .iconst 1, 1), (11, .iadd, 1), (12, .putfield 97, 3), (15, .aload_n 0, 1), (16, .getfield 97, 3), (19, .ireturn, 1)])]
theorem ftX11_countChange_ok : zk_ftb cX11_countChange ftX11_countChange = true := by decide +kernel
def qcX11_countChange : zQ := ((4, 4), ([(2, 1, 0), (0, 2, 0)], ([(0, 0, 0), (2, 0, 400), (3, 0, 39)], [], [], []), ([(1, 42)], [(1, 11, 14, (0, 3, 0))], [], [], [], [])), [(some (0, 3, 1), ([(0, 0, 0)], [], [], []), ([], [], [], [], [], []))], ([(42, 14), (42, 15)], []), (0, 0))
def mcX11_countChange : zM := (yX11_countChange, cX11_countChange, 2, (some .int), { frames := 1, cells := 0, slots := 0, locals := 12 }, qcX11_countChange)
def hcX11_countChange : zH := ([], [], [], [], ([], 0, 0), 1)
theorem jcX11_countChange : zk_txok RX11 hcX11_countChange.2.2.2.2.1 := zk_txb_ok (p := (0, 0)) (by decide +kernel)
def xcX11_countChange : List zX := []
theorem wcX11_countChange : zk_hwsb zcl RX11 mcX11_countChange.rm xcX11_countChange [] = true := by decide +kernel
theorem icX11_countChange : zk_idb zcl RX11 11 false mcX11_countChange = true := by decide +kernel
theorem ecX11_countChange : zk_run zcl zft zTT zPF zPB zSUf zLX11 11 false mcX11_countChange ftX11_countChange hcX11_countChange zULf xcX11_countChange 14 = true := by decide +kernel
theorem gcX11_countChange {D : zD} {l : Launch} (hD : zWD D) : zCs D l xcX11_countChange := trivial
theorem tcX11_countChange {D : zD} {l : Launch} (hD : zWD D) : zC D l mcX11_countChange := zk_methC ⟨rfl, rfl⟩ hD poolX11 icX11_countChange jcX11_countChange ftX11_countChange_ok (gcX11_countChange hD) wcX11_countChange ecX11_countChange
def ftX11_isNextDay : List (Nat × List (Nat × Instr × Nat)) := [(21, [(0, .iload_n 1, 1), (1, .aload_n 0, 1), (2, .getfield 100, 3), (5, .if_icmp .lt 14, 3), (8, .iload_n 1, 1), (9, .sipush 400, 3), (12, .if_icmp .gt 7, 3), (15, .iconst 1, 1), (16, .goto 4, 3), (19, .iconst 0, 1), (20, .ireturn, 1)])]
theorem ftX11_isNextDay_ok : zk_ftb cX11_isNextDay ftX11_isNextDay = true := by decide +kernel
def qcX11_isNextDay : zQ := ((3, 3), ([(2, 1, 0), (0, 2, 0)], ([(0, 0, 0), (2, (-2147483648), 2147483647)], [], [], []), ([(1, 42)], [], [], [], [], [])), [(some (0, 0, 0), ([(0, 0, 0)], [], [], []), ([], [], [], [], [], [])), (some (0, 0, 1), ([(0, 0, 0), (2, 0, 400)], [], [], []), ([], [], [], [], [], []))], ([], []), (0, 0))
def mcX11_isNextDay : zM := (yX11_isNextDay, cX11_isNextDay, 2, (some .boolean), { frames := 1, cells := 0, slots := 0, locals := 12 }, qcX11_isNextDay)
def hcX11_isNextDay : zH := ([], [], [], [], ([], 0, 0), 1)
theorem jcX11_isNextDay : zk_txok RX11 hcX11_isNextDay.2.2.2.2.1 := zk_txb_ok (p := (0, 0)) (by decide +kernel)
def xcX11_isNextDay : List zX := []
theorem wcX11_isNextDay : zk_hwsb zcl RX11 mcX11_isNextDay.rm xcX11_isNextDay [] = true := by decide +kernel
theorem icX11_isNextDay : zk_idb zcl RX11 11 false mcX11_isNextDay = true := by decide +kernel
theorem ecX11_isNextDay : zk_run zcl zft zTT zPF zPB zSUf zLX11 11 false mcX11_isNextDay ftX11_isNextDay hcX11_isNextDay zULf xcX11_isNextDay 12 = true := by decide +kernel
theorem gcX11_isNextDay {D : zD} {l : Launch} (hD : zWD D) : zCs D l xcX11_isNextDay := trivial
theorem tcX11_isNextDay {D : zD} {l : Launch} (hD : zWD D) : zC D l mcX11_isNextDay := zk_methC ⟨rfl, rfl⟩ hD poolX11 icX11_isNextDay jcX11_isNextDay ftX11_isNextDay_ok (gcX11_isNextDay hD) wcX11_isNextDay ecX11_isNextDay
def qcX4_add_ta0 : zQ := ((14, 14), ([(2, 1, 0), (1, 2, 0), (1, 3, 0), (0, 4, 0), (0, 5, 0)], ([(0, 0, 0), (2, (-9223372036854775808), 9223372036854775807), (3, (-9223372036854775808), 9223372036854775807), (4, (-2147483648), 2147483647), (5, 0, 400), (6, 0, 40), (11, 0, 40), (13, 0, 40)], [], [], []), ([(1, 31), (7, 78), (8, 79), (9, 80), (10, 31), (12, 31)], [], [], [], [], [(109, []), (460, [(2, 1, 0), (0, 6, 0), (2, 7, 0), (2, 8, 0), (2, 9, 0)]), (461, [(2, 10, 0), (0, 11, 0), (2, 7, 0), (2, 8, 0), (2, 9, 0)]), (462, [(2, 12, 0), (0, 13, 0), (2, 7, 0), (2, 8, 0), (2, 9, 0)]), (470, [(2, 1, 0), (0, 6, 0)]), (471, [(2, 10, 0), (0, 11, 0)]), (472, [(2, 12, 0), (0, 13, 0)]), (459, [(2, 10, 0), (2, 1, 0)]), (459, [(2, 12, 0), (2, 1, 0)])])), [(none, ([(0, 0, 0)], [], [], []), ([], [], [], [], [], [(460, [(2, 1, 0), (0, 6, 0), (2, 7, 0), (2, 8, 0), (2, 9, 0)]), (461, [(2, 10, 0), (0, 11, 0), (2, 7, 0), (2, 8, 0), (2, 9, 0)]), (462, [(2, 12, 0), (0, 13, 0), (2, 7, 0), (2, 8, 0), (2, 9, 0)]), (470, [(2, 1, 0), (0, 6, 0)]), (471, [(2, 10, 0), (0, 11, 0)]), (472, [(2, 12, 0), (0, 13, 0)]), (109, [])]))], ([(31, 6)], [47, 48, 49, 50, 51]), (0, 0))
def mcX4_add_ta0 : zM := (yX4_add, cX4_add, 7, none, { frames := 1, cells := 0, slots := 0, locals := 12 }, qcX4_add_ta0)
def hcX4_add_ta0 : zH := ([], [], [(9, [(9, 359, 0)])], [], ([], 0, 0), 1)
theorem jcX4_add_ta0 : zk_txok RX4 hcX4_add_ta0.2.2.2.2.1 := zk_txb_ok (p := (0, 0)) (by decide +kernel)
def xcX4_add_ta0 : List zX := []
theorem wcX4_add_ta0 : zk_hwsb zcl RX4 mcX4_add_ta0.rm xcX4_add_ta0 [] = true := by decide +kernel
theorem icX4_add_ta0 : zk_idb zcl RX4 4 false mcX4_add_ta0 = true := by decide +kernel
theorem ecX4_add_ta0 : zk_run zcl zft zTT zPF zPB zSUf zLX4 4 false mcX4_add_ta0 ftX4_add hcX4_add_ta0 zULf xcX4_add_ta0 45 = true := by decide +kernel
theorem gcX4_add_ta0 {D : zD} {l : Launch} (hD : zWD D) : zCs D l xcX4_add_ta0 := trivial
theorem tcX4_add_ta0 {D : zD} {l : Launch} (hD : zWD D) : zC D l mcX4_add_ta0 := zk_methC ⟨rfl, rfl⟩ hD poolX4 icX4_add_ta0 jcX4_add_ta0 ftX4_add_ok (gcX4_add_ta0 hD) wcX4_add_ta0 ecX4_add_ta0
def qcX4_add_ta1 : zQ := ((14, 14), ([(2, 1, 0), (1, 2, 0), (1, 3, 0), (0, 4, 0), (0, 5, 0)], ([(0, 0, 0), (2, (-9223372036854775808), 9223372036854775807), (3, (-9223372036854775808), 9223372036854775807), (4, (-2147483648), 2147483647), (5, 0, 400), (7, 0, 40), (11, 0, 40), (13, 0, 40)], [], [], []), ([(1, 31), (6, 31), (8, 78), (9, 79), (10, 80), (12, 31)], [], [], [], [], [(109, []), (460, [(2, 6, 0), (0, 7, 0), (2, 8, 0), (2, 9, 0), (2, 10, 0)]), (461, [(2, 1, 0), (0, 11, 0), (2, 8, 0), (2, 9, 0), (2, 10, 0)]), (462, [(2, 12, 0), (0, 13, 0), (2, 8, 0), (2, 9, 0), (2, 10, 0)]), (470, [(2, 6, 0), (0, 7, 0)]), (471, [(2, 1, 0), (0, 11, 0)]), (472, [(2, 12, 0), (0, 13, 0)]), (459, [(2, 6, 0), (2, 1, 0)]), (459, [(2, 12, 0), (2, 1, 0)])])), [(none, ([(0, 0, 0)], [], [], []), ([], [], [], [], [], [(460, [(2, 6, 0), (0, 7, 0), (2, 8, 0), (2, 9, 0), (2, 10, 0)]), (461, [(2, 1, 0), (0, 11, 0), (2, 8, 0), (2, 9, 0), (2, 10, 0)]), (462, [(2, 12, 0), (0, 13, 0), (2, 8, 0), (2, 9, 0), (2, 10, 0)]), (470, [(2, 6, 0), (0, 7, 0)]), (471, [(2, 1, 0), (0, 11, 0)]), (472, [(2, 12, 0), (0, 13, 0)]), (109, [])]))], ([(31, 6)], [47, 48, 49, 50, 51]), (0, 0))
def mcX4_add_ta1 : zM := (yX4_add, cX4_add, 7, none, { frames := 1, cells := 0, slots := 0, locals := 12 }, qcX4_add_ta1)
def hcX4_add_ta1 : zH := ([], [], [(9, [(9, 360, 0)])], [], ([], 0, 0), 1)
theorem jcX4_add_ta1 : zk_txok RX4 hcX4_add_ta1.2.2.2.2.1 := zk_txb_ok (p := (0, 0)) (by decide +kernel)
def xcX4_add_ta1 : List zX := []
theorem wcX4_add_ta1 : zk_hwsb zcl RX4 mcX4_add_ta1.rm xcX4_add_ta1 [] = true := by decide +kernel
theorem icX4_add_ta1 : zk_idb zcl RX4 4 false mcX4_add_ta1 = true := by decide +kernel
theorem ecX4_add_ta1 : zk_run zcl zft zTT zPF zPB zSUf zLX4 4 false mcX4_add_ta1 ftX4_add hcX4_add_ta1 zULf xcX4_add_ta1 45 = true := by decide +kernel
theorem gcX4_add_ta1 {D : zD} {l : Launch} (hD : zWD D) : zCs D l xcX4_add_ta1 := trivial
theorem tcX4_add_ta1 {D : zD} {l : Launch} (hD : zWD D) : zC D l mcX4_add_ta1 := zk_methC ⟨rfl, rfl⟩ hD poolX4 icX4_add_ta1 jcX4_add_ta1 ftX4_add_ok (gcX4_add_ta1 hD) wcX4_add_ta1 ecX4_add_ta1
def qcX4_isOn : zQ := ((4, 4), ([(2, 1, 0), (0, 2, 0), (0, 3, 0)], ([(0, 0, 0), (2, 0, 79), (3, 0, 400)], [], [], []), ([(1, 31)], [], [], [], [], [])), [(some (0, 0, 0), ([(0, 0, 0)], [], [], []), ([], [], [], [], [], [])), (some (0, 0, 1), ([(0, 0, 0)], [], [], []), ([], [], [], [], [], []))], ([], []), (0, 0))
def mcX4_isOn : zM := (yX4_isOn, cX4_isOn, 3, (some .boolean), { frames := 1, cells := 0, slots := 0, locals := 12 }, qcX4_isOn)
def hcX4_isOn : zH := ([], [], [], [], ([], 0, 0), 1)
theorem jcX4_isOn : zk_txok RX4 hcX4_isOn.2.2.2.2.1 := zk_txb_ok (p := (0, 0)) (by decide +kernel)
def xcX4_isOn : List zX := []
theorem wcX4_isOn : zk_hwsb zcl RX4 mcX4_isOn.rm xcX4_isOn [] = true := by decide +kernel
theorem icX4_isOn : zk_idb zcl RX4 4 false mcX4_isOn = true := by decide +kernel
theorem ecX4_isOn : zk_run zcl zft zTT zPF zPB zSUf zLX4 4 false mcX4_isOn ftX4_isOn hcX4_isOn zULf xcX4_isOn 17 = true := by decide +kernel
theorem gcX4_isOn {D : zD} {l : Launch} (hD : zWD D) : zCs D l xcX4_isOn := trivial
theorem tcX4_isOn {D : zD} {l : Launch} (hD : zWD D) : zC D l mcX4_isOn := zk_methC ⟨rfl, rfl⟩ hD poolX4 icX4_isOn jcX4_isOn ftX4_isOn_ok (gcX4_isOn hD) wcX4_isOn ecX4_isOn
def qcX4_find : zQ := ((4, 5), ([(2, 1, 0), (1, 2, 0), (0, 3, 0)], ([(0, 0, 0), (2, (-9223372036854775808), 9223372036854775807), (3, 0, 400)], [], [], []), ([(1, 31)], [], [], [], [], [])), [(some (0, 0, (-1)), ([(0, 0, 0)], [], [], []), ([], [], [], [], [], [])), (some (0, 4, 0), ([(0, 0, 0), (4, 0, 79)], [], [], []), ([], [], [], [], [], []))], ([], []), (0, 0))
def mcX4_find : zM := (yX4_find, cX4_find, 5, (some .int), { frames := 2, cells := 0, slots := 0, locals := 34 }, qcX4_find)
def hcX4_find : zH := ([(3, [([(0, (2, 1, 0)), (1, (1, 2, 0)), (3, (0, 3, 0)), (4, (0, 4, 0))], [], ([(0, 0, 0), (4, 0, 80), (2, (-9223372036854775808), 9223372036854775807), (3, 0, 400)], [], [], []), ([(1, 31)], [], [], [], [], []), (5, ([(4, (-1))], 80), 0, 0))])], [], [], [], ([], 0, 0), 161)
theorem jcX4_find : zk_txok RX4 hcX4_find.2.2.2.2.1 := zk_txb_ok (p := (0, 0)) (by decide +kernel)
def xcX4_find : List zX := [(39, 2, 4, mcX4_isOn)]
theorem wcX4_find : zk_hwsb zcl RX4 mcX4_find.rm xcX4_find [(701, 79, 698, 699, 700)] = true := by decide +kernel
theorem icX4_find : zk_idb zcl RX4 4 false mcX4_find = true := by decide +kernel
theorem ecX4_find : zk_run zcl zft zTT zPF zPB zSUf zLX4 4 false mcX4_find ftX4_find hcX4_find zULf xcX4_find 20 = true := by decide +kernel
theorem gcX4_find {D : zD} {l : Launch} (hD : zWD D) : zCs D l xcX4_find := ⟨tcX4_isOn hD, trivial⟩
theorem tcX4_find {D : zD} {l : Launch} (hD : zWD D) : zC D l mcX4_find := zk_methC ⟨rfl, rfl⟩ hD poolX4 icX4_find jcX4_find ftX4_find_ok (gcX4_find hD) wcX4_find ecX4_find
def ftX4_sizeAt : List (Nat × List (Nat × Instr × Nat)) := [(22, [(0, .iconst 0, 1), (1, .istore_n 2, 1), (2, .iconst 0, 1), (3, .istore_n 3, 1), (4, .iload_n 3, 1), (5, .aload_n 0, 1), (6, .getfield 32, 3), (9, .if_icmp .ge 21, 3), (12, .aload_n 0, 1), (13, .iload_n 3, 1), (14, .iload_n 1, 1), (15, .invokevirtual 39, 3), (18, .ifCond .eq 6, 3), (21, .iinc 2 1, 3)]), (32, [(24, .iinc 3 1, 3), (27, .goto (-23), 3), (30, .iload_n 2, 1), (31, .ireturn, 1)])]
theorem ftX4_sizeAt_ok : zk_ftb cX4_sizeAt ftX4_sizeAt = true := by decide +kernel
def qcX4_sizeAt : zQ := ((3, 4), ([(2, 1, 0), (0, 2, 0)], ([(0, 0, 0), (2, 0, 400)], [], [], []), ([(1, 31)], [], [], [], [], [])), [(some (0, 3, 0), ([(0, 0, 0), (3, (-2147483648), 2147483647)], [], [], []), ([], [], [], [], [], []))], ([], []), (0, 0))
def mcX4_sizeAt : zM := (yX4_sizeAt, cX4_sizeAt, 4, (some .int), { frames := 2, cells := 0, slots := 0, locals := 34 }, qcX4_sizeAt)
def hcX4_sizeAt : zH := ([(4, [([(0, (2, 1, 0)), (1, (0, 2, 0)), (2, (0, 3, 0)), (3, (0, 4, 0))], [], ([(0, 0, 0), (4, 0, 80), (2, 0, 400)], [], [], []), ([(1, 31)], [], [], [], [], []), (5, ([(4, (-1))], 80), 0, 0))])], [], [(31, [(3, 0, 0)])], [], ([], 0, 0), 161)
theorem jcX4_sizeAt : zk_txok RX4 hcX4_sizeAt.2.2.2.2.1 := zk_txb_ok (p := (0, 0)) (by decide +kernel)
def xcX4_sizeAt : List zX := [(39, 2, 4, mcX4_isOn)]
theorem wcX4_sizeAt : zk_hwsb zcl RX4 mcX4_sizeAt.rm xcX4_sizeAt [(701, 79, 698, 699, 700)] = true := by decide +kernel
theorem icX4_sizeAt : zk_idb zcl RX4 4 false mcX4_sizeAt = true := by decide +kernel
theorem ecX4_sizeAt : zk_run zcl zft zTT zPF zPB zSUf zLX4 4 false mcX4_sizeAt ftX4_sizeAt hcX4_sizeAt zULf xcX4_sizeAt 14 = true := by decide +kernel
theorem gcX4_sizeAt {D : zD} {l : Launch} (hD : zWD D) : zCs D l xcX4_sizeAt := ⟨tcX4_isOn hD, trivial⟩
theorem tcX4_sizeAt {D : zD} {l : Launch} (hD : zWD D) : zC D l mcX4_sizeAt := zk_methC ⟨rfl, rfl⟩ hD poolX4 icX4_sizeAt jcX4_sizeAt ftX4_sizeAt_ok (gcX4_sizeAt hD) wcX4_sizeAt ecX4_sizeAt
def qcX8_rewind : zQ := ((2, 2), ([(2, 1, 0)], ([(0, 0, 0)], [], [], []), ([(1, 30)], [], [], [], [], [])), [(none, ([(0, 0, 0)], [], [], []), ([], [], [], [], [], []))], ([(30, 2)], []), (0, 0))
def mcX8_rewind : zM := (yX8_rewind, cX8_rewind, 1, none, { frames := 1, cells := 0, slots := 0, locals := 12 }, qcX8_rewind)
def hcX8_rewind : zH := ([], [], [], [], ([], 0, 0), 1)
theorem jcX8_rewind : zk_txok RX8 hcX8_rewind.2.2.2.2.1 := zk_txb_ok (p := (0, 0)) (by decide +kernel)
def xcX8_rewind : List zX := []
theorem wcX8_rewind : zk_hwsb zcl RX8 mcX8_rewind.rm xcX8_rewind [] = true := by decide +kernel
theorem icX8_rewind : zk_idb zcl RX8 8 false mcX8_rewind = true := by decide +kernel
theorem ecX8_rewind : zk_run zcl zft zTT zPF zPB zSUf zLX8 8 false mcX8_rewind ftX8_rewind hcX8_rewind zULf xcX8_rewind 6 = true := by decide +kernel
theorem gcX8_rewind {D : zD} {l : Launch} (hD : zWD D) : zCs D l xcX8_rewind := trivial
theorem tcX8_rewind {D : zD} {l : Launch} (hD : zWD D) : zC D l mcX8_rewind := zk_methC ⟨rfl, rfl⟩ hD poolX8 icX8_rewind jcX8_rewind ftX8_rewind_ok (gcX8_rewind hD) wcX8_rewind ecX8_rewind
def qcX8_isBlank : zQ := ((2, 2), ([(0, 1, 0)], ([(0, 0, 0), (1, (-128), 127)], [], [], []), ([], [], [], [], [], [])), [(some (0, 0, 0), ([(0, 0, 0)], [], [], []), ([], [], [], [], [], [])), (some (0, 0, 1), ([(0, 0, 0), (1, 10, 32)], [], [], []), ([], [], [], [], [], []))], ([], []), (0, 0))
def mcX8_isBlank : zM := (yX8_isBlank, cX8_isBlank, 1, (some .boolean), { frames := 1, cells := 0, slots := 0, locals := 12 }, qcX8_isBlank)
def hcX8_isBlank : zH := ([], [], [], [], ([], 0, 0), 1)
theorem jcX8_isBlank : zk_txok RX8 hcX8_isBlank.2.2.2.2.1 := zk_txb_ok (p := (0, 0)) (by decide +kernel)
def xcX8_isBlank : List zX := []
theorem wcX8_isBlank : zk_hwsb zcl RX8 mcX8_isBlank.rm xcX8_isBlank [] = true := by decide +kernel
theorem icX8_isBlank : zk_idb zcl RX8 8 false mcX8_isBlank = true := by decide +kernel
theorem ecX8_isBlank : zk_run zcl zft zTT zPF zPB zSUf zLX8 8 false mcX8_isBlank ftX8_isBlank hcX8_isBlank zULf xcX8_isBlank 11 = true := by decide +kernel
theorem gcX8_isBlank {D : zD} {l : Launch} (hD : zWD D) : zCs D l xcX8_isBlank := trivial
theorem tcX8_isBlank {D : zD} {l : Launch} (hD : zWD D) : zC D l mcX8_isBlank := zk_methC ⟨rfl, rfl⟩ hD poolX8 icX8_isBlank jcX8_isBlank ftX8_isBlank_ok (gcX8_isBlank hD) wcX8_isBlank ecX8_isBlank
def qcX8_isDigit : zQ := ((2, 2), ([(0, 1, 0)], ([(0, 0, 0), (1, (-128), 127)], [], [], []), ([], [], [], [], [], [])), [(some (0, 0, 0), ([(0, 0, 0)], [], [], []), ([], [], [], [], [], [])), (some (0, 0, 1), ([(0, 0, 0), (1, 48, 57)], [], [], []), ([], [], [], [], [], []))], ([], []), (0, 0))
def mcX8_isDigit : zM := (yX8_isDigit, cX8_isDigit, 1, (some .boolean), { frames := 1, cells := 0, slots := 0, locals := 12 }, qcX8_isDigit)
def hcX8_isDigit : zH := ([], [], [], [], ([], 0, 0), 1)
theorem jcX8_isDigit : zk_txok RX8 hcX8_isDigit.2.2.2.2.1 := zk_txb_ok (p := (0, 0)) (by decide +kernel)
def xcX8_isDigit : List zX := []
theorem wcX8_isDigit : zk_hwsb zcl RX8 mcX8_isDigit.rm xcX8_isDigit [] = true := by decide +kernel
theorem icX8_isDigit : zk_idb zcl RX8 8 false mcX8_isDigit = true := by decide +kernel
theorem ecX8_isDigit : zk_run zcl zft zTT zPF zPB zSUf zLX8 8 false mcX8_isDigit ftX8_isDigit hcX8_isDigit zULf xcX8_isDigit 11 = true := by decide +kernel
theorem gcX8_isDigit {D : zD} {l : Launch} (hD : zWD D) : zCs D l xcX8_isDigit := trivial
theorem tcX8_isDigit {D : zD} {l : Launch} (hD : zWD D) : zC D l mcX8_isDigit := zk_methC ⟨rfl, rfl⟩ hD poolX8 icX8_isDigit jcX8_isDigit ftX8_isDigit_ok (gcX8_isDigit hD) wcX8_isDigit ecX8_isDigit
