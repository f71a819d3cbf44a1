/-! METHODS (printed by wip/t4) -/
def qcX8_says_30_3 : zQ := ((3, 3), ([(2, 1, 0), (2, 2, 0)], ([(0, 0, 0)], [], [], []), ([(1, 30), (2, 3)], [], [], [], [], [(0, [])])), [(some (0, 0, 0), ([(0, 0, 0)], [], [], []), ([], [], [], [], [], [])), (some (0, 0, 1), ([(0, 0, 0)], [], [], []), ([], [], [], [], [], []))], ([], []), (0, 0))
def mcX8_says_30_3 : zM := (yX8_says, cX8_says, 3, (some .boolean), { frames := 5, cells := 0, slots := 0, locals := 97 }, qcX8_says_30_3)
def hcX8_says_30_3 : zH := ([], [], [(57, [(4, 0, 0)])], [], ([], 54, 59), 1)
theorem jcX8_says_30_3 : zk_txok RX8 hcX8_says_30_3.2.2.2.2.1 := zk_txb_ok (p := (560, 570)) (by decide +kernel)
def xcX8_says_30_3 : List zX := []
theorem wcX8_says_30_3 : zk_hwsb zcl RX8 mcX8_says_30_3.rm xcX8_says_30_3 [] = true := by decide +kernel
theorem icX8_says_30_3 : zk_idb zcl RX8 8 false mcX8_says_30_3 = true := by decide +kernel
theorem ecX8_says_30_3 : zk_run zcl zft zTT zPF zPB zSUf zLX8 8 false mcX8_says_30_3 ftX8_says hcX8_says_30_3 zULf xcX8_says_30_3 112 = true := by decide +kernel
theorem gcX8_says_30_3 {D : zD} {l : Launch} (hD : zWD D) : zCs D l xcX8_says_30_3 := trivial
theorem tcX8_says_30_3 {D : zD} {l : Launch} (hD : zWD D) : zC D l mcX8_says_30_3 := zk_methC ⟨rfl, rfl⟩ hD poolX8 icX8_says_30_3 jcX8_says_30_3 ftX8_says_ok (gcX8_says_30_3 hD) wcX8_says_30_3 ecX8_says_30_3
def ftX6_readSpelling : List (Nat × List (Nat × Instr × Nat)) := [(26, [(0, .aload_n 0, 1), (1, .invokevirtual 43, 3), (4, .aload_n 1, 1), (5, .invokevirtual 46, 3), (8, .iconst 0, 1), (9, .istore_n 2, 1), (10, .iload_n 2, 1), (11, .sipush 1200, 3), (14, .if_icmp .gt 134, 3), (17, .aload_n 0, 1), (18, .getfield 9, 3), (21, .invokevirtual 30, 3), (24, .aload_n 0, 1), (25, .getfield 9, 3)]), (59, [(28, .getfield 33, 3), (31, .ifCond .ne 6, 3), (34, .goto 114, 3), (37, .aload_n 0, 1), (38, .getfield 9, 3), (41, .ldc 51, 2), (43, .invokevirtual 53, 3), (46, .ifCond .eq 12, 3), (49, .aload_n 0, 1), (50, .aload_n 1, 1), (51, .invokevirtual 57, 3), (54, .istore_n 3, 1), (55, .goto 71, 3), (58, .aload_n 0, 1)]), (89, [(59, .getfield 9, 3), (62, .ldc 61, 2), (64, .invokevirtual 53, 3), (67, .ifCond .eq 12, 3), (70, .aload_n 0, 1), (71, .aload_n 1, 1), (72, .invokevirtual 63, 3), (75, .istore_n 3, 1), (76, .goto 50, 3), (79, .aload_n 0, 1), (80, .getfield 9, 3), (83, .ldc 66, 2), (85, .invokevirtual 53, 3), (88, .ifCond .eq 12, 3)]), (118, [(91, .aload_n 0, 1), (92, .aload_n 1, 1), (93, .invokevirtual 68, 3), (96, .istore_n 3, 1), (97, .goto 29, 3), (100, .aload_n 0, 1), (101, .getfield 9, 3), (104, .ldc 71, 2), (106, .invokevirtual 53, 3), (109, .ifCond .eq 11, 3), (112, .aload_n 0, 1), (113, .aload_n 1, 1), (114, .invokevirtual 73, 3), (117, .goto 8, 3)]), (140, [(120, .aload_n 0, 1), (121, .iconst 1, 1), (122, .invokevirtual 36, 3), (125, .istore_n 3, 1), (126, .iload_n 3, 1), (127, .ifCond .ne 5, 3), (130, .iconst 0, 1), (131, .ireturn, 1), (132, .aload_n 1, 1), (133, .dup, 1), (134, .getfield 76, 3), (137, .iconst 1, 1), (138, .iadd, 1), (139, .putfield 76, 3)]), (150, [(142, .iinc 2 1, 3), (145, .goto (-135), 3), (148, .iconst 1, 1), (149, .ireturn, 1)])]
theorem ftX6_readSpelling_ok : zk_ftb cX6_readSpelling ftX6_readSpelling = true := by decide +kernel
def qcX6_readSpelling : zQ := ((3, 3), ([(2, 1, 0), (2, 2, 0)], ([(0, 0, 0)], [], [], []), ([(1, 34), (2, 32)], [], [], [], [], [(0, [])])), [(some (0, 0, 0), ([(0, 0, 0)], [], [], []), ([], [], [], [], [], [])), (some (0, 0, 1), ([(0, 0, 0)], [], [], []), ([], [], [], [], [], []))], ([(30, 2), (30, 3), (30, 4), (30, 5), (30, 6), (30, 7), (32, 2), (32, 3), (32, 4), (34, 1), (34, 2)], [45, 46]), (0, 0))
def mcX6_readSpelling : zM := (yX6_readSpelling, cX6_readSpelling, 4, (some .boolean), { frames := 6, cells := 0, slots := 0, locals := 119 }, qcX6_readSpelling)
def hcX6_readSpelling : zH := ([(10, [([(0, (2, 1, 0)), (1, (2, 2, 0)), (2, (0, 3, 0))], [], ([(0, 0, 0), (3, 0, 1201)], [], [], []), ([(1, 34), (2, 32)], [], [], [], [], [(0, [])]), (4, ([(3, (-1))], 1201), 0, 0))])], [], [(139, [(3, 0, 0)])], [], ([(51, 0), (61, 1), (66, 2), (71, 3)], 0, 0), 2403)
theorem jcX6_readSpelling : zk_txok RX6 hcX6_readSpelling.2.2.2.2.1 := zk_txb_ok (p := (0, 0)) (by decide +kernel)
def xcX6_readSpelling : List zX := [(30, 2, 8, mcX8_step), (36, 2, 6, mcX6_fail), (43, 2, 6, mcX6_begin), (46, 2, 7, mcX7_clear), (53, 2, 8, mcX8_says_30_0), (53, 2, 8, mcX8_says_30_1), (53, 2, 8, mcX8_says_30_2), (53, 2, 8, mcX8_says_30_3), (57, 2, 6, mcX6_readSame), (63, 2, 6, mcX6_readDrop), (68, 2, 6, mcX6_readDouble), (73, 2, 6, mcX6_readFirst)]
theorem wcX6_readSpelling : zk_hwsb zcl RX6 mcX6_readSpelling.rm xcX6_readSpelling [(537, 76, 534, 535, 536), (623, 77, 620, 622, 5), (528, 77, 525, 527, 0), (179, 78, 533, 177, 178), (559, 76, 556, 557, 558), (559, 76, 556, 557, 558), (559, 76, 556, 557, 558), (559, 76, 556, 557, 558), (611, 77, 608, 610, 3), (636, 77, 633, 635, 6), (641, 77, 638, 640, 7), (650, 77, 647, 649, 9)] = true := by decide +kernel
theorem icX6_readSpelling : zk_idb zcl RX6 6 false mcX6_readSpelling = true := by decide +kernel
theorem ecX6_readSpelling : zk_run zcl zft zTT zPF zPB zSUf zLX6 6 false mcX6_readSpelling ftX6_readSpelling hcX6_readSpelling zULf xcX6_readSpelling 47 = true := by decide +kernel
theorem gcX6_readSpelling {D : zD} {l : Launch} (hD : zWD D) : zCs D l xcX6_readSpelling := ⟨tcX8_step hD, tcX6_fail hD, tcX6_begin hD, tcX7_clear hD, tcX8_says_30_0 hD, tcX8_says_30_1 hD, tcX8_says_30_2 hD, tcX8_says_30_3 hD, tcX6_readSame hD, tcX6_readDrop hD, tcX6_readDouble hD, tcX6_readFirst hD, trivial⟩
theorem tcX6_readSpelling {D : zD} {l : Launch} (hD : zWD D) : zC D l mcX6_readSpelling := zk_methC ⟨rfl, rfl⟩ hD poolX6 icX6_readSpelling jcX6_readSpelling ftX6_readSpelling_ok (gcX6_readSpelling hD) wcX6_readSpelling ecX6_readSpelling
def ftX11_spelling : List (Nat × List (Nat × Instr × Nat)) := [(26, [(0, .aload_n 0, 1), (1, .getfield 21, 3), (4, .aload_n 0, 1), (5, .getfield 32, 3), (8, .invokevirtual 110, 3), (11, .istore_n 1, 1), (12, .aload_n 0, 1), (13, .getfield 12, 3), (16, .iconst 0, 1), (17, .putfield 103, 3), (20, .iload_n 1, 1), (21, .ifCond .ne 5, 3), (24, .iconst (-1), 1), (25, .ireturn, 1)]), (48, [(26, .aload_n 0, 1), (27, .getfield 28, 3), (30, .astore_n 2, 1), (31, .aload_n 0, 1), (32, .aload_n 0, 1), (33, .getfield 32, 3), (36, .putfield 28, 3), (39, .aload_n 0, 1), (40, .aload_n 2, 1), (41, .putfield 32, 3), (44, .iconst 0, 1), (45, .istore_n 3, 1), (46, .iload_n 3, 1), (47, .aload_n 0, 1)]), (76, [(48, .getfield 38, 3), (51, .arraylength, 1), (52, .if_icmp .ge 18, 3), (55, .aload_n 0, 1), (56, .getfield 38, 3), (59, .iload_n 3, 1), (60, .aaload, 1), (61, .invokevirtual 114, 3), (64, .iinc 3 1, 3), (67, .goto (-21), 3), (70, .aload_n 0, 1), (71, .invokevirtual 117, 3), (74, .aload_n 0, 1), (75, .iconst 0, 1)]), (87, [(76, .putfield 93, 3), (79, .aload_n 0, 1), (80, .getfield 28, 3), (83, .getfield 120, 3), (86, .ireturn, 1)])]
theorem ftX11_spelling_ok : zk_ftb cX11_spelling ftX11_spelling = true := by decide +kernel
def qcX11_spelling : zQ := ((4, 5), ([(2, 1, 0)], ([(0, 0, 0), (3, 0, 1200)], [], [], []), ([(1, 42), (2, 30)], [(1, 11, 0, (2, 2, 0)), (2, 8, 1, (0, 3, 0))], [], [], [], [(0, [])])), [(some (0, 0, (-1)), ([(0, 0, 0)], [], [], []), ([], [(1, 11, 0, (2, 2, 0)), (2, 8, 1, (0, 0, 0))], [], [], [], [])), (some (0, 4, 0), ([(0, 0, 0), (4, (-2147483648), 2147483647)], [], [], []), ([], [(1, 11, 0, (2, 2, 0)), (2, 8, 1, (0, 0, 0))], [], [], [], []))], ([(30, 1), (30, 2), (30, 3), (30, 4), (30, 5), (30, 6), (30, 7), (31, 5), (31, 6), (32, 2), (32, 3), (32, 4), (34, 1), (34, 2), (42, 2), (42, 3), (42, 13), (42, 14), (42, 15)], [45, 46, 51]), (0, 0))
def mcX11_spelling : zM := (yX11_spelling, cX11_spelling, 4, (some .int), { frames := 7, cells := 0, slots := 0, locals := 142 }, qcX11_spelling)
def hcX11_spelling : zH := ([(46, [([(0, (2, 1, 0)), (3, (0, 4, 0))], [], ([(0, 0, 0), (4, 0, 4), (3, 0, 1200)], [], [], []), ([(5, 32), (6, 32), (7, 34), (1, 42), (2, 30)], [(1, 11, 3, (2, 5, 0)), (1, 11, 2, (2, 6, 0)), (2, 8, 1, (0, 0, 0)), (1, 11, 1, (2, 7, 0)), (1, 11, 0, (2, 2, 0))], [], [], [], [(0, [])]), (8, ([(4, (-1))], 4), 0, 0))])], [], [], [], ([], 0, 0), 9)
theorem jcX11_spelling : zk_txok RX11 hcX11_spelling.2.2.2.2.1 := zk_txb_ok (p := (0, 0)) (by decide +kernel)
def xcX11_spelling : List zX := [(110, 2, 6, mcX6_readSpelling), (114, 2, 4, mcX4_clear), (117, 2, 11, mcX11_forgetChanges)]
theorem wcX11_spelling : zk_hwsb zcl RX11 mcX11_spelling.rm xcX11_spelling [(524, 77, 521, 522, 523), (658, 79, 655, 656, 657), (662, 75, 659, 661, 11)] = true := by decide +kernel
theorem icX11_spelling : zk_idb zcl RX11 11 false mcX11_spelling = true := by decide +kernel
theorem ecX11_spelling : zk_run zcl zft zTT zPF zPB zSUf zLX11 11 false mcX11_spelling ftX11_spelling hcX11_spelling zULf xcX11_spelling 26 = true := by decide +kernel
theorem gcX11_spelling {D : zD} {l : Launch} (hD : zWD D) : zCs D l xcX11_spelling := ⟨tcX6_readSpelling hD, tcX4_clear hD, tcX11_forgetChanges hD, trivial⟩
theorem tcX11_spelling {D : zD} {l : Launch} (hD : zWD D) : zC D l mcX11_spelling := zk_methC ⟨rfl, rfl⟩ hD poolX11 icX11_spelling jcX11_spelling ftX11_spelling_ok (gcX11_spelling hD) wcX11_spelling ecX11_spelling
def ftX11_isSide : List (Nat × List (Nat × Instr × Nat)) := [(15, [(0, .iload_n 0, 1), (1, .ifCond .eq 8, 3), (4, .iload_n 0, 1), (5, .iconst 1, 1), (6, .if_icmp .ne 7, 3), (9, .iconst 1, 1), (10, .goto 4, 3), (13, .iconst 0, 1), (14, .ireturn, 1)])]
theorem ftX11_isSide_ok : zk_ftb cX11_isSide ftX11_isSide = true := by decide +kernel
def qcX11_isSide : zQ := ((2, 2), ([(0, 1, 0)], ([(0, 0, 0), (1, (-2147483648), 2147483647)], [], [], []), ([], [], [], [], [], [])), [(some (0, 0, 0), ([(0, 0, 0)], [], [], []), ([], [], [], [], [], [])), (some (0, 0, 1), ([(0, 0, 0), (1, 0, 1)], [], [], []), ([], [], [], [], [], []))], ([], []), (0, 0))
def mcX11_isSide : zM := (yX11_isSide, cX11_isSide, 1, (some .boolean), { frames := 1, cells := 0, slots := 0, locals := 12 }, qcX11_isSide)
def hcX11_isSide : zH := ([], [], [], [], ([], 0, 0), 1)
theorem jcX11_isSide : zk_txok RX11 hcX11_isSide.2.2.2.2.1 := zk_txb_ok (p := (0, 0)) (by decide +kernel)
def xcX11_isSide : List zX := []
theorem wcX11_isSide : zk_hwsb zcl RX11 mcX11_isSide.rm xcX11_isSide [] = true := by decide +kernel
theorem icX11_isSide : zk_idb zcl RX11 11 false mcX11_isSide = true := by decide +kernel
theorem ecX11_isSide : zk_run zcl zft zTT zPF zPB zSUf zLX11 11 false mcX11_isSide ftX11_isSide hcX11_isSide zULf xcX11_isSide 10 = true := by decide +kernel
theorem gcX11_isSide {D : zD} {l : Launch} (hD : zWD D) : zCs D l xcX11_isSide := trivial
theorem tcX11_isSide {D : zD} {l : Launch} (hD : zWD D) : zC D l mcX11_isSide := zk_methC ⟨rfl, rfl⟩ hD poolX11 icX11_isSide jcX11_isSide ftX11_isSide_ok (gcX11_isSide hD) wcX11_isSide ecX11_isSide
def ftX11_takeSpare : List (Nat × List (Nat × Instr × Nat)) := [(20, [(0, .aload_n 0, 1), (1, .getfield 38, 3), (4, .iload_n 1, 1), (5, .aaload, 1), (6, .astore_n 2, 1), (7, .aload_n 0, 1), (8, .getfield 38, 3), (11, .iload_n 1, 1), (12, .aload_n 0, 1), (13, .getfield 38, 3), (16, .iconst 3, 1), (17, .aaload, 1), (18, .aastore, 1), (19, .aload_n 0, 1)]), (27, [(20, .getfield 38, 3), (23, .iconst 3, 1), (24, .aload_n 2, 1), (25, .aastore, 1), (26, .return_, 1)])]
theorem ftX11_takeSpare_ok : zk_ftb cX11_takeSpare ftX11_takeSpare = true := by decide +kernel
def qcX11_takeSpare : zQ := ((3, 3), ([(2, 1, 0), (0, 2, 0)], ([(0, 0, 0), (2, 0, 2)], [], [], []), ([(1, 42)], [], [], [], [], [])), [(none, ([(0, 0, 0)], [], [], []), ([], [], [], [], [], []))], ([], [68]), (0, 0))
def mcX11_takeSpare : zM := (yX11_takeSpare, cX11_takeSpare, 3, none, { frames := 1, cells := 0, slots := 0, locals := 12 }, qcX11_takeSpare)
def hcX11_takeSpare : zH := ([], [], [], [], ([], 0, 0), 1)
theorem jcX11_takeSpare : zk_txok RX11 hcX11_takeSpare.2.2.2.2.1 := zk_txb_ok (p := (0, 0)) (by decide +kernel)
def xcX11_takeSpare : List zX := []
theorem wcX11_takeSpare : zk_hwsb zcl RX11 mcX11_takeSpare.rm xcX11_takeSpare [] = true := by decide +kernel
theorem icX11_takeSpare : zk_idb zcl RX11 11 false mcX11_takeSpare = true := by decide +kernel
theorem ecX11_takeSpare : zk_run zcl zft zTT zPF zPB zSUf zLX11 11 false mcX11_takeSpare ftX11_takeSpare hcX11_takeSpare zULf xcX11_takeSpare 21 = true := by decide +kernel
theorem gcX11_takeSpare {D : zD} {l : Launch} (hD : zWD D) : zCs D l xcX11_takeSpare := trivial
theorem tcX11_takeSpare {D : zD} {l : Launch} (hD : zWD D) : zC D l mcX11_takeSpare := zk_methC ⟨rfl, rfl⟩ hD poolX11 icX11_takeSpare jcX11_takeSpare ftX11_takeSpare_ok (gcX11_takeSpare hD) wcX11_takeSpare ecX11_takeSpare
def ftX4_add : List (Nat × List (Nat × Instr × Nat)) := [(24, [(0, .aload_n 0, 1), (1, .getfield 32, 3), (4, .aload_n 0, 1), (5, .getfield 9, 3), (8, .arraylength, 1), (9, .if_icmp .lt 4, 3), (12, .return_, 1), (13, .aload_n 0, 1), (14, .getfield 9, 3), (17, .aload_n 0, 1), (18, .getfield 32, 3), (21, .lload_n 1, 1), (22, .lastore, 1), (23, .aload_n 0, 1)]), (49, [(24, .getfield 15, 3), (27, .aload_n 0, 1), (28, .getfield 32, 3), (31, .lload_n 3, 1), (32, .lastore, 1), (33, .aload_n 0, 1), (34, .getfield 18, 3), (37, .aload_n 0, 1), (38, .getfield 32, 3), (41, .iload 5, 2), (43, .iastore, 1), (44, .aload_n 0, 1), (45, .getfield 22, 3), (48, .aload_n 0, 1)]), (74, [(49, .getfield 32, 3), (52, .iload 6, 2), (54, .iastore, 1), (55, .aload_n 0, 1), (56, .getfield 25, 3), (59, .aload_n 0, 1), (60, .getfield 32, 3), (63, .sipush 401, 3), (66, .iastore, 1), (67, .aload_n 0, 1), (68, .dup, 1), (69, .getfield 32, 3), (72, .iconst 1, 1), (73, .iadd, 1)]), (78, [(74, .putfield 32, 3), (77, .return_, 1)])]
theorem ftX4_add_ok : zk_ftb cX4_add ftX4_add = true := by decide +kernel
def qcX4_add : zQ := ((6, 6), ([(2, 1, 0), (1, 2, 0), (1, 3, 0), (0, 4, 0), (0, 5, 0)], ([(0, 0, 0), (2, (-9223372036854775808), 9223372036854775807), (3, (-9223372036854775808), 9223372036854775807), (4, (-2147483648), 2147483647), (5, 0, 400)], [], [], []), ([(1, 31)], [], [], [], [], [])), [(none, ([(0, 0, 0)], [], [], []), ([], [], [], [], [], []))], ([(31, 6)], [47, 48, 49, 50, 51]), (0, 0))
def mcX4_add : zM := (yX4_add, cX4_add, 7, none, { frames := 1, cells := 0, slots := 0, locals := 12 }, qcX4_add)
def hcX4_add : zH := ([], [], [], [], ([], 0, 0), 1)
theorem jcX4_add : zk_txok RX4 hcX4_add.2.2.2.2.1 := zk_txb_ok (p := (0, 0)) (by decide +kernel)
def xcX4_add : List zX := []
theorem wcX4_add : zk_hwsb zcl RX4 mcX4_add.rm xcX4_add [] = true := by decide +kernel
theorem icX4_add : zk_idb zcl RX4 4 false mcX4_add = true := by decide +kernel
theorem ecX4_add : zk_run zcl zft zTT zPF zPB zSUf zLX4 4 false mcX4_add ftX4_add hcX4_add zULf xcX4_add 45 = true := by decide +kernel
theorem gcX4_add {D : zD} {l : Launch} (hD : zWD D) : zCs D l xcX4_add := trivial
theorem tcX4_add {D : zD} {l : Launch} (hD : zWD D) : zC D l mcX4_add := zk_methC ⟨rfl, rfl⟩ hD poolX4 icX4_add jcX4_add ftX4_add_ok (gcX4_add hD) wcX4_add ecX4_add
def ftX4_tell : List (Nat × List (Nat × Instr × Nat)) := [(18, [(0, .aload_n 0, 1), (1, .lload_n 1, 1), (2, .lload_n 3, 1), (3, .iload 5, 2), (5, .iconst 0, 1), (6, .invokevirtual 35, 3), (9, .aload_n 0, 1), (10, .aload_n 0, 1), (11, .getfield 32, 3), (14, .putfield 28, 3), (17, .return_, 1)])]
theorem ftX4_tell_ok : zk_ftb cX4_tell ftX4_tell = true := by decide +kernel
def qcX4_tell : zQ := ((5, 5), ([(2, 1, 0), (1, 2, 0), (1, 3, 0), (0, 4, 0)], ([(0, 0, 0), (2, (-9223372036854775808), 9223372036854775807), (3, (-9223372036854775808), 9223372036854775807), (4, 0, 9999)], [], [], []), ([(1, 31)], [], [], [], [], [])), [(none, ([(0, 0, 0)], [], [], []), ([], [], [], [], [], []))], ([(31, 5), (31, 6)], [47, 48, 49, 50, 51]), (0, 0))
def mcX4_tell : zM := (yX4_tell, cX4_tell, 6, none, { frames := 2, cells := 0, slots := 0, locals := 38 }, qcX4_tell)
def hcX4_tell : zH := ([], [], [], [], ([], 0, 0), 1)
theorem jcX4_tell : zk_txok RX4 hcX4_tell.2.2.2.2.1 := zk_txb_ok (p := (0, 0)) (by decide +kernel)
def xcX4_tell : List zX := [(35, 2, 4, mcX4_add)]
theorem wcX4_tell : zk_hwsb zcl RX4 mcX4_tell.rm xcX4_tell [(709, 79, 706, 707, 708)] = true := by decide +kernel
theorem icX4_tell : zk_idb zcl RX4 4 false mcX4_tell = true := by decide +kernel
theorem ecX4_tell : zk_run zcl zft zTT zPF zPB zSUf zLX4 4 false mcX4_tell ftX4_tell hcX4_tell zULf xcX4_tell 13 = true := by decide +kernel
theorem gcX4_tell {D : zD} {l : Launch} (hD : zWD D) : zCs D l xcX4_tell := ⟨tcX4_add hD, trivial⟩
theorem tcX4_tell {D : zD} {l : Launch} (hD : zWD D) : zC D l mcX4_tell := zk_methC ⟨rfl, rfl⟩ hD poolX4 icX4_tell jcX4_tell ftX4_tell_ok (gcX4_tell hD) wcX4_tell ecX4_tell
def ftX4_isOn : List (Nat × List (Nat × Instr × Nat)) := [(22, [(0, .aload_n 0, 1), (1, .getfield 22, 3), (4, .iload_n 1, 1), (5, .iaload, 1), (6, .iload_n 2, 1), (7, .if_icmp .gt 17, 3), (10, .iload_n 2, 1), (11, .aload_n 0, 1), (12, .getfield 25, 3), (15, .iload_n 1, 1), (16, .iaload, 1), (17, .if_icmp .ge 7, 3), (20, .iconst 1, 1), (21, .goto 4, 3)]), (26, [(24, .iconst 0, 1), (25, .ireturn, 1)])]
theorem ftX4_isOn_ok : zk_ftb cX4_isOn ftX4_isOn = true := by decide +kernel
def qcX4_isOn : zQ := ((4, 4), ([(2, 1, 0), (0, 2, 0), (0, 3, 0)], ([(0, 0, 0), (2, 0, 79), (3, 0, 400)], [], [], []), ([(1, 31)], [], [], [], [], [])), [(some (0, 0, 0), ([(0, 0, 0)], [], [], []), ([], [], [], [], [], [])), (some (0, 0, 1), ([(0, 0, 0)], [], [], []), ([], [], [], [], [], []))], ([], []), (0, 0))
def mcX4_isOn : zM := (yX4_isOn, cX4_isOn, 3, (some .boolean), { frames := 1, cells := 0, slots := 0, locals := 12 }, qcX4_isOn)
def hcX4_isOn : zH := ([], [], [], [], ([], 0, 0), 1)
theorem jcX4_isOn : zk_txok RX4 hcX4_isOn.2.2.2.2.1 := zk_txb_ok (p := (0, 0)) (by decide +kernel)
def xcX4_isOn : List zX := []
theorem wcX4_isOn : zk_hwsb zcl RX4 mcX4_isOn.rm xcX4_isOn [] = true := by decide +kernel
theorem icX4_isOn : zk_idb zcl RX4 4 false mcX4_isOn = true := by decide +kernel
theorem ecX4_isOn : zk_run zcl zft zTT zPF zPB zSUf zLX4 4 false mcX4_isOn ftX4_isOn hcX4_isOn zULf xcX4_isOn 17 = true := by decide +kernel
theorem gcX4_isOn {D : zD} {l : Launch} (hD : zWD D) : zCs D l xcX4_isOn := trivial
theorem tcX4_isOn {D : zD} {l : Launch} (hD : zWD D) : zC D l mcX4_isOn := zk_methC ⟨rfl, rfl⟩ hD poolX4 icX4_isOn jcX4_isOn ftX4_isOn_ok (gcX4_isOn hD) wcX4_isOn ecX4_isOn
def ftX4_find : List (Nat × List (Nat × Instr × Nat)) := [(25, [(0, .iconst 0, 1), (1, .istore 4, 2), (3, .iload 4, 2), (5, .aload_n 0, 1), (6, .getfield 32, 3), (9, .if_icmp .ge 34, 3), (12, .aload_n 0, 1), (13, .getfield 15, 3), (16, .iload 4, 2), (18, .laload, 1), (19, .lload_n 1, 1), (20, .lcmp, 1), (21, .ifCond .ne 16, 3), (24, .aload_n 0, 1)]), (45, [(25, .iload 4, 2), (27, .iload_n 3, 1), (28, .invokevirtual 39, 3), (31, .ifCond .eq 6, 3), (34, .iload 4, 2), (36, .ireturn, 1), (37, .iinc 4 1, 3), (40, .goto (-37), 3), (43, .iconst (-1), 1), (44, .ireturn, 1)])]
theorem ftX4_find_ok : zk_ftb cX4_find ftX4_find = true := by decide +kernel
def qcX4_find : zQ := ((4, 5), ([(2, 1, 0), (1, 2, 0), (0, 3, 0)], ([(0, 0, 0), (2, (-9223372036854775808), 9223372036854775807), (3, 0, 400)], [], [], []), ([(1, 31)], [], [], [], [], [])), [(some (0, 0, (-1)), ([(0, 0, 0)], [], [], []), ([], [], [], [], [], [])), (some (0, 4, 0), ([(0, 0, 0), (4, 0, 79)], [], [], []), ([], [], [], [], [], []))], ([], []), (0, 0))
def mcX4_find : zM := (yX4_find, cX4_find, 5, (some .int), { frames := 2, cells := 0, slots := 0, locals := 34 }, qcX4_find)
def hcX4_find : zH := ([(3, [([(0, (2, 1, 0)), (1, (1, 2, 0)), (3, (0, 3, 0)), (4, (0, 4, 0))], [], ([(0, 0, 0), (4, 0, 80), (2, (-9223372036854775808), 9223372036854775807), (3, 0, 400)], [], [], []), ([(1, 31)], [], [], [], [], []), (5, ([(4, (-1))], 80), 0, 0))])], [], [], [], ([], 0, 0), 161)
theorem jcX4_find : zk_txok RX4 hcX4_find.2.2.2.2.1 := zk_txb_ok (p := (0, 0)) (by decide +kernel)
def xcX4_find : List zX := [(39, 2, 4, mcX4_isOn)]
theorem wcX4_find : zk_hwsb zcl RX4 mcX4_find.rm xcX4_find [(701, 79, 698, 699, 700)] = true := by decide +kernel
theorem icX4_find : zk_idb zcl RX4 4 false mcX4_find = true := by decide +kernel
theorem ecX4_find : zk_run zcl zft zTT zPF zPB zSUf zLX4 4 false mcX4_find ftX4_find hcX4_find zULf xcX4_find 20 = true := by decide +kernel
theorem gcX4_find {D : zD} {l : Launch} (hD : zWD D) : zCs D l xcX4_find := ⟨tcX4_isOn hD, trivial⟩
theorem tcX4_find {D : zD} {l : Launch} (hD : zWD D) : zC D l mcX4_find := zk_methC ⟨rfl, rfl⟩ hD poolX4 icX4_find jcX4_find ftX4_find_ok (gcX4_find hD) wcX4_find ecX4_find
def ftX11_letterAt : List (Nat × List (Nat × Instr × Nat)) := [(8, [(0, .lload_n 0, 1), (1, .iload_n 2, 1), (2, .lushr, 1), (3, .l2i, 1), (4, .bipush 31, 2), (6, .iand, 1), (7, .ireturn, 1)])]
theorem ftX11_letterAt_ok : zk_ftb cX11_letterAt ftX11_letterAt = true := by decide +kernel
def qcX11_letterAt : zQ := ((3, 4), ([(1, 1, 0), (0, 2, 0)], ([(0, 0, 0), (1, (-9223372036854775808), 9223372036854775807), (2, (-2147483648), 2147483647)], [], [], []), ([], [], [], [], [], [])), [(some (0, 3, 0), ([(0, 0, 0), (3, 0, 31)], [], [], []), ([], [], [], [], [], []))], ([], []), (0, 0))
def mcX11_letterAt : zM := (yX11_letterAt, cX11_letterAt, 3, (some .int), { frames := 1, cells := 0, slots := 0, locals := 12 }, qcX11_letterAt)
def hcX11_letterAt : zH := ([], [], [], [], ([], 0, 0), 1)
theorem jcX11_letterAt : zk_txok RX11 hcX11_letterAt.2.2.2.2.1 := zk_txb_ok (p := (0, 0)) (by decide +kernel)
def xcX11_letterAt : List zX := []
theorem wcX11_letterAt : zk_hwsb zcl RX11 mcX11_letterAt.rm xcX11_letterAt [] = true := by decide +kernel
theorem icX11_letterAt : zk_idb zcl RX11 11 false mcX11_letterAt = true := by decide +kernel
theorem ecX11_letterAt : zk_run zcl zft zTT zPF zPB zSUf zLX11 11 false mcX11_letterAt ftX11_letterAt hcX11_letterAt zULf xcX11_letterAt 9 = true := by decide +kernel
theorem gcX11_letterAt {D : zD} {l : Launch} (hD : zWD D) : zCs D l xcX11_letterAt := trivial
theorem tcX11_letterAt {D : zD} {l : Launch} (hD : zWD D) : zC D l mcX11_letterAt := zk_methC ⟨rfl, rfl⟩ hD poolX11 icX11_letterAt jcX11_letterAt ftX11_letterAt_ok (gcX11_letterAt hD) wcX11_letterAt ecX11_letterAt
