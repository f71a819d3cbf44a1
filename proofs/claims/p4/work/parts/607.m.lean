/-! METHODS (printed by wip/t4) -/
def ftX6_readSpelling : List (Nat × List (Nat × Instr × Nat)) := [(26, [(0, .aload_n 0, 1), (1, .invokevirtual 43, 3), (4, .aload_n 1, 1), (5, .invokevirtual 46, 3), (8, .iconst 0, 1), (9, .istore_n 2, 1), (10, .iload_n 2, 1), (11, .sipush 1200, 3), (14, .if_icmp .gt 134, 3), (17, .aload_n 0, 1), (18, .getfield 9, 3), (21, .invokevirtual 30, 3), (24, .aload_n 0, 1), (25, .getfield 9, 3)]), (59, [(28, .getfield 33, 3), (31, .ifCond .ne 6, 3), (34, .goto 114, 3), (37, .aload_n 0, 1), (38, .getfield 9, 3), (41, .ldc 51, 2), (43, .invokevirtual 53, 3), (46, .ifCond .eq 12, 3), (49, .aload_n 0, 1), (50, .aload_n 1, 1), (51, .invokevirtual 57, 3), (54, .istore_n 3, 1), (55, .goto 71, 3), (58, .aload_n 0, 1)]), (89, [(59, .getfield 9, 3), (62, .ldc 61, 2), (64, .invokevirtual 53, 3), (67, .ifCond .eq 12, 3), (70, .aload_n 0, 1), (71, .aload_n 1, 1), (72, .invokevirtual 63, 3), (75, .istore_n 3, 1), (76, .goto 50, 3), (79, .aload_n 0, 1), (80, .getfield 9, 3), (83, .ldc 66, 2), (85, .invokevirtual 53, 3), (88, .ifCond .eq 12, 3)]), (118, [(91, .aload_n 0, 1), (92, .aload_n 1, 1), (93, .invokevirtual 68, 3), (96, .istore_n 3, 1), (97, .goto 29, 3), (100, .aload_n 0, 1), (101, .getfield 9, 3), (104, .ldc 71, 2), (106, .invokevirtual 53, 3), (109, .ifCond .eq 11, 3), (112, .aload_n 0, 1), (113, .aload_n 1, 1), (114, .invokevirtual 73, 3), (117, .goto 8, 3)]), (140, [(120, .aload_n 0, 1), (121, .iconst 1, 1), (122, .invokevirtual 36, 3), (125, .istore_n 3, 1), (126, .iload_n 3, 1), (127, .ifCond .ne 5, 3), (130, .iconst 0, 1), (131, .ireturn, 1), (132, .aload_n 1, 1), (133, .dup, 1), (134, .getfield 76, 3), (137, .iconst 1, 1), (138, .iadd, 1), (139, .putfield 76, 3)]), (150, [(142, .iinc 2 1, 3), (145, .goto (-135), 3), (148, .iconst 1, 1), (149, .ireturn, 1)])]
theorem ftX6_readSpelling_ok : zk_ftb cX6_readSpelling ftX6_readSpelling = true := by decide +kernel
def qcX6_readSpelling_tk : zQ := ((8, 13), ([(2, 1, 0), (2, 2, 0)], ([(0, 0, 0), (5, 0, 1200)], [], [], []), ([(1, 34), (2, 32), (3, 30), (4, 44), (6, 45), (7, 46)], [(1, 6, 0, (2, 3, 0)), (3, 8, 0, (2, 4, 0)), (3, 8, 1, (0, 5, 0)), (2, 7, 0, (2, 6, 0)), (2, 7, 1, (2, 7, 0))], [], [], [], [(0, []), (109, [])])), [(some (0, 0, 0), ([(0, 0, 0), (8, 1, 3), (9, 0, 1200), (10, 0, 1200), (11, 0, 1), (12, 0, 10)], [(8, 5, 1), (11, 5, 0), (12, 5, 5)], [], []), ([], [(1, 6, 1, (0, 8, 0)), (1, 6, 2, (0, 9, 0)), (2, 7, 4, (0, 10, 0)), (2, 7, 2, (0, 11, 0)), (2, 7, 3, (0, 12, 0))], [], [], [], [(384, [(2, 4, 0), (0, 5, 0), (0, 8, 0), (0, 9, 0)]), (109, [])])), (some (0, 0, 1), ([(0, 0, 0), (8, 0, 1200), (9, 0, 1), (10, 0, 10), (11, 0, 1200)], [(9, 8, 0), (10, 8, 9), (9, 5, 0), (10, 5, 5)], [], []), ([], [(2, 7, 4, (0, 8, 0)), (2, 7, 2, (0, 9, 0)), (2, 7, 3, (0, 10, 0))], [], [], [], [(380, [(2, 4, 0), (0, 5, 0), (2, 6, 0), (2, 7, 0), (0, 0, 9), (0, 11, 0), (0, 8, 0), (0, 9, 0), (0, 10, 0), (0, 0, 0)]), (109, [])]))], ([(30, 2), (30, 3), (30, 4), (30, 5), (30, 6), (30, 7), (32, 2), (32, 3), (32, 4), (34, 1), (34, 2)], [45, 46]), (0, 0))
def mcX6_readSpelling_tk : zM := (yX6_readSpelling, cX6_readSpelling, 4, (some .boolean), { frames := 6, cells := 0, slots := 0, locals := 119 }, qcX6_readSpelling_tk)
def hcX6_readSpelling_tk : zH := ([(10, [([(0, (2, 1, 0)), (1, (2, 2, 0)), (2, (0, 8, 0))], [], ([(0, 0, 0), (8, 0, 1201), (9, 0, 1), (10, 0, 10), (11, 0, 1200), (5, 0, 1200)], [(9, 8, 0), (9, 5, 0), (10, 8, 9), (10, 5, 5), (11, 8, 1199), (11, 5, 1196)], [], []), ([(1, 34), (2, 32), (3, 30), (4, 44), (6, 45), (7, 46)], [(2, 7, 2, (0, 9, 0)), (2, 7, 3, (0, 10, 0)), (2, 7, 4, (0, 8, 0)), (1, 6, 0, (2, 3, 0)), (3, 8, 2, (0, 11, 0)), (3, 8, 0, (2, 4, 0)), (3, 8, 1, (0, 5, 0)), (2, 7, 0, (2, 6, 0)), (2, 7, 1, (2, 7, 0))], [], [], [], [(109, []), (0, []), (109, []), (380, [(2, 4, 0), (0, 5, 0), (2, 6, 0), (2, 7, 0), (0, 0, 0), (0, 11, 0), (0, 8, 0), (0, 9, 0), (0, 10, 0), (0, 0, 0)])]), (12, ([(8, (-1))], 1201), 0, 0))])], [], [(8, [(9, 764, 0)]), (10, [(9, 802, 0)]), (21, [(9, 410, 0)]), (34, [(9, 765, 0)]), (51, [(9, 766, 0)]), (72, [(9, 767, 0)]), (120, [(9, 768, 0)]), (125, [(9, 803, 0)])], [], ([(51, 0), (61, 1), (66, 2), (71, 3)], 0, 0), 2403)
theorem jcX6_readSpelling_tk : zk_txok RX6 hcX6_readSpelling_tk.2.2.2.2.1 := zk_txb_ok (p := (0, 0)) (by decide +kernel)
def xcX6_readSpelling_tk : List zX := [(30, 2, 8, mcX8_step_tk), (36, 2, 6, mcX6_fail_tk), (43, 2, 6, mcX6_begin_tk), (46, 2, 7, mcX7_clear_tk), (53, 2, 8, mcX8_says_30_0_t0), (53, 2, 8, mcX8_says_30_1_t1), (53, 2, 8, mcX8_says_30_2_t2), (53, 2, 8, mcX8_says_30_3_t3), (57, 2, 6, mcX6_readSame_tk), (63, 2, 6, mcX6_readDrop_tk), (68, 2, 6, mcX6_readDouble_tk), (73, 2, 6, mcX6_readFirst_tk)]
theorem wcX6_readSpelling_tk : zk_hwsb zcl RX6 mcX6_readSpelling_tk.rm xcX6_readSpelling_tk [(537, 76, 534, 535, 536), (623, 77, 620, 622, 5), (528, 77, 525, 527, 0), (179, 78, 533, 177, 178), (559, 76, 556, 557, 558), (559, 76, 556, 557, 558), (559, 76, 556, 557, 558), (559, 76, 556, 557, 558), (611, 77, 608, 610, 3), (636, 77, 633, 635, 6), (641, 77, 638, 640, 7), (650, 77, 647, 649, 9)] = true := by decide +kernel
theorem icX6_readSpelling_tk : zk_idb zcl RX6 6 false mcX6_readSpelling_tk = true := by decide +kernel
theorem ecX6_readSpelling_tk : zk_run zcl zft zTT zPF zPB zSUf zLX6 6 false mcX6_readSpelling_tk ftX6_readSpelling hcX6_readSpelling_tk zULf xcX6_readSpelling_tk 47 = true := by decide +kernel
theorem gcX6_readSpelling_tk {D : zD} {l : Launch} (hD : zWD D) : zCs D l xcX6_readSpelling_tk := ⟨tcX8_step_tk hD, tcX6_fail_tk hD, tcX6_begin_tk hD, tcX7_clear_tk hD, tcX8_says_30_0_t0 hD, tcX8_says_30_1_t1 hD, tcX8_says_30_2_t2 hD, tcX8_says_30_3_t3 hD, tcX6_readSame_tk hD, tcX6_readDrop_tk hD, tcX6_readDouble_tk hD, tcX6_readFirst_tk hD, trivial⟩
theorem tcX6_readSpelling_tk {D : zD} {l : Launch} (hD : zWD D) : zC D l mcX6_readSpelling_tk := zk_methC ⟨rfl, rfl⟩ hD poolX6 icX6_readSpelling_tk jcX6_readSpelling_tk ftX6_readSpelling_ok (gcX6_readSpelling_tk hD) wcX6_readSpelling_tk ecX6_readSpelling_tk
def ftX11_spelling : List (Nat × List (Nat × Instr × Nat)) := [(26, [(0, .aload_n 0, 1), (1, .getfield 21, 3), (4, .aload_n 0, 1), (5, .getfield 32, 3), (8, .invokevirtual 110, 3), (11, .istore_n 1, 1), (12, .aload_n 0, 1), (13, .getfield 12, 3), (16, .iconst 0, 1), (17, .putfield 103, 3), (20, .iload_n 1, 1), (21, .ifCond .ne 5, 3), (24, .iconst (-1), 1), (25, .ireturn, 1)]), (48, [(26, .aload_n 0, 1), (27, .getfield 28, 3), (30, .astore_n 2, 1), (31, .aload_n 0, 1), (32, .aload_n 0, 1), (33, .getfield 32, 3), (36, .putfield 28, 3), (39, .aload_n 0, 1), (40, .aload_n 2, 1), (41, .putfield 32, 3), (44, .iconst 0, 1), (45, .istore_n 3, 1), (46, .iload_n 3, 1), (47, .aload_n 0, 1)]), (76, [(48, .getfield 38, 3), (51, .arraylength, 1), (52, .if_icmp .ge 18, 3), (55, .aload_n 0, 1), (56, .getfield 38, 3), (59, .iload_n 3, 1), (60, .aaload, 1), (61, .invokevirtual 114, 3), (64, .iinc 3 1, 3), (67, .goto (-21), 3), (70, .aload_n 0, 1), (71, .invokevirtual 117, 3), (74, .aload_n 0, 1), (75, .iconst 0, 1)]), (87, [(76, .putfield 93, 3), (79, .aload_n 0, 1), (80, .getfield 28, 3), (83, .getfield 120, 3), (86, .ireturn, 1)])]
theorem ftX11_spelling_ok : zk_ftb cX11_spelling ftX11_spelling = true := by decide +kernel
def qcX11_spelling : zQ := ((12, 13), ([(2, 1, 0)], ([(0, 0, 0), (4, 0, 1200)], [], [], []), ([(1, 42), (2, 30), (3, 44), (5, 34), (6, 32), (7, 32), (8, 45), (9, 46), (10, 45), (11, 46)], [(1, 11, 0, (2, 2, 0)), (2, 8, 0, (2, 3, 0)), (2, 8, 1, (0, 4, 0)), (1, 11, 1, (2, 5, 0)), (5, 6, 0, (2, 2, 0)), (1, 11, 3, (2, 6, 0)), (1, 11, 2, (2, 7, 0)), (6, 7, 0, (2, 8, 0)), (6, 7, 1, (2, 9, 0)), (7, 7, 0, (2, 10, 0)), (7, 7, 1, (2, 11, 0))], [], [], [], [(0, []), (109, [])])), [(some (0, 0, (-1)), ([(0, 0, 0)], [], [], []), ([], [(1, 11, 0, (2, 2, 0)), (2, 8, 1, (0, 0, 0)), (1, 11, 2, (2, 7, 0)), (7, 7, 0, (2, 10, 0)), (7, 7, 1, (2, 11, 0)), (1, 11, 3, (2, 6, 0)), (6, 7, 0, (2, 8, 0)), (6, 7, 1, (2, 9, 0))], [], [], [], [(386, [(2, 3, 0), (0, 4, 0), (0, 0, (-1))]), (109, [])])), (some (0, 12, 0), ([(0, 0, 0), (12, 0, 1200)], [], [], []), ([], [(1, 11, 0, (2, 2, 0)), (2, 8, 1, (0, 0, 0)), (1, 11, 2, (2, 6, 0)), (6, 7, 0, (2, 8, 0)), (6, 7, 1, (2, 9, 0)), (1, 11, 3, (2, 7, 0)), (7, 7, 0, (2, 10, 0)), (7, 7, 1, (2, 11, 0))], [], [], [], [(386, [(2, 3, 0), (0, 4, 0), (0, 12, 0)]), (109, [])]))], ([(30, 1), (30, 2), (30, 3), (30, 4), (30, 5), (30, 6), (30, 7), (31, 5), (31, 6), (32, 2), (32, 3), (32, 4), (34, 1), (34, 2), (42, 2), (42, 3), (42, 13), (42, 14), (42, 15)], [45, 46, 51]), (0, 0))
def mcX11_spelling : zM := (yX11_spelling, cX11_spelling, 4, (some .int), { frames := 7, cells := 0, slots := 0, locals := 142 }, qcX11_spelling)
def hcX11_spelling : zH := ([(46, [([(0, (2, 1, 0)), (3, (0, 12, 0))], [], ([(0, 0, 0), (12, 0, 4), (13, 0, 1200), (14, 0, 1), (15, 0, 10), (4, 0, 1200)], [(14, 13, 0), (14, 4, 0), (15, 13, 9), (15, 4, 5)], [], []), ([(1, 42), (2, 30), (3, 44), (5, 34), (6, 32), (7, 32), (8, 45), (9, 46), (10, 45), (11, 46)], [(1, 11, 3, (2, 7, 0)), (1, 11, 2, (2, 6, 0)), (2, 8, 1, (0, 0, 0)), (6, 7, 4, (0, 13, 0)), (6, 7, 2, (0, 14, 0)), (6, 7, 3, (0, 15, 0)), (1, 11, 0, (2, 2, 0)), (2, 8, 0, (2, 3, 0)), (1, 11, 1, (2, 5, 0)), (5, 6, 0, (2, 2, 0)), (6, 7, 0, (2, 8, 0)), (6, 7, 1, (2, 9, 0)), (7, 7, 0, (2, 10, 0)), (7, 7, 1, (2, 11, 0))], [], [], [], [(109, []), (0, []), (109, []), (386, [(2, 3, 0), (0, 4, 0), (0, 13, 0)])]), (16, ([(12, (-1))], 4), 0, 0))])], [], [(12, [(9, 805, 0), (9, 806, 0)])], [], ([], 0, 0), 9)
theorem jcX11_spelling : zk_txok RX11 hcX11_spelling.2.2.2.2.1 := zk_txb_ok (p := (0, 0)) (by decide +kernel)
def xcX11_spelling : List zX := [(110, 2, 6, mcX6_readSpelling_tk), (114, 2, 4, mcX4_clear), (117, 2, 11, mcX11_forgetChanges)]
theorem wcX11_spelling : zk_hwsb zcl RX11 mcX11_spelling.rm xcX11_spelling [(524, 77, 521, 522, 523), (658, 79, 655, 656, 657), (662, 75, 659, 661, 11)] = true := by decide +kernel
theorem icX11_spelling : zk_idb zcl RX11 11 false mcX11_spelling = true := by decide +kernel
theorem ecX11_spelling : zk_run zcl zft zTT zPF zPB zSUf zLX11 11 false mcX11_spelling ftX11_spelling hcX11_spelling zULf xcX11_spelling 26 = true := by decide +kernel
theorem gcX11_spelling {D : zD} {l : Launch} (hD : zWD D) : zCs D l xcX11_spelling := ⟨tcX6_readSpelling_tk hD, tcX4_clear hD, tcX11_forgetChanges hD, trivial⟩
theorem tcX11_spelling {D : zD} {l : Launch} (hD : zWD D) : zC D l mcX11_spelling := zk_methC ⟨rfl, rfl⟩ hD poolX11 icX11_spelling jcX11_spelling ftX11_spelling_ok (gcX11_spelling hD) wcX11_spelling ecX11_spelling
def ftX11_isSide : List (Nat × List (Nat × Instr × Nat)) := [(15, [(0, .iload_n 0, 1), (1, .ifCond .eq 8, 3), (4, .iload_n 0, 1), (5, .iconst 1, 1), (6, .if_icmp .ne 7, 3), (9, .iconst 1, 1), (10, .goto 4, 3), (13, .iconst 0, 1), (14, .ireturn, 1)])]
theorem ftX11_isSide_ok : zk_ftb cX11_isSide ftX11_isSide = true := by decide +kernel
def qcX11_isSide : zQ := ((2, 2), ([(0, 1, 0)], ([(0, 0, 0), (1, (-2147483648), 2147483647)], [], [], []), ([], [], [], [], [], [])), [(some (0, 0, 0), ([(0, 0, 0)], [], [], []), ([], [], [], [], [], [])), (some (0, 0, 1), ([(0, 0, 0), (1, 0, 1)], [], [], []), ([], [], [], [], [], []))], ([], []), (0, 0))
def mcX11_isSide : zM := (yX11_isSide, cX11_isSide, 1, (some .boolean), { frames := 1, cells := 0, slots := 0, locals := 12 }, qcX11_isSide)
def hcX11_isSide : zH := ([], [], [], [], ([], 0, 0), 1)
theorem jcX11_isSide : zk_txok RX11 hcX11_isSide.2.2.2.2.1 := zk_txb_ok (p := (0, 0)) (by decide +kernel)
def xcX11_isSide : List zX := []
theorem wcX11_isSide : zk_hwsb zcl RX11 mcX11_isSide.rm xcX11_isSide [] = true := by decide +kernel
theorem icX11_isSide : zk_idb zcl RX11 11 false mcX11_isSide = true := by decide +kernel
theorem ecX11_isSide : zk_run zcl zft zTT zPF zPB zSUf zLX11 11 false mcX11_isSide ftX11_isSide hcX11_isSide zULf xcX11_isSide 10 = true := by decide +kernel
theorem gcX11_isSide {D : zD} {l : Launch} (hD : zWD D) : zCs D l xcX11_isSide := trivial
theorem tcX11_isSide {D : zD} {l : Launch} (hD : zWD D) : zC D l mcX11_isSide := zk_methC ⟨rfl, rfl⟩ hD poolX11 icX11_isSide jcX11_isSide ftX11_isSide_ok (gcX11_isSide hD) wcX11_isSide ecX11_isSide
def ftX11_takeSpare : List (Nat × List (Nat × Instr × Nat)) := [(20, [(0, .aload_n 0, 1), (1, .getfield 38, 3), (4, .iload_n 1, 1), (5, .aaload, 1), (6, .astore_n 2, 1), (7, .aload_n 0, 1), (8, .getfield 38, 3), (11, .iload_n 1, 1), (12, .aload_n 0, 1), (13, .getfield 38, 3), (16, .iconst 3, 1), (17, .aaload, 1), (18, .aastore, 1), (19, .aload_n 0, 1)]), (27, [(20, .getfield 38, 3), (23, .iconst 3, 1), (24, .aload_n 2, 1), (25, .aastore, 1), (26, .return_, 1)])]
theorem ftX11_takeSpare_ok : zk_ftb cX11_takeSpare ftX11_takeSpare = true := by decide +kernel
def qcX11_takeSpare : zQ := ((3, 3), ([(2, 1, 0), (0, 2, 0)], ([(0, 0, 0), (2, 0, 2)], [], [], []), ([(1, 42)], [], [], [], [], [])), [(none, ([(0, 0, 0)], [], [], []), ([], [], [], [], [], []))], ([], [68]), (0, 0))
def mcX11_takeSpare : zM := (yX11_takeSpare, cX11_takeSpare, 3, none, { frames := 1, cells := 0, slots := 0, locals := 12 }, qcX11_takeSpare)
def hcX11_takeSpare : zH := ([], [], [], [], ([], 0, 0), 1)
theorem jcX11_takeSpare : zk_txok RX11 hcX11_takeSpare.2.2.2.2.1 := zk_txb_ok (p := (0, 0)) (by decide +kernel)
def xcX11_takeSpare : List zX := []
theorem wcX11_takeSpare : zk_hwsb zcl RX11 mcX11_takeSpare.rm xcX11_takeSpare [] = true := by decide +kernel
theorem icX11_takeSpare : zk_idb zcl RX11 11 false mcX11_takeSpare = true := by decide +kernel
theorem ecX11_takeSpare : zk_run zcl zft zTT zPF zPB zSUf zLX11 11 false mcX11_takeSpare ftX11_takeSpare hcX11_takeSpare zULf xcX11_takeSpare 21 = true := by decide +kernel
theorem gcX11_takeSpare {D : zD} {l : Launch} (hD : zWD D) : zCs D l xcX11_takeSpare := trivial
theorem tcX11_takeSpare {D : zD} {l : Launch} (hD : zWD D) : zC D l mcX11_takeSpare := zk_methC ⟨rfl, rfl⟩ hD poolX11 icX11_takeSpare jcX11_takeSpare ftX11_takeSpare_ok (gcX11_takeSpare hD) wcX11_takeSpare ecX11_takeSpare
def ftX4_add : List (Nat × List (Nat × Instr × Nat)) := [(24, [(0, .aload_n 0, 1), (1, .getfield 32, 3), (4, .aload_n 0, 1), (5, .getfield 9, 3), (8, .arraylength, 1), (9, .if_icmp .lt 4, 3), (12, .return_, 1), (13, .aload_n 0, 1), (14, .getfield 9, 3), (17, .aload_n 0, 1), (18, .getfield 32, 3), (21, .lload_n 1, 1), (22, .lastore, 1), (23, .aload_n 0, 1)]), (49, [(24, .getfield 15, 3), (27, .aload_n 0, 1), (28, .getfield 32, 3), (31, .lload_n 3, 1), (32, .lastore, 1), (33, .aload_n 0, 1), (34, .getfield 18, 3), (37, .aload_n 0, 1), (38, .getfield 32, 3), (41, .iload 5, 2), (43, .iastore, 1), (44, .aload_n 0, 1), (45, .getfield 22, 3), (48, .aload_n 0, 1)]), (74, [(49, .getfield 32, 3), (52, .iload 6, 2), (54, .iastore, 1), (55, .aload_n 0, 1), (56, .getfield 25, 3), (59, .aload_n 0, 1), (60, .getfield 32, 3), (63, .sipush 401, 3), (66, .iastore, 1), (67, .aload_n 0, 1), (68, .dup, 1), (69, .getfield 32, 3), (72, .iconst 1, 1), (73, .iadd, 1)]), (78, [(74, .putfield 32, 3), (77, .return_, 1)])]
theorem ftX4_add_ok : zk_ftb cX4_add ftX4_add = true := by decide +kernel
def qcX4_add : zQ := ((6, 6), ([(2, 1, 0), (1, 2, 0), (1, 3, 0), (0, 4, 0), (0, 5, 0)], ([(0, 0, 0), (2, (-9223372036854775808), 9223372036854775807), (3, (-9223372036854775808), 9223372036854775807), (4, (-2147483648), 2147483647), (5, 0, 400)], [], [], []), ([(1, 31)], [], [], [], [], [])), [(none, ([(0, 0, 0)], [], [], []), ([], [], [], [], [], []))], ([(31, 6)], [47, 48, 49, 50, 51]), (0, 0))
def mcX4_add : zM := (yX4_add, cX4_add, 7, none, { frames := 1, cells := 0, slots := 0, locals := 12 }, qcX4_add)
def hcX4_add : zH := ([], [], [], [], ([], 0, 0), 1)
theorem jcX4_add : zk_txok RX4 hcX4_add.2.2.2.2.1 := zk_txb_ok (p := (0, 0)) (by decide +kernel)
def xcX4_add : List zX := []
theorem wcX4_add : zk_hwsb zcl RX4 mcX4_add.rm xcX4_add [] = true := by decide +kernel
theorem icX4_add : zk_idb zcl RX4 4 false mcX4_add = true := by decide +kernel
theorem ecX4_add : zk_run zcl zft zTT zPF zPB zSUf zLX4 4 false mcX4_add ftX4_add hcX4_add zULf xcX4_add 45 = true := by decide +kernel
theorem gcX4_add {D : zD} {l : Launch} (hD : zWD D) : zCs D l xcX4_add := trivial
theorem tcX4_add {D : zD} {l : Launch} (hD : zWD D) : zC D l mcX4_add := zk_methC ⟨rfl, rfl⟩ hD poolX4 icX4_add jcX4_add ftX4_add_ok (gcX4_add hD) wcX4_add ecX4_add
def ftX4_tell : List (Nat × List (Nat × Instr × Nat)) := [(18, [(0, .aload_n 0, 1), (1, .lload_n 1, 1), (2, .lload_n 3, 1), (3, .iload 5, 2), (5, .iconst 0, 1), (6, .invokevirtual 35, 3), (9, .aload_n 0, 1), (10, .aload_n 0, 1), (11, .getfield 32, 3), (14, .putfield 28, 3), (17, .return_, 1)])]
theorem ftX4_tell_ok : zk_ftb cX4_tell ftX4_tell = true := by decide +kernel
def qcX4_tell : zQ := ((5, 5), ([(2, 1, 0), (1, 2, 0), (1, 3, 0), (0, 4, 0)], ([(0, 0, 0), (2, (-9223372036854775808), 9223372036854775807), (3, (-9223372036854775808), 9223372036854775807), (4, 0, 9999)], [], [], []), ([(1, 31)], [], [], [], [], [])), [(none, ([(0, 0, 0)], [], [], []), ([], [], [], [], [], []))], ([(31, 5), (31, 6)], [47, 48, 49, 50, 51]), (0, 0))
def mcX4_tell : zM := (yX4_tell, cX4_tell, 6, none, { frames := 2, cells := 0, slots := 0, locals := 38 }, qcX4_tell)
def hcX4_tell : zH := ([], [], [], [], ([], 0, 0), 1)
theorem jcX4_tell : zk_txok RX4 hcX4_tell.2.2.2.2.1 := zk_txb_ok (p := (0, 0)) (by decide +kernel)
def xcX4_tell : List zX := [(35, 2, 4, mcX4_add)]
theorem wcX4_tell : zk_hwsb zcl RX4 mcX4_tell.rm xcX4_tell [(709, 79, 706, 707, 708)] = true := by decide +kernel
theorem icX4_tell : zk_idb zcl RX4 4 false mcX4_tell = true := by decide +kernel
theorem ecX4_tell : zk_run zcl zft zTT zPF zPB zSUf zLX4 4 false mcX4_tell ftX4_tell hcX4_tell zULf xcX4_tell 13 = true := by decide +kernel
theorem gcX4_tell {D : zD} {l : Launch} (hD : zWD D) : zCs D l xcX4_tell := ⟨tcX4_add hD, trivial⟩
theorem tcX4_tell {D : zD} {l : Launch} (hD : zWD D) : zC D l mcX4_tell := zk_methC ⟨rfl, rfl⟩ hD poolX4 icX4_tell jcX4_tell ftX4_tell_ok (gcX4_tell hD) wcX4_tell ecX4_tell
def qcX8_rewind : zQ := ((2, 2), ([(2, 1, 0)], ([(0, 0, 0)], [], [], []), ([(1, 30)], [], [], [], [], [])), [(none, ([(0, 0, 0)], [], [], []), ([], [], [], [], [], []))], ([(30, 2)], []), (0, 0))
def mcX8_rewind : zM := (yX8_rewind, cX8_rewind, 1, none, { frames := 1, cells := 0, slots := 0, locals := 12 }, qcX8_rewind)
def hcX8_rewind : zH := ([], [], [], [], ([], 0, 0), 1)
theorem jcX8_rewind : zk_txok RX8 hcX8_rewind.2.2.2.2.1 := zk_txb_ok (p := (0, 0)) (by decide +kernel)
def xcX8_rewind : List zX := []
theorem wcX8_rewind : zk_hwsb zcl RX8 mcX8_rewind.rm xcX8_rewind [] = true := by decide +kernel
theorem icX8_rewind : zk_idb zcl RX8 8 false mcX8_rewind = true := by decide +kernel
theorem ecX8_rewind : zk_run zcl zft zTT zPF zPB zSUf zLX8 8 false mcX8_rewind ftX8_rewind hcX8_rewind zULf xcX8_rewind 6 = true := by decide +kernel
theorem gcX8_rewind {D : zD} {l : Launch} (hD : zWD D) : zCs D l xcX8_rewind := trivial
theorem tcX8_rewind {D : zD} {l : Launch} (hD : zWD D) : zC D l mcX8_rewind := zk_methC ⟨rfl, rfl⟩ hD poolX8 icX8_rewind jcX8_rewind ftX8_rewind_ok (gcX8_rewind hD) wcX8_rewind ecX8_rewind
def qcX6_begin : zQ := ((2, 2), ([(2, 1, 0)], ([(0, 0, 0)], [], [], []), ([(1, 34)], [], [], [], [], [])), [(none, ([(0, 0, 0)], [], [], []), ([], [], [], [], [], []))], ([(30, 2), (34, 1), (34, 2)], []), (0, 0))
def mcX6_begin : zM := (yX6_begin, cX6_begin, 1, none, { frames := 2, cells := 0, slots := 0, locals := 32 }, qcX6_begin)
def hcX6_begin : zH := ([], [], [], [], ([], 0, 0), 1)
theorem jcX6_begin : zk_txok RX6 hcX6_begin.2.2.2.2.1 := zk_txb_ok (p := (0, 0)) (by decide +kernel)
def xcX6_begin : List zX := [(22, 2, 8, mcX8_rewind)]
theorem wcX6_begin : zk_hwsb zcl RX6 mcX6_begin.rm xcX6_begin [(532, 76, 529, 530, 531)] = true := by decide +kernel
theorem icX6_begin : zk_idb zcl RX6 6 false mcX6_begin = true := by decide +kernel
theorem ecX6_begin : zk_run zcl zft zTT zPF zPB zSUf zLX6 6 false mcX6_begin ftX6_begin hcX6_begin zULf xcX6_begin 12 = true := by decide +kernel
theorem gcX6_begin {D : zD} {l : Launch} (hD : zWD D) : zCs D l xcX6_begin := ⟨tcX8_rewind hD, trivial⟩
theorem tcX6_begin {D : zD} {l : Launch} (hD : zWD D) : zC D l mcX6_begin := zk_methC ⟨rfl, rfl⟩ hD poolX6 icX6_begin jcX6_begin ftX6_begin_ok (gcX6_begin hD) wcX6_begin ecX6_begin
def ftX4_isOn : List (Nat × List (Nat × Instr × Nat)) := [(22, [(0, .aload_n 0, 1), (1, .getfield 22, 3), (4, .iload_n 1, 1), (5, .iaload, 1), (6, .iload_n 2, 1), (7, .if_icmp .gt 17, 3), (10, .iload_n 2, 1), (11, .aload_n 0, 1), (12, .getfield 25, 3), (15, .iload_n 1, 1), (16, .iaload, 1), (17, .if_icmp .ge 7, 3), (20, .iconst 1, 1), (21, .goto 4, 3)]), (26, [(24, .iconst 0, 1), (25, .ireturn, 1)])]
theorem ftX4_isOn_ok : zk_ftb cX4_isOn ftX4_isOn = true := by decide +kernel
def qcX4_isOn : zQ := ((4, 4), ([(2, 1, 0), (0, 2, 0), (0, 3, 0)], ([(0, 0, 0), (2, 0, 79), (3, 0, 400)], [], [], []), ([(1, 31)], [], [], [], [], [])), [(some (0, 0, 0), ([(0, 0, 0)], [], [], []), ([], [], [], [], [], [])), (some (0, 0, 1), ([(0, 0, 0)], [], [], []), ([], [], [], [], [], []))], ([], []), (0, 0))
def mcX4_isOn : zM := (yX4_isOn, cX4_isOn, 3, (some .boolean), { frames := 1, cells := 0, slots := 0, locals := 12 }, qcX4_isOn)
def hcX4_isOn : zH := ([], [], [], [], ([], 0, 0), 1)
theorem jcX4_isOn : zk_txok RX4 hcX4_isOn.2.2.2.2.1 := zk_txb_ok (p := (0, 0)) (by decide +kernel)
def xcX4_isOn : List zX := []
theorem wcX4_isOn : zk_hwsb zcl RX4 mcX4_isOn.rm xcX4_isOn [] = true := by decide +kernel
theorem icX4_isOn : zk_idb zcl RX4 4 false mcX4_isOn = true := by decide +kernel
theorem ecX4_isOn : zk_run zcl zft zTT zPF zPB zSUf zLX4 4 false mcX4_isOn ftX4_isOn hcX4_isOn zULf xcX4_isOn 17 = true := by decide +kernel
theorem gcX4_isOn {D : zD} {l : Launch} (hD : zWD D) : zCs D l xcX4_isOn := trivial
theorem tcX4_isOn {D : zD} {l : Launch} (hD : zWD D) : zC D l mcX4_isOn := zk_methC ⟨rfl, rfl⟩ hD poolX4 icX4_isOn jcX4_isOn ftX4_isOn_ok (gcX4_isOn hD) wcX4_isOn ecX4_isOn
def ftX4_find : List (Nat × List (Nat × Instr × Nat)) := [(25, [(0, .iconst 0, 1), (1, .istore 4, 2), (3, .iload 4, 2), (5, .aload_n 0, 1), (6, .getfield 32, 3), (9, .if_icmp .ge 34, 3), (12, .aload_n 0, 1), (13, .getfield 15, 3), (16, .iload 4, 2), (18, .laload, 1), (19, .lload_n 1, 1), (20, .lcmp, 1), (21, .ifCond .ne 16, 3), (24, .aload_n 0, 1)]), (45, [(25, .iload 4, 2), (27, .iload_n 3, 1), (28, .invokevirtual 39, 3), (31, .ifCond .eq 6, 3), (34, .iload 4, 2), (36, .ireturn, 1), (37, .iinc 4 1, 3), (40, .goto (-37), 3), (43, .iconst (-1), 1), (44, .ireturn, 1)])]
theorem ftX4_find_ok : zk_ftb cX4_find ftX4_find = true := by decide +kernel
def qcX4_find : zQ := ((4, 5), ([(2, 1, 0), (1, 2, 0), (0, 3, 0)], ([(0, 0, 0), (2, (-9223372036854775808), 9223372036854775807), (3, 0, 400)], [], [], []), ([(1, 31)], [], [], [], [], [])), [(some (0, 0, (-1)), ([(0, 0, 0)], [], [], []), ([], [], [], [], [], [])), (some (0, 4, 0), ([(0, 0, 0), (4, 0, 79)], [], [], []), ([], [], [], [], [], []))], ([], []), (0, 0))
def mcX4_find : zM := (yX4_find, cX4_find, 5, (some .int), { frames := 2, cells := 0, slots := 0, locals := 34 }, qcX4_find)
def hcX4_find : zH := ([(3, [([(0, (2, 1, 0)), (1, (1, 2, 0)), (3, (0, 3, 0)), (4, (0, 4, 0))], [], ([(0, 0, 0), (4, 0, 80), (2, (-9223372036854775808), 9223372036854775807), (3, 0, 400)], [], [], []), ([(1, 31)], [], [], [], [], []), (5, ([(4, (-1))], 80), 0, 0))])], [], [], [], ([], 0, 0), 161)
theorem jcX4_find : zk_txok RX4 hcX4_find.2.2.2.2.1 := zk_txb_ok (p := (0, 0)) (by decide +kernel)
def xcX4_find : List zX := [(39, 2, 4, mcX4_isOn)]
theorem wcX4_find : zk_hwsb zcl RX4 mcX4_find.rm xcX4_find [(701, 79, 698, 699, 700)] = true := by decide +kernel
theorem icX4_find : zk_idb zcl RX4 4 false mcX4_find = true := by decide +kernel
theorem ecX4_find : zk_run zcl zft zTT zPF zPB zSUf zLX4 4 false mcX4_find ftX4_find hcX4_find zULf xcX4_find 20 = true := by decide +kernel
theorem gcX4_find {D : zD} {l : Launch} (hD : zWD D) : zCs D l xcX4_find := ⟨tcX4_isOn hD, trivial⟩
theorem tcX4_find {D : zD} {l : Launch} (hD : zWD D) : zC D l mcX4_find := zk_methC ⟨rfl, rfl⟩ hD poolX4 icX4_find jcX4_find ftX4_find_ok (gcX4_find hD) wcX4_find ecX4_find
def qcX6_fail : zQ := ((3, 3), ([(2, 1, 0), (0, 2, 0)], ([(0, 0, 0), (2, 1, 6)], [], [], []), ([(1, 34)], [], [], [], [], [])), [(some (0, 0, 0), ([(0, 0, 0)], [], [], []), ([], [], [], [], [], []))], ([(34, 1), (34, 2)], []), (0, 0))
def mcX6_fail : zM := (yX6_fail, cX6_fail, 2, (some .boolean), { frames := 1, cells := 0, slots := 0, locals := 12 }, qcX6_fail)
def hcX6_fail : zH := ([], [], [], [], ([], 0, 0), 1)
theorem jcX6_fail : zk_txok RX6 hcX6_fail.2.2.2.2.1 := zk_txb_ok (p := (0, 0)) (by decide +kernel)
def xcX6_fail : List zX := []
theorem wcX6_fail : zk_hwsb zcl RX6 mcX6_fail.rm xcX6_fail [] = true := by decide +kernel
theorem icX6_fail : zk_idb zcl RX6 6 false mcX6_fail = true := by decide +kernel
theorem ecX6_fail : zk_run zcl zft zTT zPF zPB zSUf zLX6 6 false mcX6_fail ftX6_fail hcX6_fail zULf xcX6_fail 12 = true := by decide +kernel
theorem gcX6_fail {D : zD} {l : Launch} (hD : zWD D) : zCs D l xcX6_fail := trivial
theorem tcX6_fail {D : zD} {l : Launch} (hD : zWD D) : zC D l mcX6_fail := zk_methC ⟨rfl, rfl⟩ hD poolX6 icX6_fail jcX6_fail ftX6_fail_ok (gcX6_fail hD) wcX6_fail ecX6_fail
def ftX11_letterAt : List (Nat × List (Nat × Instr × Nat)) := [(8, [(0, .lload_n 0, 1), (1, .iload_n 2, 1), (2, .lushr, 1), (3, .l2i, 1), (4, .bipush 31, 2), (6, .iand, 1), (7, .ireturn, 1)])]
theorem ftX11_letterAt_ok : zk_ftb cX11_letterAt ftX11_letterAt = true := by decide +kernel
def qcX11_letterAt : zQ := ((3, 4), ([(1, 1, 0), (0, 2, 0)], ([(0, 0, 0), (1, (-9223372036854775808), 9223372036854775807), (2, (-2147483648), 2147483647)], [], [], []), ([], [], [], [], [], [])), [(some (0, 3, 0), ([(0, 0, 0), (3, 0, 31)], [], [], []), ([], [], [], [], [], []))], ([], []), (0, 0))
def mcX11_letterAt : zM := (yX11_letterAt, cX11_letterAt, 3, (some .int), { frames := 1, cells := 0, slots := 0, locals := 12 }, qcX11_letterAt)
def hcX11_letterAt : zH := ([], [], [], [], ([], 0, 0), 1)
theorem jcX11_letterAt : zk_txok RX11 hcX11_letterAt.2.2.2.2.1 := zk_txb_ok (p := (0, 0)) (by decide +kernel)
def xcX11_letterAt : List zX := []
theorem wcX11_letterAt : zk_hwsb zcl RX11 mcX11_letterAt.rm xcX11_letterAt [] = true := by decide +kernel
theorem icX11_letterAt : zk_idb zcl RX11 11 false mcX11_letterAt = true := by decide +kernel
theorem ecX11_letterAt : zk_run zcl zft zTT zPF zPB zSUf zLX11 11 false mcX11_letterAt ftX11_letterAt hcX11_letterAt zULf xcX11_letterAt 9 = true := by decide +kernel
theorem gcX11_letterAt {D : zD} {l : Launch} (hD : zWD D) : zCs D l xcX11_letterAt := trivial
theorem tcX11_letterAt {D : zD} {l : Launch} (hD : zWD D) : zC D l mcX11_letterAt := zk_methC ⟨rfl, rfl⟩ hD poolX11 icX11_letterAt jcX11_letterAt ftX11_letterAt_ok (gcX11_letterAt hD) wcX11_letterAt ecX11_letterAt
def ftX7_keyOf : List (Nat × List (Nat × Instr × Nat)) := [(25, [(0, .aload_n 0, 1), (1, .getfield 26, 3), (4, .ifCond .ne 8, 3), (7, .bipush 10, 2), (9, .goto 7, 3), (12, .aload_n 0, 1), (13, .getfield 26, 3), (16, .istore_n 3, 1), (17, .lconst 0, 1), (18, .lstore 4, 2), (20, .iconst 0, 1), (21, .istore 6, 2), (23, .iconst 0, 1), (24, .istore 7, 2)]), (54, [(26, .bipush 45, 2), (28, .istore 8, 2), (30, .iload 8, 2), (32, .ifCond .lt 79, 3), (35, .iload 6, 2), (37, .iload_n 3, 1), (38, .if_icmp .ge 73, 3), (41, .lload_n 1, 1), (42, .iload 8, 2), (44, .invokestatic 33, 3), (47, .istore 9, 2), (49, .iload 9, 2), (51, .bipush 26, 2), (53, .if_icmp .gt 13, 3)]), (84, [(56, .aload_n 0, 1), (57, .getfield 9, 3), (60, .iload 9, 2), (62, .iaload, 1), (63, .goto 4, 3), (66, .iconst 0, 1), (67, .istore 10, 2), (69, .iload 10, 2), (71, .ifCond .eq 34, 3), (74, .aload_n 0, 1), (75, .getfield 22, 3), (78, .ifCond .eq 10, 3), (81, .iload 10, 2), (83, .iload 7, 2)]), (112, [(85, .if_icmp .eq 20, 3), (88, .lload 4, 2), (90, .iconst 5, 1), (91, .lshl, 1), (92, .iload 10, 2), (94, .i2l, 1), (95, .lor, 1), (96, .lstore 4, 2), (98, .iinc 6 1, 3), (101, .iload 10, 2), (103, .istore 7, 2), (105, .iinc 8 (-5), 3), (108, .goto (-78), 3), (111, .lload 4, 2)]), (114, [(113, .lreturn, 1)])]
theorem ftX7_keyOf_ok : zk_ftb cX7_keyOf ftX7_keyOf = true := by decide +kernel
def qcX7_keyOf : zQ := ((3, 4), ([(2, 1, 0), (1, 2, 0)], ([(0, 0, 0), (2, (-9223372036854775808), 9223372036854775807)], [], [], []), ([(1, 32)], [], [], [], [], [])), [(some (1, 3, 0), ([(0, 0, 0), (3, (-9223372036854775808), 9223372036854775807)], [], [], []), ([], [], [], [], [], []))], ([], []), (0, 0))
def mcX7_keyOf : zM := (yX7_keyOf, cX7_keyOf, 11, (some .long), { frames := 2, cells := 0, slots := 0, locals := 34 }, qcX7_keyOf)
def hcX7_keyOf : zH := ([(30, [([(0, (2, 1, 0)), (1, (1, 2, 0)), (3, (0, 3, 0)), (4, (1, 4, 0)), (6, (0, 5, 0)), (7, (0, 6, 0)), (8, (0, 7, 0))], [], ([(0, 0, 0), (3, 1, 10), (4, (-9223372036854775808), 9223372036854775807), (5, 0, 10), (6, (-2147483648), 2147483647), (7, (-5), 45), (8, 0, 10), (2, (-9223372036854775808), 9223372036854775807)], [(5, 3, 0), (8, 3, 0)], [], []), ([(1, 32)], [(1, 7, 3, (0, 8, 0))], [], [], [], []), (9, ([(7, 1)], 5), 0, 0))])], [], [], [], ([], 0, 0), 51)
theorem jcX7_keyOf : zk_txok RX7 hcX7_keyOf.2.2.2.2.1 := zk_txb_ok (p := (0, 0)) (by decide +kernel)
def xcX7_keyOf : List zX := [(33, 1, 0, mcX11_letterAt)]
theorem wcX7_keyOf : zk_hwsb zcl RX7 mcX7_keyOf.rm xcX7_keyOf [(693, 75, 0, 692, 0)] = true := by decide +kernel
theorem icX7_keyOf : zk_idb zcl RX7 7 false mcX7_keyOf = true := by decide +kernel
theorem ecX7_keyOf : zk_run zcl zft zTT zPF zPB zSUf zLX7 7 false mcX7_keyOf ftX7_keyOf hcX7_keyOf zULf xcX7_keyOf 40 = true := by decide +kernel
theorem gcX7_keyOf {D : zD} {l : Launch} (hD : zWD D) : zCs D l xcX7_keyOf := ⟨tcX11_letterAt hD, trivial⟩
theorem tcX7_keyOf {D : zD} {l : Launch} (hD : zWD D) : zC D l mcX7_keyOf := zk_methC ⟨rfl, rfl⟩ hD poolX7 icX7_keyOf jcX7_keyOf ftX7_keyOf_ok (gcX7_keyOf hD) wcX7_keyOf ecX7_keyOf
def ftX6_isNewName : List (Nat × List (Nat × Instr × Nat)) := [(24, [(0, .aload_n 0, 1), (1, .getfield 9, 3), (4, .getfield 33, 3), (7, .iconst 1, 1), (8, .if_icmp .eq 9, 3), (11, .aload_n 0, 1), (12, .iconst 1, 1), (13, .invokevirtual 36, 3), (16, .ireturn, 1), (17, .aload_n 1, 1), (18, .aload_n 2, 1), (19, .aload_n 0, 1), (20, .getfield 9, 3), (23, .getfield 118, 3)]), (52, [(26, .invokevirtual 122, 3), (29, .iconst 0, 1), (30, .invokevirtual 129, 3), (33, .iconst (-1), 1), (34, .if_icmp .eq 9, 3), (37, .aload_n 0, 1), (38, .iconst 3, 1), (39, .invokevirtual 36, 3), (42, .ireturn, 1), (43, .aload_n 1, 1), (44, .getfield 133, 3), (47, .iload_n 3, 1), (48, .if_icmp .lt 11, 3), (51, .aload_n 0, 1)]), (65, [(52, .iconst 4, 1), (53, .invokevirtual 36, 3), (56, .ifCond .eq 7, 3), (59, .iconst 1, 1), (60, .goto 4, 3), (63, .iconst 0, 1), (64, .ireturn, 1)])]
theorem ftX6_isNewName_ok : zk_ftb cX6_isNewName ftX6_isNewName = true := by decide +kernel
def qcX6_isNewName : zQ := ((5, 5), ([(2, 1, 0), (2, 2, 0), (2, 3, 0), (0, 4, 0)], ([(0, 0, 0), (4, 8, 40)], [], [], []), ([(1, 34), (2, 31), (3, 32)], [], [], [], [], [])), [(some (0, 0, 0), ([(0, 0, 0)], [], [], []), ([], [], [], [], [], [])), (some (0, 0, 1), ([(0, 0, 0)], [], [], []), ([], [], [], [], [], []))], ([(34, 1), (34, 2)], []), (0, 0))
def mcX6_isNewName : zM := (yX6_isNewName, cX6_isNewName, 4, (some .boolean), { frames := 3, cells := 0, slots := 0, locals := 64 }, qcX6_isNewName)
def hcX6_isNewName : zH := ([], [], [], [], ([], 0, 0), 1)
theorem jcX6_isNewName : zk_txok RX6 hcX6_isNewName.2.2.2.2.1 := zk_txb_ok (p := (0, 0)) (by decide +kernel)
def xcX6_isNewName : List zX := [(36, 2, 6, mcX6_fail), (122, 2, 7, mcX7_keyOf), (129, 2, 4, mcX4_find)]
theorem wcX6_isNewName : zk_hwsb zcl RX6 mcX6_isNewName.rm xcX6_isNewName [(623, 77, 620, 622, 5), (690, 78, 687, 688, 689), (697, 79, 694, 695, 696)] = true := by decide +kernel
theorem icX6_isNewName : zk_idb zcl RX6 6 false mcX6_isNewName = true := by decide +kernel
theorem ecX6_isNewName : zk_run zcl zft zTT zPF zPB zSUf zLX6 6 false mcX6_isNewName ftX6_isNewName hcX6_isNewName zULf xcX6_isNewName 27 = true := by decide +kernel
theorem gcX6_isNewName {D : zD} {l : Launch} (hD : zWD D) : zCs D l xcX6_isNewName := ⟨tcX6_fail hD, tcX7_keyOf hD, tcX4_find hD, trivial⟩
theorem tcX6_isNewName {D : zD} {l : Launch} (hD : zWD D) : zC D l mcX6_isNewName := zk_methC ⟨rfl, rfl⟩ hD poolX6 icX6_isNewName jcX6_isNewName ftX6_isNewName_ok (gcX6_isNewName hD) wcX6_isNewName ecX6_isNewName
