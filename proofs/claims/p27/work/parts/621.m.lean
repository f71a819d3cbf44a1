/-! METHODS (printed by wip/t6) -/
def ftX5_doLine : List (Nat × List (Nat × Instr × Nat)) := [(21, [(0, .aload_n 1, 1), (1, .getfield 30, 3), (4, .iload_n 2, 1), (5, .iaload, 1), (6, .istore_n 3, 1), (7, .aload_n 1, 1), (8, .getfield 36, 3), (11, .iload_n 2, 1), (12, .iaload, 1), (13, .istore 4, 2), (15, .aload_n 0, 1), (16, .getfield 11, 3), (19, .iload_n 3, 1), (20, .aaload, 1)]), (44, [(21, .astore 5, 2), (23, .aload 5, 2), (25, .getfield 39, 3), (28, .aload_n 1, 1), (29, .getfield 43, 3), (32, .iload_n 2, 1), (33, .iaload, 1), (34, .aaload, 1), (35, .astore 6, 2), (37, .aload_n 1, 1), (38, .getfield 46, 3), (41, .iload_n 2, 1), (42, .iaload, 1), (43, .tableswitch 161 0 7 #[45, 55, 66, 74, 97, 106, 119, 137], 45)]), (118, [(88, .aload_n 0, 1), (89, .iload_n 3, 1), (90, .aload 6, 2), (92, .invokevirtual 49, 3), (95, .goto 109, 3), (98, .aload_n 0, 1), (99, .aload 5, 2), (101, .aload 6, 2), (103, .invokevirtual 53, 3), (106, .goto 98, 3), (109, .aload 6, 2), (111, .invokevirtual 57, 3), (114, .goto 90, 3), (117, .aload_n 0, 1)]), (141, [(118, .aload 6, 2), (120, .aload_n 0, 1), (121, .getfield 11, 3), (124, .iconst 1, 1), (125, .iload_n 3, 1), (126, .isub, 1), (127, .aaload, 1), (128, .aload_n 1, 1), (129, .getfield 43, 3), (132, .iload_n 2, 1), (133, .iaload, 1), (134, .invokevirtual 62, 3), (137, .goto 67, 3), (140, .aload 6, 2)]), (169, [(142, .iconst 1, 1), (143, .putfield 66, 3), (146, .goto 58, 3), (149, .aload_n 0, 1), (150, .aload 5, 2), (152, .aload 6, 2), (154, .iload 4, 2), (156, .invokevirtual 70, 3), (159, .goto 45, 3), (162, .aload_n 0, 1), (163, .iload_n 3, 1), (164, .aload 6, 2), (166, .aload 5, 2), (168, .getfield 39, 3)]), (197, [(171, .iload 4, 2), (173, .aaload, 1), (174, .invokevirtual 74, 3), (177, .goto 27, 3), (180, .aload_n 0, 1), (181, .iload_n 3, 1), (182, .aload 6, 2), (184, .aload 5, 2), (186, .getfield 39, 3), (189, .iload 4, 2), (191, .aaload, 1), (192, .invokevirtual 74, 3), (195, .aload_n 0, 1), (196, .aload 5, 2)]), (205, [(198, .invokevirtual 78, 3), (201, .goto 3, 3), (204, .return_, 1)])]
theorem ftX5_doLine_ok : zk_ftb cX5_doLine ftX5_doLine = true := by decide +kernel
def qcX5_doLine_39_33 : zQ := ((4, 4), ([(2, 1, 0), (2, 2, 0), (0, 3, 0)], ([(0, 0, 0), (3, 0, 29)], [], [], []), ([(1, 39), (2, 33)], [], [], [], [], [(100, []), (150, [])])), [(none, ([(0, 0, 0)], [], [], []), ([], [], [], [], [], [(100, []), (150, [])]))], ([(36, 1), (36, 2), (36, 3), (36, 4), (37, 9), (37, 10), (37, 11), (37, 12), (37, 13), (39, 2), (39, 3)], [59, 63]), (0, 0))
def mcX5_doLine_39_33 : zM := (yX5_doLine, cX5_doLine, 7, none, { frames := 4, cells := 0, slots := 0, locals := 83 }, qcX5_doLine_39_33)
def hcX5_doLine_39_33 : zH := ([], [], [(162, [(9, 20, 0)]), (180, [(9, 20, 0)])], [], ([], 0, 0), 1)
theorem jcX5_doLine_39_33 : zk_txok RX5 hcX5_doLine_39_33.2.2.2.2.1 := zk_txb_ok (p := (0, 0)) (by decide +kernel)
def xcX5_doLine_39_33 : List zX := [(49, 2, 5, mcX5_make_39_36), (53, 2, 5, mcX5_turn_39_37_36), (57, 2, 2, mcX2_mix), (62, 2, 5, mcX5_send_39_36_37), (70, 2, 5, mcX5_pad_39_37_36), (74, 2, 5, mcX5_meet_39_36_36), (78, 2, 5, mcX5_sum_39_37)]
theorem wcX5_doLine_39_33 : zk_hwsb zcl RX5 mcX5_doLine_39_33.rm xcX5_doLine_39_33 [(892, 82, 889, 891, 20), (904, 82, 901, 903, 21), (909, 84, 906, 907, 908), (913, 82, 910, 912, 22), (931, 82, 928, 930, 23), (943, 82, 940, 942, 24), (951, 82, 948, 950, 25)] = true := by decide +kernel
theorem icX5_doLine_39_33 : zk_idb zcl RX5 5 false mcX5_doLine_39_33 = true := by decide +kernel
theorem ecX5_doLine_39_33 : zk_run zcl zft zTT zPF zPB zSUf zLX5 5 false mcX5_doLine_39_33 ftX5_doLine hcX5_doLine_39_33 zULf xcX5_doLine_39_33 45 = true := by decide +kernel
theorem gcX5_doLine_39_33 {D : zD} {l : Launch} (hD : zWD D) : zCs D l xcX5_doLine_39_33 := ⟨tcX5_make_39_36 hD, tcX5_turn_39_37_36 hD, tcX2_mix hD, tcX5_send_39_36_37 hD, tcX5_pad_39_37_36 hD, tcX5_meet_39_36_36 hD, tcX5_sum_39_37 hD, trivial⟩
theorem tcX5_doLine_39_33 {D : zD} {l : Launch} (hD : zWD D) : zC D l mcX5_doLine_39_33 := zk_methC ⟨rfl, rfl⟩ hD poolX5 icX5_doLine_39_33 jcX5_doLine_39_33 ftX5_doLine_ok (gcX5_doLine_39_33 hD) wcX5_doLine_39_33 ecX5_doLine_39_33
def ftX3_start : List (Nat × List (Nat × Instr × Nat)) := [(22, [(0, .aload_n 0, 1), (1, .aload_n 0, 1), (2, .getfield 54, 3), (5, .i2l, 1), (6, .putfield 57, 3), (9, .aload_n 0, 1), (10, .iconst 0, 1), (11, .putfield 61, 3), (14, .aload_n 0, 1), (15, .iconst 0, 1), (16, .putfield 64, 3), (19, .aload_n 0, 1), (20, .iconst (-1), 1), (21, .putfield 67, 3)]), (35, [(24, .aload_n 0, 1), (25, .iconst 0, 1), (26, .putfield 70, 3), (29, .aload_n 0, 1), (30, .lconst 0, 1), (31, .putfield 73, 3), (34, .return_, 1)])]
theorem ftX3_start_ok : zk_ftb cX3_start ftX3_start = true := by decide +kernel
def qcX3_start_37 : zQ := ((2, 2), ([(2, 1, 0)], ([(0, 0, 0)], [], [], []), ([(1, 37)], [], [], [], [], [(150, [])])), [(none, ([(0, 0, 0)], [], [], []), ([], [], [], [], [], [(150, [])]))], ([(37, 5), (37, 9), (37, 10), (37, 11), (37, 12), (37, 13)], []), (0, 0))
def mcX3_start_37 : zM := (yX3_start, cX3_start, 1, none, { frames := 1, cells := 0, slots := 0, locals := 12 }, qcX3_start_37)
def hcX3_start_37 : zH := ([], [], [], [], ([], 0, 0), 1)
theorem jcX3_start_37 : zk_txok RX3 hcX3_start_37.2.2.2.2.1 := zk_txb_ok (p := (0, 0)) (by decide +kernel)
def xcX3_start_37 : List zX := []
theorem wcX3_start_37 : zk_hwsb zcl RX3 mcX3_start_37.rm xcX3_start_37 [] = true := by decide +kernel
theorem icX3_start_37 : zk_idb zcl RX3 3 false mcX3_start_37 = true := by decide +kernel
theorem ecX3_start_37 : zk_run zcl zft zTT zPF zPB zSUf zLX3 3 false mcX3_start_37 ftX3_start hcX3_start_37 zULf xcX3_start_37 23 = true := by decide +kernel
theorem gcX3_start_37 {D : zD} {l : Launch} (hD : zWD D) : zCs D l xcX3_start_37 := trivial
theorem tcX3_start_37 {D : zD} {l : Launch} (hD : zWD D) : zC D l mcX3_start_37 := zk_methC ⟨rfl, rfl⟩ hD poolX3 icX3_start_37 jcX3_start_37 ftX3_start_ok (gcX3_start_37 hD) wcX3_start_37 ecX3_start_37
def ftX5_start : List (Nat × List (Nat × Instr × Nat)) := [(22, [(0, .aload_n 0, 1), (1, .iload_n 1, 1), (2, .putfield 17, 3), (5, .aload_n 0, 1), (6, .iconst 0, 1), (7, .putfield 21, 3), (10, .aload_n 0, 1), (11, .iconst 0, 1), (12, .putfield 24, 3), (15, .aload_n 0, 1), (16, .getfield 11, 3), (19, .iconst 0, 1), (20, .aaload, 1), (21, .invokevirtual 27, 3)]), (34, [(24, .aload_n 0, 1), (25, .getfield 11, 3), (28, .iconst 1, 1), (29, .aaload, 1), (30, .invokevirtual 27, 3), (33, .return_, 1)])]
theorem ftX5_start_ok : zk_ftb cX5_start ftX5_start = true := by decide +kernel
def qcX5_start_39 : zQ := ((3, 3), ([(2, 1, 0), (0, 2, 0)], ([(0, 0, 0), (2, 5, 2147483647)], [], [], []), ([(1, 39)], [], [], [], [], [(150, [])])), [(none, ([(0, 0, 0)], [], [], []), ([], [], [], [], [], [(150, [])]))], ([(37, 5), (37, 9), (37, 10), (37, 11), (37, 12), (37, 13), (39, 1), (39, 2), (39, 3)], []), (0, 0))
def mcX5_start_39 : zM := (yX5_start, cX5_start, 2, none, { frames := 2, cells := 0, slots := 0, locals := 32 }, qcX5_start_39)
def hcX5_start_39 : zH := ([], [], [], [], ([], 0, 0), 1)
theorem jcX5_start_39 : zk_txok RX5 hcX5_start_39.2.2.2.2.1 := zk_txb_ok (p := (0, 0)) (by decide +kernel)
def xcX5_start_39 : List zX := [(27, 2, 3, mcX3_start_37)]
theorem wcX5_start_39 : zk_hwsb zcl RX5 mcX5_start_39.rm xcX5_start_39 [(884, 83, 881, 882, 883)] = true := by decide +kernel
theorem icX5_start_39 : zk_idb zcl RX5 5 false mcX5_start_39 = true := by decide +kernel
theorem ecX5_start_39 : zk_run zcl zft zTT zPF zPB zSUf zLX5 5 false mcX5_start_39 ftX5_start hcX5_start_39 zULf xcX5_start_39 22 = true := by decide +kernel
theorem gcX5_start_39 {D : zD} {l : Launch} (hD : zWD D) : zCs D l xcX5_start_39 := ⟨tcX3_start_37 hD, trivial⟩
theorem tcX5_start_39 {D : zD} {l : Launch} (hD : zWD D) : zC D l mcX5_start_39 := zk_methC ⟨rfl, rfl⟩ hD poolX5 icX5_start_39 jcX5_start_39 ftX5_start_ok (gcX5_start_39 hD) wcX5_start_39 ecX5_start_39
def ftX11_run : List (Nat × List (Nat × Instr × Nat)) := [(25, [(0, .aload_n 0, 1), (1, .getfield 45, 3), (4, .getfield 147, 3), (7, .ifCond .ne 6, 3), (10, .bipush (-4), 2), (12, .ireturn, 1), (13, .iconst 0, 1), (14, .istore_n 1, 1), (15, .iload_n 1, 1), (16, .iconst 2, 1), (17, .if_icmp .ge 37, 3), (20, .aload_n 0, 1), (21, .getfield 80, 3), (24, .getfield 212, 3)]), (49, [(27, .iload_n 1, 1), (28, .aaload, 1), (29, .aload_n 0, 1), (30, .getfield 38, 3), (33, .iload_n 1, 1), (34, .aaload, 1), (35, .aload_n 0, 1), (36, .getfield 63, 3), (39, .iload_n 1, 1), (40, .iaload, 1), (41, .aload_n 0, 1), (42, .getfield 52, 3), (45, .invokevirtual 216, 3), (48, .iinc 1 1, 3)]), (79, [(51, .goto (-36), 3), (54, .aload_n 0, 1), (55, .getfield 80, 3), (58, .aload_n 0, 1), (59, .getfield 52, 3), (62, .invokevirtual 220, 3), (65, .iconst 0, 1), (66, .istore_n 1, 1), (67, .iload_n 1, 1), (68, .aload_n 0, 1), (69, .getfield 45, 3), (72, .getfield 147, 3), (75, .if_icmp .ge 21, 3), (78, .aload_n 0, 1)]), (107, [(79, .getfield 80, 3), (82, .aload_n 0, 1), (83, .getfield 45, 3), (86, .iload_n 1, 1), (87, .invokevirtual 223, 3), (90, .iinc 1 1, 3), (93, .goto (-26), 3), (96, .aload_n 0, 1), (97, .iconst 1, 1), (98, .putfield 93, 3), (101, .aload_n 0, 1), (102, .invokevirtual 140, 3), (105, .aload_n 0, 1), (106, .getfield 45, 3)]), (113, [(109, .getfield 147, 3), (112, .ireturn, 1)])]
theorem ftX11_run_ok : zk_ftb cX11_run ftX11_run = true := by decide +kernel
def qcX11_run : zQ := ((2, 3), ([(2, 1, 0)], ([(0, 0, 0)], [], [], []), ([(1, 42)], [], [], [], [], [(100, []), (150, [])])), [(some (0, 0, (-4)), ([(0, 0, 0)], [], [], []), ([], [], [], [], [], [(100, []), (150, [])])), (some (0, 2, 0), ([(0, 0, 0), (2, 1, 30)], [], [], []), ([], [], [], [], [], [(100, []), (150, [])]))], ([(36, 1), (36, 2), (36, 3), (36, 4), (37, 5), (37, 6), (37, 8), (37, 9), (37, 10), (37, 11), (37, 12), (37, 13), (39, 1), (39, 2), (39, 3), (41, 4), (42, 13)], [59, 60, 61, 63]), (0, 0))
def mcX11_run : zM := (yX11_run, cX11_run, 2, (some .int), { frames := 5, cells := 0, slots := 0, locals := 109 }, qcX11_run)
def hcX11_run : zH := ([(15, [([(0, (2, 1, 0)), (1, (0, 2, 0))], [], ([(0, 0, 0), (2, 0, 2), (4, 1, 30)], [], [], []), ([(3, 33), (1, 42)], [(1, 11, 5, (2, 3, 0)), (3, 10, 6, (0, 4, 0))], [], [], [], [(100, []), (150, [])]), (5, ([(2, (-1))], 33), 0, 0))]), (67, [([(0, (2, 1, 0)), (1, (0, 2, 0))], [], ([(0, 0, 0), (2, 0, 30), (3, 5, 2147483647), (6, 1, 30)], [(2, 6, 0)], [], []), ([(4, 39), (5, 33), (1, 42)], [(1, 11, 7, (0, 3, 0)), (1, 11, 11, (2, 4, 0)), (1, 11, 5, (2, 5, 0)), (5, 10, 6, (0, 6, 0))], [], [], [], [(150, []), (100, [])]), (7, ([(2, (-1))], 30), 0, 0))])], [], [], [], ([], 0, 0), 61)
theorem jcX11_run : zk_txok RX11 hcX11_run.2.2.2.2.1 := zk_txb_ok (p := (0, 0)) (by decide +kernel)
def xcX11_run : List zX := [(140, 2, 11, mcX11_forgetAgreements), (216, 2, 3, mcX3_load_37_31), (220, 2, 5, mcX5_start_39), (223, 2, 5, mcX5_doLine_39_33)]
theorem wcX11_run : zk_hwsb zcl RX11 mcX11_run.rm xcX11_run [(725, 75, 722, 724, 15), (875, 83, 872, 873, 874), (880, 82, 877, 878, 879), (888, 82, 885, 886, 887)] = true := by decide +kernel
theorem icX11_run : zk_idb zcl RX11 11 false mcX11_run = true := by decide +kernel
theorem ecX11_run : zk_run zcl zft zTT zPF zPB zSUf zLX11 11 false mcX11_run ftX11_run hcX11_run zULf xcX11_run 23 = true := by decide +kernel
theorem gcX11_run {D : zD} {l : Launch} (hD : zWD D) : zCs D l xcX11_run := ⟨tcX11_forgetAgreements hD, tcX3_load_37_31 hD, tcX5_start_39 hD, tcX5_doLine_39_33 hD, trivial⟩
theorem tcX11_run {D : zD} {l : Launch} (hD : zWD D) : zC D l mcX11_run := zk_methC ⟨rfl, rfl⟩ hD poolX11 icX11_run jcX11_run ftX11_run_ok (gcX11_run hD) wcX11_run ecX11_run
def ftX11_out : List (Nat × List (Nat × Instr × Nat)) := [(28, [(0, .iload_n 1, 1), (1, .invokestatic 123, 3), (4, .ifCond .ne 6, 3), (7, .bipush (-2), 2), (9, .ireturn, 1), (10, .aload_n 0, 1), (11, .getfield 93, 3), (14, .ifCond .ne 6, 3), (17, .bipush (-4), 2), (19, .ireturn, 1), (20, .aload_n 0, 1), (21, .getfield 80, 3), (24, .getfield 212, 3), (27, .iload_n 1, 1)]), (52, [(28, .aaload, 1), (29, .astore_n 3, 1), (30, .iload_n 2, 1), (31, .ifCond .ne 20, 3), (34, .aload_n 3, 1), (35, .getfield 227, 3), (38, .iconst (-1), 1), (39, .if_icmp .ne 7, 3), (42, .iconst (-1), 1), (43, .goto 7, 3), (46, .aload_n 3, 1), (47, .getfield 230, 3), (50, .ireturn, 1), (51, .iload_n 2, 1)]), (77, [(52, .iconst 1, 1), (53, .if_icmp .ne 8, 3), (56, .aload_n 3, 1), (57, .getfield 227, 3), (60, .ireturn, 1), (61, .iload_n 2, 1), (62, .bipush 10, 2), (64, .if_icmp .lt 11, 3), (67, .aload_n 3, 1), (68, .getfield 227, 3), (71, .iconst 1, 1), (72, .if_icmp .eq 5, 3), (75, .iconst (-1), 1), (76, .ireturn, 1)]), (101, [(77, .iload_n 2, 1), (78, .bipush 10, 2), (80, .isub, 1), (81, .istore 4, 2), (83, .iload 4, 2), (85, .aload_n 3, 1), (86, .getfield 233, 3), (89, .if_icmp .ge 16, 3), (92, .aload_n 3, 1), (93, .getfield 236, 3), (96, .iload 4, 2), (98, .lushr, 1), (99, .lconst 1, 1), (100, .land, 1)]), (107, [(101, .l2i, 1), (102, .goto 4, 3), (105, .iconst (-1), 1), (106, .ireturn, 1)])]
theorem ftX11_out_ok : zk_ftb cX11_out ftX11_out = true := by decide +kernel
def qcX11_out : zQ := ((4, 5), ([(2, 1, 0), (0, 2, 0), (0, 3, 0)], ([(0, 0, 0), (2, (-2147483648), 2147483647), (3, (-2147483648), 2147483647)], [], [], []), ([(1, 42)], [], [], [], [], [])), [(some (0, 0, (-1)), ([(0, 0, 0), (2, 0, 1)], [], [], []), ([], [], [], [], [], [])), (some (0, 0, (-2)), ([(0, 0, 0)], [], [], []), ([], [], [], [], [], [])), (some (0, 0, (-4)), ([(0, 0, 0), (2, 0, 1)], [], [], []), ([], [], [], [], [], [])), (some (0, 4, 0), ([(0, 0, 0), (4, (-2147483648), 2147483647), (2, 0, 1), (3, 0, 49)], [], [], []), ([], [], [], [], [], []))], ([], []), (0, 0))
def mcX11_out : zM := (yX11_out, cX11_out, 5, (some .int), { frames := 2, cells := 0, slots := 0, locals := 32 }, qcX11_out)
def hcX11_out : zH := ([], [], [], [], ([], 0, 0), 1)
theorem jcX11_out : zk_txok RX11 hcX11_out.2.2.2.2.1 := zk_txb_ok (p := (0, 0)) (by decide +kernel)
def xcX11_out : List zX := [(123, 0, 0, mcX11_isSide)]
theorem wcX11_out : zk_hwsb zcl RX11 mcX11_out.rm xcX11_out [(673, 75, 671, 672, 0)] = true := by decide +kernel
theorem icX11_out : zk_idb zcl RX11 11 false mcX11_out = true := by decide +kernel
theorem ecX11_out : zk_run zcl zft zTT zPF zPB zSUf zLX11 11 false mcX11_out ftX11_out hcX11_out zULf xcX11_out 43 = true := by decide +kernel
theorem gcX11_out {D : zD} {l : Launch} (hD : zWD D) : zCs D l xcX11_out := ⟨tcX11_isSide hD, trivial⟩
theorem tcX11_out {D : zD} {l : Launch} (hD : zWD D) : zC D l mcX11_out := zk_methC ⟨rfl, rfl⟩ hD poolX11 icX11_out jcX11_out ftX11_out_ok (gcX11_out hD) wcX11_out ecX11_out
def ftX11_saw : List (Nat × List (Nat × Instr × Nat)) := [(27, [(0, .iload_n 1, 1), (1, .invokestatic 123, 3), (4, .ifCond .eq 10, 3), (7, .aload_n 0, 1), (8, .getfield 93, 3), (11, .ifCond .ne 6, 3), (14, .bipush (-9), 2), (16, .ireturn, 1), (17, .aload_n 0, 1), (18, .getfield 80, 3), (21, .getfield 212, 3), (24, .iload_n 1, 1), (25, .aaload, 1), (26, .astore_n 3, 1)]), (52, [(27, .iload_n 2, 1), (28, .iconst (-1), 1), (29, .if_icmp .ne 8, 3), (32, .aload_n 3, 1), (33, .getfield 239, 3), (36, .ireturn, 1), (37, .iload_n 2, 1), (38, .ifCond .lt 11, 3), (41, .iload_n 2, 1), (42, .aload_n 3, 1), (43, .getfield 239, 3), (46, .if_icmp .lt 8, 3), (49, .bipush (-9), 2), (51, .goto 9, 3)]), (61, [(54, .aload_n 3, 1), (55, .getfield 242, 3), (58, .iload_n 2, 1), (59, .iaload, 1), (60, .ireturn, 1)])]
theorem ftX11_saw_ok : zk_ftb cX11_saw ftX11_saw = true := by decide +kernel
def qcX11_saw : zQ := ((4, 5), ([(2, 1, 0), (0, 2, 0), (0, 3, 0)], ([(0, 0, 0), (2, (-2147483648), 2147483647), (3, (-2147483648), 2147483647)], [], [], []), ([(1, 42)], [], [], [], [], [])), [(some (0, 0, (-9)), ([(0, 0, 0)], [], [], []), ([], [], [], [], [], [])), (some (0, 4, 0), ([(0, 0, 0), (4, (-2147483648), 2147483647), (2, 0, 1), (3, (-1), 1829)], [], [], []), ([], [], [], [], [], []))], ([], []), (0, 0))
def mcX11_saw : zM := (yX11_saw, cX11_saw, 4, (some .int), { frames := 2, cells := 0, slots := 0, locals := 32 }, qcX11_saw)
def hcX11_saw : zH := ([], [], [], [], ([], 0, 0), 1)
theorem jcX11_saw : zk_txok RX11 hcX11_saw.2.2.2.2.1 := zk_txb_ok (p := (0, 0)) (by decide +kernel)
def xcX11_saw : List zX := [(123, 0, 0, mcX11_isSide)]
theorem wcX11_saw : zk_hwsb zcl RX11 mcX11_saw.rm xcX11_saw [(673, 75, 671, 672, 0)] = true := by decide +kernel
theorem icX11_saw : zk_idb zcl RX11 11 false mcX11_saw = true := by decide +kernel
theorem ecX11_saw : zk_run zcl zft zTT zPF zPB zSUf zLX11 11 false mcX11_saw ftX11_saw hcX11_saw zULf xcX11_saw 28 = true := by decide +kernel
theorem gcX11_saw {D : zD} {l : Launch} (hD : zWD D) : zCs D l xcX11_saw := ⟨tcX11_isSide hD, trivial⟩
theorem tcX11_saw {D : zD} {l : Launch} (hD : zWD D) : zC D l mcX11_saw := zk_methC ⟨rfl, rfl⟩ hD poolX11 icX11_saw jcX11_saw ftX11_saw_ok (gcX11_saw hD) wcX11_saw ecX11_saw
def ftX11_cost : List (Nat × List (Nat × Instr × Nat)) := [(23, [(0, .iload_n 1, 1), (1, .ifCond .eq 10, 3), (4, .iload_n 1, 1), (5, .iconst 1, 1), (6, .if_icmp .eq 5, 3), (9, .iconst (-1), 1), (10, .ireturn, 1), (11, .aload_n 0, 1), (12, .getfield 93, 3), (15, .ifCond .ne 6, 3), (18, .bipush (-4), 2), (20, .ireturn, 1), (21, .iload_n 1, 1), (22, .ifCond .ne 13, 3)]), (43, [(25, .aload_n 0, 1), (26, .getfield 80, 3), (29, .getfield 245, 3), (32, .goto 10, 3), (35, .aload_n 0, 1), (36, .getfield 80, 3), (39, .getfield 248, 3), (42, .ireturn, 1)])]
theorem ftX11_cost_ok : zk_ftb cX11_cost ftX11_cost = true := by decide +kernel
def qcX11_cost : zQ := ((3, 4), ([(2, 1, 0), (0, 2, 0)], ([(0, 0, 0), (2, (-2147483648), 2147483647)], [], [], []), ([(1, 42)], [], [], [], [], [])), [(some (0, 0, (-1)), ([(0, 0, 0)], [], [], []), ([], [], [], [], [], [])), (some (0, 0, (-4)), ([(0, 0, 0), (2, 0, 1)], [], [], []), ([], [], [], [], [], [])), (some (0, 3, 0), ([(0, 0, 0), (3, (-2147483648), 2147483647), (2, 0, 1)], [], [], []), ([], [], [], [], [], []))], ([], []), (0, 0))
def mcX11_cost : zM := (yX11_cost, cX11_cost, 2, (some .int), { frames := 1, cells := 0, slots := 0, locals := 12 }, qcX11_cost)
def hcX11_cost : zH := ([], [], [], [], ([], 0, 0), 1)
theorem jcX11_cost : zk_txok RX11 hcX11_cost.2.2.2.2.1 := zk_txb_ok (p := (0, 0)) (by decide +kernel)
def xcX11_cost : List zX := []
theorem wcX11_cost : zk_hwsb zcl RX11 mcX11_cost.rm xcX11_cost [] = true := by decide +kernel
theorem icX11_cost : zk_idb zcl RX11 11 false mcX11_cost = true := by decide +kernel
theorem ecX11_cost : zk_run zcl zft zTT zPF zPB zSUf zLX11 11 false mcX11_cost ftX11_cost hcX11_cost zULf xcX11_cost 16 = true := by decide +kernel
theorem gcX11_cost {D : zD} {l : Launch} (hD : zWD D) : zCs D l xcX11_cost := trivial
theorem tcX11_cost {D : zD} {l : Launch} (hD : zWD D) : zC D l mcX11_cost := zk_methC ⟨rfl, rfl⟩ hD poolX11 icX11_cost jcX11_cost ftX11_cost_ok (gcX11_cost hD) wcX11_cost ecX11_cost
def ftX0_agreeingLists : List (Nat × List (Nat × Instr × Nat)) := [(22, [(0, .iconst 0, 1), (1, .istore_n 1, 1), (2, .iconst 0, 1), (3, .istore_n 2, 1), (4, .iload_n 2, 1), (5, .aload_n 0, 1), (6, .getfield 75, 3), (9, .if_icmp .ge 21, 3), (12, .aload_n 0, 1), (13, .getfield 9, 3), (16, .iload_n 2, 1), (17, .iaload, 1), (18, .ifCond .le 6, 3), (21, .iinc 1 1, 3)]), (32, [(24, .iinc 2 1, 3), (27, .goto (-23), 3), (30, .iload_n 1, 1), (31, .ireturn, 1)])]
theorem ftX0_agreeingLists_ok : zk_ftb cX0_agreeingLists ftX0_agreeingLists = true := by decide +kernel
def qcX0_agreeingLists : zQ := ((2, 3), ([(2, 1, 0)], ([(0, 0, 0)], [], [], []), ([(1, 41)], [], [], [], [], [])), [(some (0, 2, 0), ([(0, 0, 0), (2, (-2147483648), 2147483647)], [], [], []), ([], [], [], [], [], []))], ([], []), (0, 0))
def mcX0_agreeingLists : zM := (yX0_agreeingLists, cX0_agreeingLists, 3, (some .int), { frames := 1, cells := 0, slots := 0, locals := 12 }, qcX0_agreeingLists)
def hcX0_agreeingLists : zH := ([(4, [([(0, (2, 1, 0)), (1, (0, 2, 0)), (2, (0, 3, 0))], [], ([(0, 0, 0), (3, 0, 256)], [], [], []), ([(1, 41)], [], [], [], [], []), (4, ([(3, (-1))], 256), 0, 0))])], [], [(31, [(3, 0, 0)])], [], ([], 0, 0), 513)
theorem jcX0_agreeingLists : zk_txok RX0 hcX0_agreeingLists.2.2.2.2.1 := zk_txb_ok (p := (0, 0)) (by decide +kernel)
def xcX0_agreeingLists : List zX := []
theorem wcX0_agreeingLists : zk_hwsb zcl RX0 mcX0_agreeingLists.rm xcX0_agreeingLists [] = true := by decide +kernel
theorem icX0_agreeingLists : zk_idb zcl RX0 0 false mcX0_agreeingLists = true := by decide +kernel
theorem ecX0_agreeingLists : zk_run zcl zft zTT zPF zPB zSUf zLX0 0 false mcX0_agreeingLists ftX0_agreeingLists hcX0_agreeingLists zULf xcX0_agreeingLists 14 = true := by decide +kernel
theorem gcX0_agreeingLists {D : zD} {l : Launch} (hD : zWD D) : zCs D l xcX0_agreeingLists := trivial
theorem tcX0_agreeingLists {D : zD} {l : Launch} (hD : zWD D) : zC D l mcX0_agreeingLists := zk_methC ⟨rfl, rfl⟩ hD poolX0 icX0_agreeingLists jcX0_agreeingLists ftX0_agreeingLists_ok (gcX0_agreeingLists hD) wcX0_agreeingLists ecX0_agreeingLists
def ftX0_leastList : List (Nat × List (Nat × Instr × Nat)) := [(22, [(0, .iconst 0, 1), (1, .istore_n 1, 1), (2, .iload_n 1, 1), (3, .aload_n 0, 1), (4, .getfield 75, 3), (7, .if_icmp .ge 20, 3), (10, .aload_n 0, 1), (11, .getfield 9, 3), (14, .iload_n 1, 1), (15, .iaload, 1), (16, .ifCond .le 5, 3), (19, .iload_n 1, 1), (20, .ireturn, 1), (21, .iinc 1 1, 3)]), (29, [(24, .goto (-22), 3), (27, .iconst (-1), 1), (28, .ireturn, 1)])]
theorem ftX0_leastList_ok : zk_ftb cX0_leastList ftX0_leastList = true := by decide +kernel
def qcX0_leastList : zQ := ((2, 3), ([(2, 1, 0)], ([(0, 0, 0)], [], [], []), ([(1, 41)], [], [], [], [], [])), [(some (0, 0, (-1)), ([(0, 0, 0)], [], [], []), ([], [], [], [], [], [])), (some (0, 2, 0), ([(0, 0, 0), (2, 0, 255)], [], [], []), ([], [], [], [], [], []))], ([], []), (0, 0))
def mcX0_leastList : zM := (yX0_leastList, cX0_leastList, 2, (some .int), { frames := 1, cells := 0, slots := 0, locals := 12 }, qcX0_leastList)
def hcX0_leastList : zH := ([(2, [([(0, (2, 1, 0)), (1, (0, 2, 0))], [], ([(0, 0, 0), (2, 0, 256)], [], [], []), ([(1, 41)], [], [], [], [], []), (3, ([(2, (-1))], 256), 0, 0))])], [], [], [], ([], 0, 0), 513)
theorem jcX0_leastList : zk_txok RX0 hcX0_leastList.2.2.2.2.1 := zk_txb_ok (p := (0, 0)) (by decide +kernel)
def xcX0_leastList : List zX := []
theorem wcX0_leastList : zk_hwsb zcl RX0 mcX0_leastList.rm xcX0_leastList [] = true := by decide +kernel
theorem icX0_leastList : zk_idb zcl RX0 0 false mcX0_leastList = true := by decide +kernel
theorem ecX0_leastList : zk_run zcl zft zTT zPF zPB zSUf zLX0 0 false mcX0_leastList ftX0_leastList hcX0_leastList zULf xcX0_leastList 13 = true := by decide +kernel
theorem gcX0_leastList {D : zD} {l : Launch} (hD : zWD D) : zCs D l xcX0_leastList := trivial
theorem tcX0_leastList {D : zD} {l : Launch} (hD : zWD D) : zC D l mcX0_leastList := zk_methC ⟨rfl, rfl⟩ hD poolX0 icX0_leastList jcX0_leastList ftX0_leastList_ok (gcX0_leastList hD) wcX0_leastList ecX0_leastList
def ftX0_isEven : List (Nat × List (Nat × Instr × Nat)) := [(22, [(0, .aload_n 0, 1), (1, .invokevirtual 123, 3), (4, .istore_n 1, 1), (5, .iconst 0, 1), (6, .istore_n 2, 1), (7, .iload_n 2, 1), (8, .aload_n 0, 1), (9, .getfield 75, 3), (12, .if_icmp .ge 40, 3), (15, .iload_n 1, 1), (16, .iconst (-1), 1), (17, .if_icmp .eq 35, 3), (20, .aload_n 0, 1), (21, .getfield 9, 3)]), (46, [(24, .iload_n 2, 1), (25, .iaload, 1), (26, .ifCond .le 20, 3), (29, .aload_n 0, 1), (30, .getfield 9, 3), (33, .iload_n 2, 1), (34, .iaload, 1), (35, .aload_n 0, 1), (36, .getfield 9, 3), (39, .iload_n 1, 1), (40, .iaload, 1), (41, .if_icmp .eq 5, 3), (44, .iconst 0, 1), (45, .ireturn, 1)]), (54, [(46, .iinc 2 1, 3), (49, .goto (-42), 3), (52, .iconst 1, 1), (53, .ireturn, 1)])]
theorem ftX0_isEven_ok : zk_ftb cX0_isEven ftX0_isEven = true := by decide +kernel
def qcX0_isEven : zQ := ((2, 2), ([(2, 1, 0)], ([(0, 0, 0)], [], [], []), ([(1, 41)], [], [], [], [], [])), [(some (0, 0, 0), ([(0, 0, 0)], [], [], []), ([], [], [], [], [], [])), (some (0, 0, 1), ([(0, 0, 0)], [], [], []), ([], [], [], [], [], []))], ([], []), (0, 0))
def mcX0_isEven : zM := (yX0_isEven, cX0_isEven, 3, (some .boolean), { frames := 2, cells := 0, slots := 0, locals := 33 }, qcX0_isEven)
def hcX0_isEven : zH := ([(7, [([(0, (2, 1, 0)), (1, (0, 2, 0)), (2, (0, 3, 0))], [], ([(0, 0, 0), (2, (-1), 255), (3, 0, 256)], [], [], []), ([(1, 41)], [], [], [], [], []), (4, ([(3, (-1))], 256), 0, 0))])], [], [], [], ([], 0, 0), 513)
theorem jcX0_isEven : zk_txok RX0 hcX0_isEven.2.2.2.2.1 := zk_txb_ok (p := (0, 0)) (by decide +kernel)
def xcX0_isEven : List zX := [(123, 2, 0, mcX0_leastList)]
theorem wcX0_isEven : zk_hwsb zcl RX0 mcX0_isEven.rm xcX0_isEven [(1016, 85, 1013, 1014, 1015)] = true := by decide +kernel
theorem icX0_isEven : zk_idb zcl RX0 0 false mcX0_isEven = true := by decide +kernel
theorem ecX0_isEven : zk_run zcl zft zTT zPF zPB zSUf zLX0 0 false mcX0_isEven ftX0_isEven hcX0_isEven zULf xcX0_isEven 25 = true := by decide +kernel
theorem gcX0_isEven {D : zD} {l : Launch} (hD : zWD D) : zCs D l xcX0_isEven := ⟨tcX0_leastList hD, trivial⟩
theorem tcX0_isEven {D : zD} {l : Launch} (hD : zWD D) : zC D l mcX0_isEven := zk_methC ⟨rfl, rfl⟩ hD poolX0 icX0_isEven jcX0_isEven ftX0_isEven_ok (gcX0_isEven hD) wcX0_isEven ecX0_isEven
def ftX0_pairs : List (Nat × List (Nat × Instr × Nat)) := [(20, [(0, .iconst 0, 1), (1, .istore_n 1, 1), (2, .iconst 0, 1), (3, .istore_n 2, 1), (4, .iload_n 2, 1), (5, .aload_n 0, 1), (6, .getfield 75, 3), (9, .if_icmp .ge 18, 3), (12, .iload_n 1, 1), (13, .aload_n 0, 1), (14, .getfield 9, 3), (17, .iload_n 2, 1), (18, .iaload, 1), (19, .iadd, 1)]), (29, [(20, .istore_n 1, 1), (21, .iinc 2 1, 3), (24, .goto (-20), 3), (27, .iload_n 1, 1), (28, .ireturn, 1)])]
theorem ftX0_pairs_ok : zk_ftb cX0_pairs ftX0_pairs = true := by decide +kernel
def qcX0_pairs : zQ := ((2, 3), ([(2, 1, 0)], ([(0, 0, 0)], [], [], []), ([(1, 41)], [], [], [], [], [])), [(some (0, 2, 0), ([(0, 0, 0), (2, (-2147483648), 2147483647)], [], [], []), ([], [], [], [], [], []))], ([], []), (0, 0))
def mcX0_pairs : zM := (yX0_pairs, cX0_pairs, 3, (some .int), { frames := 1, cells := 0, slots := 0, locals := 12 }, qcX0_pairs)
def hcX0_pairs : zH := ([(4, [([(0, (2, 1, 0)), (1, (0, 2, 0)), (2, (0, 3, 0))], [], ([(0, 0, 0), (2, (-2147483648), 2147483647), (3, 0, 256)], [], [], []), ([(1, 41)], [], [], [], [], []), (4, ([(3, (-1))], 256), 0, 0))])], [], [], [], ([], 0, 0), 513)
theorem jcX0_pairs : zk_txok RX0 hcX0_pairs.2.2.2.2.1 := zk_txb_ok (p := (0, 0)) (by decide +kernel)
def xcX0_pairs : List zX := []
theorem wcX0_pairs : zk_hwsb zcl RX0 mcX0_pairs.rm xcX0_pairs [] = true := by decide +kernel
theorem icX0_pairs : zk_idb zcl RX0 0 false mcX0_pairs = true := by decide +kernel
theorem ecX0_pairs : zk_run zcl zft zTT zPF zPB zSUf zLX0 0 false mcX0_pairs ftX0_pairs hcX0_pairs zULf xcX0_pairs 15 = true := by decide +kernel
theorem gcX0_pairs {D : zD} {l : Launch} (hD : zWD D) : zCs D l xcX0_pairs := trivial
theorem tcX0_pairs {D : zD} {l : Launch} (hD : zWD D) : zC D l mcX0_pairs := zk_methC ⟨rfl, rfl⟩ hD poolX0 icX0_pairs jcX0_pairs ftX0_pairs_ok (gcX0_pairs hD) wcX0_pairs ecX0_pairs
def ftX10_onlyTells : List (Nat × List (Nat × Instr × Nat)) := [(24, [(0, .aload_n 0, 1), (1, .getfield 15, 3), (4, .iload_n 1, 1), (5, .iaload, 1), (6, .bipush 6, 2), (8, .if_icmp .eq 14, 3), (11, .aload_n 0, 1), (12, .getfield 15, 3), (15, .iload_n 1, 1), (16, .iaload, 1), (17, .bipush 7, 2), (19, .if_icmp .ne 7, 3), (22, .iconst 1, 1), (23, .goto 4, 3)]), (28, [(26, .iconst 0, 1), (27, .ireturn, 1)])]
theorem ftX10_onlyTells_ok : zk_ftb cX10_onlyTells ftX10_onlyTells = true := by decide +kernel
def qcX10_onlyTells : zQ := ((3, 3), ([(2, 1, 0), (0, 2, 0)], ([(0, 0, 0), (2, 0, 29)], [], [], []), ([(1, 33)], [], [], [], [], [])), [(some (0, 0, 0), ([(0, 0, 0)], [], [], []), ([], [], [], [], [], [])), (some (0, 0, 1), ([(0, 0, 0)], [], [], []), ([], [], [], [], [], []))], ([], []), (0, 0))
def mcX10_onlyTells : zM := (yX10_onlyTells, cX10_onlyTells, 2, (some .boolean), { frames := 1, cells := 0, slots := 0, locals := 12 }, qcX10_onlyTells)
def hcX10_onlyTells : zH := ([], [], [], [], ([], 0, 0), 1)
theorem jcX10_onlyTells : zk_txok RX10 hcX10_onlyTells.2.2.2.2.1 := zk_txb_ok (p := (0, 0)) (by decide +kernel)
def xcX10_onlyTells : List zX := []
theorem wcX10_onlyTells : zk_hwsb zcl RX10 mcX10_onlyTells.rm xcX10_onlyTells [] = true := by decide +kernel
theorem icX10_onlyTells : zk_idb zcl RX10 10 false mcX10_onlyTells = true := by decide +kernel
theorem ecX10_onlyTells : zk_run zcl zft zTT zPF zPB zSUf zLX10 10 false mcX10_onlyTells ftX10_onlyTells hcX10_onlyTells zULf xcX10_onlyTells 17 = true := by decide +kernel
theorem gcX10_onlyTells {D : zD} {l : Launch} (hD : zWD D) : zCs D l xcX10_onlyTells := trivial
theorem tcX10_onlyTells {D : zD} {l : Launch} (hD : zWD D) : zC D l mcX10_onlyTells := zk_methC ⟨rfl, rfl⟩ hD poolX10 icX10_onlyTells jcX10_onlyTells ftX10_onlyTells_ok (gcX10_onlyTells hD) wcX10_onlyTells ecX10_onlyTells
def qcX5_make_40_36 : zQ := ((4, 4), ([(2, 1, 0), (0, 2, 0), (2, 3, 0)], ([(0, 0, 0), (2, 0, 1)], [], [], []), ([(1, 40), (3, 36)], [], [], [], [], [])), [(none, ([(0, 0, 0)], [], [], []), ([], [], [], [], [], []))], ([(36, 1), (36, 2), (36, 3), (36, 4)], [59]), (0, 0))
def mcX5_make_40_36 : zM := (yX5_make, cX5_make, 5, none, { frames := 2, cells := 0, slots := 0, locals := 33 }, qcX5_make_40_36)
def hcX5_make_40_36 : zH := ([(15, [([(2, (2, 3, 0)), (3, (2, 4, 0)), (4, (0, 5, 0))], [], ([(0, 0, 0), (5, 0, 40), (2, 0, 1)], [], [], []), ([(4, 38), (6, 65), (1, 40), (3, 36)], [(1, 5, 0, (2, 6, 0))], [], [], [], []), (7, ([(5, (-1))], 40), 0, 0))])], [], [], [], ([], 0, 0), 81)
theorem jcX5_make_40_36 : zk_txok RX5 hcX5_make_40_36.2.2.2.2.1 := zk_txb_ok (p := (0, 0)) (by decide +kernel)
def xcX5_make_40_36 : List zX := [(82, 2, 2, mcX2_begin), (92, 2, 2, mcX2_put)]
theorem wcX5_make_40_36 : zk_hwsb zcl RX5 mcX5_make_40_36.rm xcX5_make_40_36 [(896, 84, 893, 894, 895), (900, 84, 897, 898, 899)] = true := by decide +kernel
theorem icX5_make_40_36 : zk_idb zcl RX5 5 false mcX5_make_40_36 = true := by decide +kernel
theorem ecX5_make_40_36 : zk_run zcl zft zTT zPF zPB zSUf zLX5 5 false mcX5_make_40_36 ftX5_make hcX5_make_40_36 zULf xcX5_make_40_36 14 = true := by decide +kernel
theorem gcX5_make_40_36 {D : zD} {l : Launch} (hD : zWD D) : zCs D l xcX5_make_40_36 := ⟨tcX2_begin hD, tcX2_put hD, trivial⟩
theorem tcX5_make_40_36 {D : zD} {l : Launch} (hD : zWD D) : zC D l mcX5_make_40_36 := zk_methC ⟨rfl, rfl⟩ hD poolX5 icX5_make_40_36 jcX5_make_40_36 ftX5_make_ok (gcX5_make_40_36 hD) wcX5_make_40_36 ecX5_make_40_36
