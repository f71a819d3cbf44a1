/-! METHODS (printed by wip/t6) -/
def qcX5_turn_40_38_36 : zQ := ((4, 4), ([(2, 1, 0), (2, 2, 0), (2, 3, 0)], ([(0, 0, 0)], [], [], []), ([(1, 40), (2, 38), (3, 36)], [], [], [], [], [])), [(none, ([(0, 0, 0)], [], [], []), ([], [], [], [], [], []))], ([(40, 2)], [59]), (0, 0))
def mcX5_turn_40_38_36 : zM := (yX5_turn, cX5_turn, 4, none, { frames := 3, cells := 0, slots := 0, locals := 60 }, qcX5_turn_40_38_36)
def hcX5_turn_40_38_36 : zH := ([(2, [([(0, (2, 1, 0)), (1, (2, 2, 0)), (2, (2, 3, 0)), (3, (0, 4, 0))], [], ([(0, 0, 0), (4, 0, 60)], [], [], []), ([(1, 40), (2, 38), (3, 36)], [], [], [], [], []), (5, ([(4, (-1))], 60), 0, 0))])], [], [], [], ([], 0, 0), 121)
theorem jcX5_turn_40_38_36 : zk_txok RX5 hcX5_turn_40_38_36.2.2.2.2.1 := zk_txb_ok (p := (0, 0)) (by decide +kernel)
def xcX5_turn_40_38_36 : List zX := [(105, 2, 9, mcX9_apply_122), (105, 2, 9, mcX9_apply_123), (105, 2, 9, mcX9_apply_35)]
theorem wcX5_turn_40_38_36 : zk_hwsb zcl RX5 mcX5_turn_40_38_36.rm xcX5_turn_40_38_36 [(803, 81, 905, 801, 802), (803, 81, 905, 801, 802), (803, 81, 905, 801, 802)] = true := by decide +kernel
theorem icX5_turn_40_38_36 : zk_idb zcl RX5 5 false mcX5_turn_40_38_36 = true := by decide +kernel
theorem ecX5_turn_40_38_36 : zk_run zcl zft zTT zPF zPB zSUf zLX5 5 false mcX5_turn_40_38_36 ftX5_turn hcX5_turn_40_38_36 zULf xcX5_turn_40_38_36 19 = true := by decide +kernel
theorem gcX5_turn_40_38_36 {D : zD} {l : Launch} (hD : zWD D) : zCs D l xcX5_turn_40_38_36 := ⟨tcX9_apply_122 hD, tcX9_apply_123 hD, tcX9_apply_35 hD, trivial⟩
theorem tcX5_turn_40_38_36 {D : zD} {l : Launch} (hD : zWD D) : zC D l mcX5_turn_40_38_36 := zk_methC ⟨rfl, rfl⟩ hD poolX5 icX5_turn_40_38_36 jcX5_turn_40_38_36 ftX5_turn_ok (gcX5_turn_40_38_36 hD) wcX5_turn_40_38_36 ecX5_turn_40_38_36
def qcX5_doLine_40_33 : zQ := ((4, 4), ([(2, 1, 0), (2, 2, 0), (0, 3, 0)], ([(0, 0, 0), (3, 0, 29)], [], [], []), ([(1, 40), (2, 33)], [], [], [], [], [(100, []), (150, [])])), [(none, ([(0, 0, 0)], [], [], []), ([], [], [], [], [], [(100, []), (150, [])]))], ([(36, 1), (36, 2), (36, 3), (36, 4), (38, 5), (38, 9), (38, 10), (38, 11), (38, 12), (38, 13), (40, 2), (40, 3)], [59]), (0, 0))
def mcX5_doLine_40_33 : zM := (yX5_doLine, cX5_doLine, 7, none, { frames := 4, cells := 0, slots := 0, locals := 83 }, qcX5_doLine_40_33)
def hcX5_doLine_40_33 : zH := ([], [], [(162, [(9, 20, 0)]), (180, [(9, 20, 0)])], [], ([], 0, 0), 1)
theorem jcX5_doLine_40_33 : zk_txok RX5 hcX5_doLine_40_33.2.2.2.2.1 := zk_txb_ok (p := (0, 0)) (by decide +kernel)
def xcX5_doLine_40_33 : List zX := [(49, 2, 5, mcX5_make_40_36), (53, 2, 5, mcX5_turn_40_38_36), (57, 2, 2, mcX2_mix), (62, 2, 5, mcX5_send_40_36_38), (70, 2, 5, mcX5_pad_40_38_36), (74, 2, 5, mcX5_meet_40_36_36), (78, 2, 5, mcX5_sum_40_38)]
theorem wcX5_doLine_40_33 : zk_hwsb zcl RX5 mcX5_doLine_40_33.rm xcX5_doLine_40_33 [(892, 82, 889, 891, 20), (904, 82, 901, 903, 21), (909, 84, 906, 907, 908), (913, 82, 910, 912, 22), (931, 82, 928, 930, 23), (943, 82, 940, 942, 24), (951, 82, 948, 950, 25)] = true := by decide +kernel
theorem icX5_doLine_40_33 : zk_idb zcl RX5 5 false mcX5_doLine_40_33 = true := by decide +kernel
theorem ecX5_doLine_40_33 : zk_run zcl zft zTT zPF zPB zSUf zLX5 5 false mcX5_doLine_40_33 ftX5_doLine hcX5_doLine_40_33 zULf xcX5_doLine_40_33 45 = true := by decide +kernel
theorem gcX5_doLine_40_33 {D : zD} {l : Launch} (hD : zWD D) : zCs D l xcX5_doLine_40_33 := ⟨tcX5_make_40_36 hD, tcX5_turn_40_38_36 hD, tcX2_mix hD, tcX5_send_40_36_38 hD, tcX5_pad_40_38_36 hD, tcX5_meet_40_36_36 hD, tcX5_sum_40_38 hD, trivial⟩
theorem tcX5_doLine_40_33 {D : zD} {l : Launch} (hD : zWD D) : zC D l mcX5_doLine_40_33 := zk_methC ⟨rfl, rfl⟩ hD poolX5 icX5_doLine_40_33 jcX5_doLine_40_33 ftX5_doLine_ok (gcX5_doLine_40_33 hD) wcX5_doLine_40_33 ecX5_doLine_40_33
def qcX3_start_38 : zQ := ((2, 2), ([(2, 1, 0)], ([(0, 0, 0)], [], [], []), ([(1, 38)], [], [], [], [], [(150, [])])), [(none, ([(0, 0, 0)], [], [], []), ([], [], [], [], [], [(150, [])]))], ([(38, 5), (38, 9), (38, 10), (38, 11), (38, 12), (38, 13)], []), (0, 0))
def mcX3_start_38 : zM := (yX3_start, cX3_start, 1, none, { frames := 1, cells := 0, slots := 0, locals := 12 }, qcX3_start_38)
def hcX3_start_38 : zH := ([], [], [], [], ([], 0, 0), 1)
theorem jcX3_start_38 : zk_txok RX3 hcX3_start_38.2.2.2.2.1 := zk_txb_ok (p := (0, 0)) (by decide +kernel)
def xcX3_start_38 : List zX := []
theorem wcX3_start_38 : zk_hwsb zcl RX3 mcX3_start_38.rm xcX3_start_38 [] = true := by decide +kernel
theorem icX3_start_38 : zk_idb zcl RX3 3 false mcX3_start_38 = true := by decide +kernel
theorem ecX3_start_38 : zk_run zcl zft zTT zPF zPB zSUf zLX3 3 false mcX3_start_38 ftX3_start hcX3_start_38 zULf xcX3_start_38 23 = true := by decide +kernel
theorem gcX3_start_38 {D : zD} {l : Launch} (hD : zWD D) : zCs D l xcX3_start_38 := trivial
theorem tcX3_start_38 {D : zD} {l : Launch} (hD : zWD D) : zC D l mcX3_start_38 := zk_methC ⟨rfl, rfl⟩ hD poolX3 icX3_start_38 jcX3_start_38 ftX3_start_ok (gcX3_start_38 hD) wcX3_start_38 ecX3_start_38
def qcX5_start_40 : zQ := ((3, 3), ([(2, 1, 0), (0, 2, 0)], ([(0, 0, 0), (2, 0, 2147483647)], [], [], []), ([(1, 40)], [], [], [], [], [(150, [])])), [(none, ([(0, 0, 0)], [], [], []), ([], [], [], [], [], [(150, [])]))], ([(38, 5), (38, 9), (38, 10), (38, 11), (38, 12), (38, 13), (40, 1), (40, 2), (40, 3)], []), (0, 0))
def mcX5_start_40 : zM := (yX5_start, cX5_start, 2, none, { frames := 2, cells := 0, slots := 0, locals := 32 }, qcX5_start_40)
def hcX5_start_40 : zH := ([], [], [], [], ([], 0, 0), 1)
theorem jcX5_start_40 : zk_txok RX5 hcX5_start_40.2.2.2.2.1 := zk_txb_ok (p := (0, 0)) (by decide +kernel)
def xcX5_start_40 : List zX := [(27, 2, 3, mcX3_start_38)]
theorem wcX5_start_40 : zk_hwsb zcl RX5 mcX5_start_40.rm xcX5_start_40 [(884, 83, 881, 882, 883)] = true := by decide +kernel
theorem icX5_start_40 : zk_idb zcl RX5 5 false mcX5_start_40 = true := by decide +kernel
theorem ecX5_start_40 : zk_run zcl zft zTT zPF zPB zSUf zLX5 5 false mcX5_start_40 ftX5_start hcX5_start_40 zULf xcX5_start_40 22 = true := by decide +kernel
theorem gcX5_start_40 {D : zD} {l : Launch} (hD : zWD D) : zCs D l xcX5_start_40 := ⟨tcX3_start_38 hD, trivial⟩
theorem tcX5_start_40 {D : zD} {l : Launch} (hD : zWD D) : zC D l mcX5_start_40 := zk_methC ⟨rfl, rfl⟩ hD poolX5 icX5_start_40 jcX5_start_40 ftX5_start_ok (gcX5_start_40 hD) wcX5_start_40 ecX5_start_40
def ftX0_agrees : List (Nat × List (Nat × Instr × Nat)) := [(26, [(0, .aload_n 0, 1), (1, .getfield 18, 3), (4, .getfield 30, 3), (7, .iload_n 3, 1), (8, .aaload, 1), (9, .astore 4, 2), (11, .aload_n 0, 1), (12, .getfield 18, 3), (15, .aload_n 1, 1), (16, .getfield 51, 3), (19, .invokevirtual 105, 3), (22, .iconst 0, 1), (23, .istore 5, 2), (25, .iload 5, 2)]), (57, [(27, .aload_n 0, 1), (28, .getfield 60, 3), (31, .if_icmp .ge 36, 3), (34, .aload 4, 2), (36, .getfield 109, 3), (39, .ifCond .ne 28, 3), (42, .aload_n 2, 1), (43, .iload 5, 2), (45, .invokevirtual 112, 3), (48, .ifCond .ne 13, 3), (51, .aload_n 0, 1), (52, .getfield 18, 3), (55, .aload_n 2, 1), (56, .iload 5, 2)]), (90, [(58, .invokevirtual 116, 3), (61, .iinc 5 1, 3), (64, .goto (-39), 3), (67, .aload 4, 2), (69, .getfield 109, 3), (72, .ifCond .ne 24, 3), (75, .aload 4, 2), (77, .getfield 120, 3), (80, .aload_n 1, 1), (81, .getfield 30, 3), (84, .iload_n 3, 1), (85, .aaload, 1), (86, .getfield 120, 3), (89, .if_icmp .ne 7, 3)]), (98, [(92, .iconst 1, 1), (93, .goto 4, 3), (96, .iconst 0, 1), (97, .ireturn, 1)])]
theorem ftX0_agrees_ok : zk_ftb cX0_agrees ftX0_agrees = true := by decide +kernel
def qcX0_agrees : zQ := ((5, 5), ([(2, 1, 0), (2, 2, 0), (2, 3, 0), (0, 4, 0)], ([(0, 0, 0), (4, 0, 1)], [], [], []), ([(1, 41), (2, 39), (3, 33)], [], [], [], [], [(100, []), (150, [])])), [(some (0, 0, 0), ([(0, 0, 0)], [], [], []), ([], [], [], [], [], [(100, []), (150, [])])), (some (0, 0, 1), ([(0, 0, 0)], [], [], []), ([], [], [], [], [], [(100, []), (150, [])]))], ([(36, 1), (36, 2), (36, 3), (36, 4), (38, 5), (38, 9), (38, 10), (38, 11), (38, 12), (38, 13), (40, 1), (40, 2), (40, 3)], [59]), (0, 0))
def mcX0_agrees : zM := (yX0_agrees, cX0_agrees, 6, (some .boolean), { frames := 5, cells := 0, slots := 0, locals := 109 }, qcX0_agrees)
def hcX0_agrees : zH := ([(25, [([(0, (2, 1, 0)), (1, (2, 2, 0)), (2, (2, 3, 0)), (3, (0, 4, 0)), (4, (2, 5, 0)), (5, (0, 6, 0))], [], ([(0, 0, 0), (6, 0, 30), (7, 0, 2147483647), (4, 0, 1)], [], [], []), ([(5, 38), (8, 40), (9, 65), (1, 41), (2, 39), (3, 33)], [(2, 5, 1, (0, 7, 0)), (1, 0, 2, (2, 8, 0)), (8, 5, 0, (2, 9, 0))], [], [], [], [(150, []), (100, []), (150, [])]), (10, ([(6, (-1))], 30), 0, 0))])], [], [], [], ([], 0, 0), 61)
theorem jcX0_agrees : zk_txok RX0 hcX0_agrees.2.2.2.2.1 := zk_txb_ok (p := (0, 0)) (by decide +kernel)
def xcX0_agrees : List zX := [(105, 2, 5, mcX5_start_40), (112, 2, 10, mcX10_onlyTells), (116, 2, 5, mcX5_doLine_40_33)]
theorem wcX0_agrees : zk_hwsb zcl RX0 mcX0_agrees.rm xcX0_agrees [(880, 82, 995, 878, 879), (999, 80, 996, 997, 998), (888, 82, 1000, 886, 887)] = true := by decide +kernel
theorem icX0_agrees : zk_idb zcl RX0 0 false mcX0_agrees = true := by decide +kernel
theorem ecX0_agrees : zk_run zcl zft zTT zPF zPB zSUf zLX0 0 false mcX0_agrees ftX0_agrees hcX0_agrees zULf xcX0_agrees 20 = true := by decide +kernel
theorem gcX0_agrees {D : zD} {l : Launch} (hD : zWD D) : zCs D l xcX0_agrees := ⟨tcX5_start_40 hD, tcX10_onlyTells hD, tcX5_doLine_40_33 hD, trivial⟩
theorem tcX0_agrees {D : zD} {l : Launch} (hD : zWD D) : zC D l mcX0_agrees := zk_methC ⟨rfl, rfl⟩ hD poolX0 icX0_agrees jcX0_agrees ftX0_agrees_ok (gcX0_agrees hD) wcX0_agrees ecX0_agrees
def ftX0_loadChosen : List (Nat × List (Nat × Instr × Nat)) := [(19, [(0, .aload_n 1, 1), (1, .iconst 0, 1), (2, .putfield 99, 3), (5, .iconst 0, 1), (6, .istore_n 3, 1), (7, .iload_n 3, 1), (8, .bipush 8, 2), (10, .if_icmp .ge 43, 3), (13, .iload_n 2, 1), (14, .iload_n 3, 1), (15, .iushr, 1), (16, .iconst 1, 1), (17, .iand, 1), (18, .iconst 1, 1)]), (43, [(19, .if_icmp .ne 28, 3), (22, .aload_n 1, 1), (23, .getfield 102, 3), (26, .aload_n 1, 1), (27, .getfield 99, 3), (30, .aload_n 0, 1), (31, .getfield 15, 3), (34, .iload_n 3, 1), (35, .iaload, 1), (36, .iastore, 1), (37, .aload_n 1, 1), (38, .dup, 1), (39, .getfield 99, 3), (42, .iconst 1, 1)]), (54, [(43, .iadd, 1), (44, .putfield 99, 3), (47, .iinc 3 1, 3), (50, .goto (-43), 3), (53, .return_, 1)])]
theorem ftX0_loadChosen_ok : zk_ftb cX0_loadChosen ftX0_loadChosen = true := by decide +kernel
def qcX0_loadChosen_41_38 : zQ := ((4, 4), ([(2, 1, 0), (2, 2, 0), (0, 3, 0)], ([(0, 0, 0), (3, 0, 255)], [], [], []), ([(1, 41), (2, 38)], [], [], [], [], [])), [(none, ([(0, 0, 0)], [], [], []), ([], [], [], [], [], []))], ([(38, 6)], [60]), (0, 0))
def mcX0_loadChosen_41_38 : zM := (yX0_loadChosen, cX0_loadChosen, 4, none, { frames := 1, cells := 0, slots := 0, locals := 12 }, qcX0_loadChosen_41_38)
def hcX0_loadChosen_41_38 : zH := ([(7, [([(0, (2, 1, 0)), (1, (2, 2, 0)), (2, (0, 3, 0)), (3, (0, 4, 0))], [], ([(0, 0, 0), (4, 0, 8), (5, 0, 40), (3, 0, 255)], [(5, 4, 0)], [], []), ([(1, 41), (2, 38)], [(2, 3, 6, (0, 5, 0))], [], [], [], []), (6, ([(4, (-1))], 8), 0, 0))])], [], [(36, [(4, 1, 0)])], [], ([], 0, 0), 17)
theorem jcX0_loadChosen_41_38 : zk_txok RX0 hcX0_loadChosen_41_38.2.2.2.2.1 := zk_txb_ok (p := (0, 0)) (by decide +kernel)
def xcX0_loadChosen_41_38 : List zX := []
theorem wcX0_loadChosen_41_38 : zk_hwsb zcl RX0 mcX0_loadChosen_41_38.rm xcX0_loadChosen_41_38 [] = true := by decide +kernel
theorem icX0_loadChosen_41_38 : zk_idb zcl RX0 0 false mcX0_loadChosen_41_38 = true := by decide +kernel
theorem ecX0_loadChosen_41_38 : zk_run zcl zft zTT zPF zPB zSUf zLX0 0 false mcX0_loadChosen_41_38 ftX0_loadChosen hcX0_loadChosen_41_38 zULf xcX0_loadChosen_41_38 29 = true := by decide +kernel
theorem gcX0_loadChosen_41_38 {D : zD} {l : Launch} (hD : zWD D) : zCs D l xcX0_loadChosen_41_38 := trivial
theorem tcX0_loadChosen_41_38 {D : zD} {l : Launch} (hD : zWD D) : zC D l mcX0_loadChosen_41_38 := zk_methC ⟨rfl, rfl⟩ hD poolX0 icX0_loadChosen_41_38 jcX0_loadChosen_41_38 ftX0_loadChosen_ok (gcX0_loadChosen_41_38 hD) wcX0_loadChosen_41_38 ecX0_loadChosen_41_38
def ftX0_loadKnown : List (Nat × List (Nat × Instr × Nat)) := [(23, [(0, .aload_n 0, 1), (1, .iconst 1, 1), (2, .putfield 75, 3), (5, .iconst 0, 1), (6, .istore_n 3, 1), (7, .iload_n 3, 1), (8, .aload_n 1, 1), (9, .getfield 86, 3), (12, .if_icmp .ge 41, 3), (15, .iload_n 3, 1), (16, .bipush 8, 2), (18, .if_icmp .ge 35, 3), (21, .aload_n 0, 1), (22, .getfield 15, 3)]), (45, [(25, .iload_n 3, 1), (26, .aload_n 1, 1), (27, .getfield 91, 3), (30, .iload_n 3, 1), (31, .laload, 1), (32, .iload_n 2, 1), (33, .invokestatic 95, 3), (36, .iastore, 1), (37, .aload_n 0, 1), (38, .dup, 1), (39, .getfield 75, 3), (42, .iconst 2, 1), (43, .imul, 1), (44, .putfield 75, 3)]), (71, [(47, .iinc 3 1, 3), (50, .goto (-43), 3), (53, .iconst 0, 1), (54, .istore_n 3, 1), (55, .iload_n 3, 1), (56, .aload_n 0, 1), (57, .getfield 75, 3), (60, .if_icmp .ge 16, 3), (63, .aload_n 0, 1), (64, .getfield 9, 3), (67, .iload_n 3, 1), (68, .iconst 0, 1), (69, .iastore, 1), (70, .iinc 3 1, 3)]), (77, [(73, .goto (-18), 3), (76, .return_, 1)])]
theorem ftX0_loadKnown_ok : zk_ftb cX0_loadKnown ftX0_loadKnown = true := by decide +kernel
def qcX0_loadKnown : zQ := ((4, 4), ([(2, 1, 0), (2, 2, 0), (0, 3, 0)], ([(0, 0, 0), (3, 0, 2147483647)], [], [], []), ([(1, 41), (2, 31)], [], [], [], [], [])), [(none, ([(0, 0, 0)], [], [], []), ([], [], [], [], [], []))], ([(41, 5)], [66, 67]), (0, 0))
def mcX0_loadKnown : zM := (yX0_loadKnown, cX0_loadKnown, 4, none, { frames := 3, cells := 0, slots := 0, locals := 60 }, qcX0_loadKnown)
def hcX0_loadKnown : zH := ([(55, [([(0, (2, 1, 0)), (3, (0, 4, 0))], [], ([(0, 0, 0), (4, 0, 256), (5, 1, 256), (6, 0, 80), (3, 0, 2147483647)], [(4, 5, 0), (5, 6, 248), (6, 5, (-1))], [], []), ([(1, 41), (2, 31)], [(1, 0, 5, (0, 5, 0)), (2, 4, 5, (0, 6, 0))], [], [], [], []), (7, ([(4, (-1))], 256), 0, 0))])], [], [], [], ([], 0, 0), 513)
theorem jcX0_loadKnown : zk_txok RX0 hcX0_loadKnown.2.2.2.2.1 := zk_txb_ok (p := (0, 0)) (by decide +kernel)
def xcX0_loadKnown : List zX := [(95, 1, 0, mcX11_numberOf)]
theorem wcX0_loadKnown : zk_hwsb zcl RX0 mcX0_loadKnown.rm xcX0_loadKnown [(820, 75, 0, 819, 0)] = true := by decide +kernel
theorem icX0_loadKnown : zk_idb zcl RX0 0 false mcX0_loadKnown = true := by decide +kernel
theorem ecX0_loadKnown : zk_run zcl zft zTT zPF zPB zSUf zLX0 0 false mcX0_loadKnown ftX0_loadKnown hcX0_loadKnown zULf xcX0_loadKnown 216 = true := by decide +kernel
theorem gcX0_loadKnown {D : zD} {l : Launch} (hD : zWD D) : zCs D l xcX0_loadKnown := ⟨tcX11_numberOf hD, trivial⟩
theorem tcX0_loadKnown {D : zD} {l : Launch} (hD : zWD D) : zC D l mcX0_loadKnown := zk_methC ⟨rfl, rfl⟩ hD poolX0 icX0_loadKnown jcX0_loadKnown ftX0_loadKnown_ok (gcX0_loadKnown hD) wcX0_loadKnown ecX0_loadKnown
