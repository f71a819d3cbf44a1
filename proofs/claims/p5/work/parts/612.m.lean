/-! METHODS (printed by wip/t4) -/
def qcX6_takeSemicolon : zQ := ((2, 2), ([(2, 1, 0)], ([(0, 0, 0)], [], [], []), ([(1, 34)], [], [], [], [], [])), [(some (0, 0, 0), ([(0, 0, 0)], [], [], []), ([], [], [], [], [], [])), (some (0, 0, 1), ([(0, 0, 0)], [], [], []), ([], [], [], [], [], []))], ([(30, 2), (30, 3), (30, 4), (30, 5), (30, 6), (30, 7), (34, 1), (34, 2)], []), (0, 0))
def mcX6_takeSemicolon : zM := (yX6_takeSemicolon, cX6_takeSemicolon, 1, (some .boolean), { frames := 4, cells := 0, slots := 0, locals := 72 }, qcX6_takeSemicolon)
def hcX6_takeSemicolon : zH := ([], [], [], [], ([], 0, 0), 1)
theorem jcX6_takeSemicolon : zk_txok RX6 hcX6_takeSemicolon.2.2.2.2.1 := zk_txb_ok (p := (0, 0)) (by decide +kernel)
def xcX6_takeSemicolon : List zX := [(30, 2, 8, mcX8_step), (36, 2, 6, mcX6_fail)]
theorem wcX6_takeSemicolon : zk_hwsb zcl RX6 mcX6_takeSemicolon.rm xcX6_takeSemicolon [(537, 76, 534, 535, 536), (623, 77, 620, 622, 5)] = true := by decide +kernel
theorem icX6_takeSemicolon : zk_idb zcl RX6 6 false mcX6_takeSemicolon = true := by decide +kernel
theorem ecX6_takeSemicolon : zk_run zcl zft zTT zPF zPB zSUf zLX6 6 false mcX6_takeSemicolon ftX6_takeSemicolon hcX6_takeSemicolon zULf xcX6_takeSemicolon 16 = true := by decide +kernel
theorem gcX6_takeSemicolon {D : zD} {l : Launch} (hD : zWD D) : zCs D l xcX6_takeSemicolon := ⟨tcX8_step hD, tcX6_fail hD, trivial⟩
theorem tcX6_takeSemicolon {D : zD} {l : Launch} (hD : zWD D) : zC D l mcX6_takeSemicolon := zk_methC ⟨rfl, rfl⟩ hD poolX6 icX6_takeSemicolon jcX6_takeSemicolon ftX6_takeSemicolon_ok (gcX6_takeSemicolon hD) wcX6_takeSemicolon ecX6_takeSemicolon
def qcX6_readNames_k8_k0 : zQ := ((4, 4), ([(2, 1, 0), (2, 2, 0), (2, 3, 0), (0, 0, 8), (0, 0, 0)], ([(0, 0, 0)], [], [], []), ([(1, 34), (2, 31), (3, 32)], [], [], [], [], [])), [(some (0, 0, 0), ([(0, 0, 0)], [], [], []), ([], [], [], [], [], [])), (some (0, 0, 1), ([(0, 0, 0)], [], [], []), ([], [], [], [], [], []))], ([(30, 2), (30, 3), (30, 4), (30, 5), (30, 6), (30, 7), (31, 5), (31, 6), (34, 1), (34, 2)], [47, 48, 49, 50, 51]), (0, 0))
def mcX6_readNames_k8_k0 : zM := (yX6_readNames, cX6_readNames, 9, (some .boolean), { frames := 5, cells := 0, slots := 0, locals := 92 }, qcX6_readNames_k8_k0)
def hcX6_readNames_k8_k0 : zH := ([(11, [([(0, (2, 1, 0)), (1, (2, 2, 0)), (2, (2, 3, 0)), (3, (0, 0, 8)), (4, (0, 0, 0)), (5, (0, 4, 0))], [], ([(0, 0, 0), (4, 0, 1201)], [], [], []), ([(1, 34), (2, 31), (3, 32)], [], [], [], [], []), (5, ([(4, (-1))], 1201), 0, 0))])], [], [], [], ([], 0, 0), 2403)
theorem jcX6_readNames_k8_k0 : zk_txok RX6 hcX6_readNames_k8_k0.2.2.2.2.1 := zk_txb_ok (p := (0, 0)) (by decide +kernel)
def xcX6_readNames_k8_k0 : List zX := [(30, 2, 8, mcX8_step), (43, 2, 6, mcX6_begin), (97, 2, 6, mcX6_takeSemicolon), (111, 2, 4, mcX4_clear), (114, 2, 6, mcX6_isNewName_k8), (122, 2, 7, mcX7_keyOf), (126, 2, 4, mcX4_tell)]
theorem wcX6_readNames_k8_k0 : zk_hwsb zcl RX6 mcX6_readNames_k8_k0.rm xcX6_readNames_k8_k0 [(537, 76, 534, 535, 536), (528, 77, 525, 527, 0), (645, 77, 642, 644, 8), (658, 79, 682, 656, 657), (686, 77, 683, 685, 13), (690, 78, 687, 688, 689), (705, 79, 702, 703, 704)] = true := by decide +kernel
theorem icX6_readNames_k8_k0 : zk_idb zcl RX6 6 false mcX6_readNames_k8_k0 = true := by decide +kernel
theorem ecX6_readNames_k8_k0 : zk_run zcl zft zTT zPF zPB zSUf zLX6 6 false mcX6_readNames_k8_k0 ftX6_readNames hcX6_readNames_k8_k0 zULf xcX6_readNames_k8_k0 40 = true := by decide +kernel
theorem gcX6_readNames_k8_k0 {D : zD} {l : Launch} (hD : zWD D) : zCs D l xcX6_readNames_k8_k0 := ⟨tcX8_step hD, tcX6_begin hD, tcX6_takeSemicolon hD, tcX4_clear hD, tcX6_isNewName_k8 hD, tcX7_keyOf hD, tcX4_tell hD, trivial⟩
theorem tcX6_readNames_k8_k0 {D : zD} {l : Launch} (hD : zWD D) : zC D l mcX6_readNames_k8_k0 := zk_methC ⟨rfl, rfl⟩ hD poolX6 icX6_readNames_k8_k0 jcX6_readNames_k8_k0 ftX6_readNames_ok (gcX6_readNames_k8_k0 hD) wcX6_readNames_k8_k0 ecX6_readNames_k8_k0
def ftX6_readKnown : List (Nat × List (Nat × Instr × Nat)) := [(10, [(0, .aload_n 0, 1), (1, .aload_n 1, 1), (2, .aload_n 2, 1), (3, .bipush 8, 2), (5, .iconst 0, 1), (6, .invokevirtual 107, 3), (9, .ireturn, 1)])]
theorem ftX6_readKnown_ok : zk_ftb cX6_readKnown ftX6_readKnown = true := by decide +kernel
def qcX6_readKnown : zQ := ((4, 4), ([(2, 1, 0), (2, 2, 0), (2, 3, 0)], ([(0, 0, 0)], [], [], []), ([(1, 34), (2, 31), (3, 32)], [], [], [], [], [])), [(some (0, 0, 0), ([(0, 0, 0)], [], [], []), ([], [], [], [], [], [])), (some (0, 0, 1), ([(0, 0, 0)], [], [], []), ([], [], [], [], [], []))], ([(30, 2), (30, 3), (30, 4), (30, 5), (30, 6), (30, 7), (31, 5), (31, 6), (34, 1), (34, 2)], [47, 48, 49, 50, 51]), (0, 0))
def mcX6_readKnown : zM := (yX6_readKnown, cX6_readKnown, 3, (some .boolean), { frames := 6, cells := 0, slots := 0, locals := 120 }, qcX6_readKnown)
def hcX6_readKnown : zH := ([], [], [], [], ([], 0, 0), 1)
theorem jcX6_readKnown : zk_txok RX6 hcX6_readKnown.2.2.2.2.1 := zk_txb_ok (p := (0, 0)) (by decide +kernel)
def xcX6_readKnown : List zX := [(107, 2, 6, mcX6_readNames_k8_k0)]
theorem wcX6_readKnown : zk_hwsb zcl RX6 mcX6_readKnown.rm xcX6_readKnown [(681, 77, 678, 680, 12)] = true := by decide +kernel
theorem icX6_readKnown : zk_idb zcl RX6 6 false mcX6_readKnown = true := by decide +kernel
theorem ecX6_readKnown : zk_run zcl zft zTT zPF zPB zSUf zLX6 6 false mcX6_readKnown ftX6_readKnown hcX6_readKnown zULf xcX6_readKnown 9 = true := by decide +kernel
theorem gcX6_readKnown {D : zD} {l : Launch} (hD : zWD D) : zCs D l xcX6_readKnown := ⟨tcX6_readNames_k8_k0 hD, trivial⟩
theorem tcX6_readKnown {D : zD} {l : Launch} (hD : zWD D) : zC D l mcX6_readKnown := zk_methC ⟨rfl, rfl⟩ hD poolX6 icX6_readKnown jcX6_readKnown ftX6_readKnown_ok (gcX6_readKnown hD) wcX6_readKnown ecX6_readKnown
def ftX11_known : List (Nat × List (Nat × Instr × Nat)) := [(24, [(0, .aload_n 0, 1), (1, .getfield 21, 3), (4, .aload_n 0, 1), (5, .getfield 38, 3), (8, .iconst 3, 1), (9, .aaload, 1), (10, .aload_n 0, 1), (11, .getfield 28, 3), (14, .invokevirtual 137, 3), (17, .istore_n 1, 1), (18, .aload_n 0, 1), (19, .getfield 12, 3), (22, .iconst 0, 1), (23, .putfield 103, 3)]), (48, [(26, .iload_n 1, 1), (27, .ifCond .ne 5, 3), (30, .iconst (-1), 1), (31, .ireturn, 1), (32, .aload_n 0, 1), (33, .iconst 2, 1), (34, .invokevirtual 131, 3), (37, .aload_n 0, 1), (38, .invokevirtual 140, 3), (41, .aload_n 0, 1), (42, .getfield 38, 3), (45, .iconst 2, 1), (46, .aaload, 1), (47, .getfield 134, 3)]), (51, [(50, .ireturn, 1)])]
theorem ftX11_known_ok : zk_ftb cX11_known ftX11_known = true := by decide +kernel
def qcX11_known : zQ := ((12, 13), ([(2, 1, 0)], ([(0, 0, 0), (4, 0, 1200), (10, 0, 1), (11, 0, 10)], [], [], []), ([(1, 42), (2, 30), (3, 44), (5, 34), (6, 32), (7, 45), (8, 46), (9, 74)], [(1, 11, 0, (2, 2, 0)), (2, 8, 0, (2, 3, 0)), (2, 8, 1, (0, 4, 0)), (1, 11, 1, (2, 5, 0)), (5, 6, 0, (2, 2, 0)), (1, 11, 2, (2, 6, 0)), (6, 7, 0, (2, 7, 0)), (6, 7, 1, (2, 8, 0))], [], [], [], [(109, []), (390, [(2, 7, 0), (2, 9, 0)]), (398, [(2, 6, 0), (0, 10, 0), (0, 11, 0)])])), [(some (0, 0, (-1)), ([(0, 0, 0)], [], [], []), ([], [(1, 11, 0, (2, 2, 0)), (2, 8, 1, (0, 0, 0))], [], [], [], [(109, [])])), (some (0, 12, 0), ([(0, 0, 0), (12, 0, 80)], [], [], []), ([], [(1, 11, 0, (2, 2, 0)), (2, 8, 1, (0, 0, 0))], [], [], [], [(109, [])]))], ([(30, 1), (30, 2), (30, 3), (30, 4), (30, 5), (30, 6), (30, 7), (31, 5), (31, 6), (34, 1), (34, 2), (41, 4)], [47, 48, 49, 50, 51, 68]), (0, 0))
def mcX11_known : zM := (yX11_known, cX11_known, 2, (some .int), { frames := 7, cells := 0, slots := 0, locals := 142 }, qcX11_known)
def hcX11_known : zH := ([], [], [(0, [(9, 931, 0)]), (30, [(9, 999, 0)]), (32, [(9, 949, 0)])], [], ([], 0, 0), 1)
theorem jcX11_known : zk_txok RX11 hcX11_known.2.2.2.2.1 := zk_txb_ok (p := (0, 0)) (by decide +kernel)
def xcX11_known : List zX := [(131, 2, 11, mcX11_takeSpare_k2), (137, 2, 6, mcX6_readKnown), (140, 2, 11, mcX11_forgetAgreements)]
theorem wcX11_known : zk_hwsb zcl RX11 mcX11_known.rm xcX11_known [(713, 75, 710, 712, 14), (721, 77, 718, 719, 720), (725, 75, 722, 724, 15)] = true := by decide +kernel
theorem icX11_known : zk_idb zcl RX11 11 false mcX11_known = true := by decide +kernel
theorem ecX11_known : zk_run zcl zft zTT zPF zPB zSUf zLX11 11 false mcX11_known ftX11_known hcX11_known zULf xcX11_known 29 = true := by decide +kernel
theorem gcX11_known {D : zD} {l : Launch} (hD : zWD D) : zCs D l xcX11_known := ⟨tcX11_takeSpare_k2 hD, tcX6_readKnown hD, tcX11_forgetAgreements hD, trivial⟩
theorem tcX11_known {D : zD} {l : Launch} (hD : zWD D) : zC D l mcX11_known := zk_methC ⟨rfl, rfl⟩ hD poolX11 icX11_known jcX11_known ftX11_known_ok (gcX11_known hD) wcX11_known ecX11_known
def ftX10_clear : List (Nat × List (Nat × Instr × Nat)) := [(21, [(0, .aload_n 0, 1), (1, .iconst 0, 1), (2, .putfield 31, 3), (5, .iconst 0, 1), (6, .istore_n 1, 1), (7, .iload_n 1, 1), (8, .bipush 16, 2), (10, .if_icmp .ge 23, 3), (13, .aload_n 0, 1), (14, .getfield 24, 3), (17, .iload_n 1, 1), (18, .iconst 0, 1), (19, .bastore, 1), (20, .aload_n 0, 1)]), (34, [(21, .getfield 28, 3), (24, .iload_n 1, 1), (25, .iconst 0, 1), (26, .bastore, 1), (27, .iinc 1 1, 3), (30, .goto (-23), 3), (33, .return_, 1)])]
theorem ftX10_clear_ok : zk_ftb cX10_clear ftX10_clear = true := by decide +kernel
def qcX10_clear : zQ := ((2, 2), ([(2, 1, 0)], ([(0, 0, 0)], [], [], []), ([(1, 33)], [], [], [], [], [])), [(none, ([(0, 0, 0)], [], [], []), ([], [], [], [], [], []))], ([(33, 6)], [56, 57]), (0, 0))
def mcX10_clear : zM := (yX10_clear, cX10_clear, 2, none, { frames := 1, cells := 0, slots := 0, locals := 12 }, qcX10_clear)
def hcX10_clear : zH := ([(7, [([(0, (2, 1, 0)), (1, (0, 2, 0))], [], ([(0, 0, 0), (2, 0, 16)], [], [], []), ([(1, 33)], [(1, 10, 6, (0, 0, 0))], [], [], [], []), (3, ([(2, (-1))], 16), 0, 0))])], [], [], [], ([], 0, 0), 33)
theorem jcX10_clear : zk_txok RX10 hcX10_clear.2.2.2.2.1 := zk_txb_ok (p := (0, 0)) (by decide +kernel)
def xcX10_clear : List zX := []
theorem wcX10_clear : zk_hwsb zcl RX10 mcX10_clear.rm xcX10_clear [] = true := by decide +kernel
theorem icX10_clear : zk_idb zcl RX10 10 false mcX10_clear = true := by decide +kernel
theorem ecX10_clear : zk_run zcl zft zTT zPF zPB zSUf zLX10 10 false mcX10_clear ftX10_clear hcX10_clear zULf xcX10_clear 17 = true := by decide +kernel
theorem gcX10_clear {D : zD} {l : Launch} (hD : zWD D) : zCs D l xcX10_clear := trivial
theorem tcX10_clear {D : zD} {l : Launch} (hD : zWD D) : zC D l mcX10_clear := zk_methC ⟨rfl, rfl⟩ hD poolX10 icX10_clear jcX10_clear ftX10_clear_ok (gcX10_clear hD) wcX10_clear ecX10_clear
def ftX10_placeOf : List (Nat × List (Nat × Instr × Nat)) := [(7, [(0, .iload_n 0, 1), (1, .bipush 8, 2), (3, .imul, 1), (4, .iload_n 1, 1), (5, .iadd, 1), (6, .ireturn, 1)])]
theorem ftX10_placeOf_ok : zk_ftb cX10_placeOf ftX10_placeOf = true := by decide +kernel
def qcX10_placeOf_k0 : zQ := ((2, 2), ([(0, 0, 0), (0, 1, 0)], ([(0, 0, 0), (1, 0, 7)], [], [], []), ([], [], [], [], [], [])), [(some (0, 1, 0), ([(0, 0, 0)], [], [], []), ([], [], [], [], [], []))], ([], []), (0, 0))
def mcX10_placeOf_k0 : zM := (yX10_placeOf, cX10_placeOf, 2, (some .int), { frames := 1, cells := 0, slots := 0, locals := 12 }, qcX10_placeOf_k0)
def hcX10_placeOf_k0 : zH := ([], [], [], [], ([], 0, 0), 1)
theorem jcX10_placeOf_k0 : zk_txok RX10 hcX10_placeOf_k0.2.2.2.2.1 := zk_txb_ok (p := (0, 0)) (by decide +kernel)
def xcX10_placeOf_k0 : List zX := []
theorem wcX10_placeOf_k0 : zk_hwsb zcl RX10 mcX10_placeOf_k0.rm xcX10_placeOf_k0 [] = true := by decide +kernel
theorem icX10_placeOf_k0 : zk_idb zcl RX10 10 false mcX10_placeOf_k0 = true := by decide +kernel
theorem ecX10_placeOf_k0 : zk_run zcl zft zTT zPF zPB zSUf zLX10 10 false mcX10_placeOf_k0 ftX10_placeOf hcX10_placeOf_k0 zULf xcX10_placeOf_k0 8 = true := by decide +kernel
theorem gcX10_placeOf_k0 {D : zD} {l : Launch} (hD : zWD D) : zCs D l xcX10_placeOf_k0 := trivial
theorem tcX10_placeOf_k0 {D : zD} {l : Launch} (hD : zWD D) : zC D l mcX10_placeOf_k0 := zk_methC ⟨rfl, rfl⟩ hD poolX10 icX10_placeOf_k0 jcX10_placeOf_k0 ftX10_placeOf_ok (gcX10_placeOf_k0 hD) wcX10_placeOf_k0 ecX10_placeOf_k0
def ftX10_add : List (Nat × List (Nat × Instr × Nat)) := [(25, [(0, .aload_n 0, 1), (1, .getfield 31, 3), (4, .bipush 30, 2), (6, .if_icmp .lt 4, 3), (9, .return_, 1), (10, .aload_n 0, 1), (11, .getfield 9, 3), (14, .aload_n 0, 1), (15, .getfield 31, 3), (18, .iload_n 1, 1), (19, .iastore, 1), (20, .aload_n 0, 1), (21, .getfield 15, 3), (24, .aload_n 0, 1)]), (49, [(25, .getfield 31, 3), (28, .iload_n 2, 1), (29, .iastore, 1), (30, .aload_n 0, 1), (31, .getfield 18, 3), (34, .aload_n 0, 1), (35, .getfield 31, 3), (38, .iload_n 3, 1), (39, .iastore, 1), (40, .aload_n 0, 1), (41, .getfield 21, 3), (44, .aload_n 0, 1), (45, .getfield 31, 3), (48, .iload 4, 2)]), (73, [(50, .iastore, 1), (51, .aload_n 0, 1), (52, .dup, 1), (53, .getfield 31, 3), (56, .iconst 1, 1), (57, .iadd, 1), (58, .putfield 31, 3), (61, .iload_n 1, 1), (62, .iload_n 3, 1), (63, .invokestatic 35, 3), (66, .istore 5, 2), (68, .iload_n 2, 1), (69, .ifCond .ne 14, 3), (72, .aload_n 0, 1)]), (97, [(73, .getfield 24, 3), (76, .iload 5, 2), (78, .iconst 1, 1), (79, .bastore, 1), (80, .goto 55, 3), (83, .iload_n 2, 1), (84, .iconst 4, 1), (85, .if_icmp .ne 14, 3), (88, .aload_n 0, 1), (89, .getfield 28, 3), (92, .iload 5, 2), (94, .iconst 1, 1), (95, .bastore, 1), (96, .goto 39, 3)]), (121, [(99, .iload_n 2, 1), (100, .iconst 3, 1), (101, .if_icmp .ne 34, 3), (104, .iconst 1, 1), (105, .iload_n 1, 1), (106, .isub, 1), (107, .iload_n 3, 1), (108, .invokestatic 35, 3), (111, .istore 6, 2), (113, .aload_n 0, 1), (114, .getfield 24, 3), (117, .iload 6, 2), (119, .iconst 1, 1), (120, .bastore, 1)]), (136, [(121, .aload_n 0, 1), (122, .getfield 28, 3), (125, .iload 6, 2), (127, .aload_n 0, 1), (128, .getfield 28, 3), (131, .iload 5, 2), (133, .baload, 1), (134, .bastore, 1), (135, .return_, 1)])]
theorem ftX10_add_ok : zk_ftb cX10_add ftX10_add = true := by decide +kernel
def qcX10_add_a_k0 : zQ := ((5, 5), ([(2, 1, 0), (0, 0, 0), (0, 2, 0), (0, 3, 0), (0, 4, 0)], ([(0, 0, 0), (2, 5, 5), (3, 0, 7), (4, 1, 60)], [], [], []), ([(1, 33)], [], [], [], [], [(100, [])])), [(none, ([(0, 0, 0)], [], [], []), ([], [], [], [], [], [(100, [])]))], ([(33, 6)], [52, 53, 54, 55]), (0, 0))
def mcX10_add_a_k0 : zM := (yX10_add, cX10_add, 7, none, { frames := 2, cells := 0, slots := 0, locals := 33 }, qcX10_add_a_k0)
def hcX10_add_a_k0 : zH := ([], [], [], [], ([], 0, 0), 1)
theorem jcX10_add_a_k0 : zk_txok RX10 hcX10_add_a_k0.2.2.2.2.1 := zk_txb_ok (p := (0, 0)) (by decide +kernel)
def xcX10_add_a_k0 : List zX := [(35, 0, 0, mcX10_placeOf_k0)]
theorem wcX10_add_a_k0 : zk_hwsb zcl RX10 mcX10_add_a_k0.rm xcX10_add_a_k0 [(766, 80, 764, 765, 0)] = true := by decide +kernel
theorem icX10_add_a_k0 : zk_idb zcl RX10 10 false mcX10_add_a_k0 = true := by decide +kernel
theorem ecX10_add_a_k0 : zk_run zcl zft zTT zPF zPB zSUf zLX10 10 false mcX10_add_a_k0 ftX10_add hcX10_add_a_k0 zULf xcX10_add_a_k0 49 = true := by decide +kernel
theorem gcX10_add_a_k0 {D : zD} {l : Launch} (hD : zWD D) : zCs D l xcX10_add_a_k0 := ⟨tcX10_placeOf_k0 hD, trivial⟩
theorem tcX10_add_a_k0 {D : zD} {l : Launch} (hD : zWD D) : zC D l mcX10_add_a_k0 := zk_methC ⟨rfl, rfl⟩ hD poolX10 icX10_add_a_k0 jcX10_add_a_k0 ftX10_add_ok (gcX10_add_a_k0 hD) wcX10_add_a_k0 ecX10_add_a_k0
def qcX10_placeOf_k1 : zQ := ((2, 2), ([(0, 0, 1), (0, 1, 0)], ([(0, 0, 0), (1, 0, 7)], [], [], []), ([], [], [], [], [], [])), [(some (0, 1, 8), ([(0, 0, 0)], [], [], []), ([], [], [], [], [], []))], ([], []), (0, 0))
def mcX10_placeOf_k1 : zM := (yX10_placeOf, cX10_placeOf, 2, (some .int), { frames := 1, cells := 0, slots := 0, locals := 12 }, qcX10_placeOf_k1)
def hcX10_placeOf_k1 : zH := ([], [], [], [], ([], 0, 0), 1)
theorem jcX10_placeOf_k1 : zk_txok RX10 hcX10_placeOf_k1.2.2.2.2.1 := zk_txb_ok (p := (0, 0)) (by decide +kernel)
def xcX10_placeOf_k1 : List zX := []
theorem wcX10_placeOf_k1 : zk_hwsb zcl RX10 mcX10_placeOf_k1.rm xcX10_placeOf_k1 [] = true := by decide +kernel
theorem icX10_placeOf_k1 : zk_idb zcl RX10 10 false mcX10_placeOf_k1 = true := by decide +kernel
theorem ecX10_placeOf_k1 : zk_run zcl zft zTT zPF zPB zSUf zLX10 10 false mcX10_placeOf_k1 ftX10_placeOf hcX10_placeOf_k1 zULf xcX10_placeOf_k1 8 = true := by decide +kernel
theorem gcX10_placeOf_k1 {D : zD} {l : Launch} (hD : zWD D) : zCs D l xcX10_placeOf_k1 := trivial
theorem tcX10_placeOf_k1 {D : zD} {l : Launch} (hD : zWD D) : zC D l mcX10_placeOf_k1 := zk_methC ⟨rfl, rfl⟩ hD poolX10 icX10_placeOf_k1 jcX10_placeOf_k1 ftX10_placeOf_ok (gcX10_placeOf_k1 hD) wcX10_placeOf_k1 ecX10_placeOf_k1
def qcX10_add_a_k1 : zQ := ((5, 5), ([(2, 1, 0), (0, 0, 1), (0, 2, 0), (0, 3, 0), (0, 4, 0)], ([(0, 0, 0), (2, 5, 5), (3, 0, 7), (4, 1, 60)], [], [], []), ([(1, 33)], [], [], [], [], [(100, [])])), [(none, ([(0, 0, 0)], [], [], []), ([], [], [], [], [], [(100, [])]))], ([(33, 6)], [52, 53, 54, 55]), (0, 0))
def mcX10_add_a_k1 : zM := (yX10_add, cX10_add, 7, none, { frames := 2, cells := 0, slots := 0, locals := 33 }, qcX10_add_a_k1)
def hcX10_add_a_k1 : zH := ([], [], [], [], ([], 0, 0), 1)
theorem jcX10_add_a_k1 : zk_txok RX10 hcX10_add_a_k1.2.2.2.2.1 := zk_txb_ok (p := (0, 0)) (by decide +kernel)
def xcX10_add_a_k1 : List zX := [(35, 0, 0, mcX10_placeOf_k1)]
theorem wcX10_add_a_k1 : zk_hwsb zcl RX10 mcX10_add_a_k1.rm xcX10_add_a_k1 [(766, 80, 764, 765, 0)] = true := by decide +kernel
theorem icX10_add_a_k1 : zk_idb zcl RX10 10 false mcX10_add_a_k1 = true := by decide +kernel
theorem ecX10_add_a_k1 : zk_run zcl zft zTT zPF zPB zSUf zLX10 10 false mcX10_add_a_k1 ftX10_add hcX10_add_a_k1 zULf xcX10_add_a_k1 49 = true := by decide +kernel
theorem gcX10_add_a_k1 {D : zD} {l : Launch} (hD : zWD D) : zCs D l xcX10_add_a_k1 := ⟨tcX10_placeOf_k1 hD, trivial⟩
theorem tcX10_add_a_k1 {D : zD} {l : Launch} (hD : zWD D) : zC D l mcX10_add_a_k1 := zk_methC ⟨rfl, rfl⟩ hD poolX10 icX10_add_a_k1 jcX10_add_a_k1 ftX10_add_ok (gcX10_add_a_k1 hD) wcX10_add_a_k1 ecX10_add_a_k1
def qcX10_add_b_k0 : zQ := ((5, 5), ([(2, 1, 0), (0, 0, 0), (0, 2, 0), (0, 3, 0), (0, 4, 0)], ([(0, 0, 0), (2, 0, 7), (3, 0, 7), (4, 0, 7)], [], [], []), ([(1, 33)], [], [], [], [], [(100, [])])), [(none, ([(0, 0, 0)], [], [], []), ([], [], [], [], [], [(100, [])]))], ([(33, 6)], [52, 53, 54, 55, 56, 57]), (0, 0))
def mcX10_add_b_k0 : zM := (yX10_add, cX10_add, 7, none, { frames := 2, cells := 0, slots := 0, locals := 33 }, qcX10_add_b_k0)
def hcX10_add_b_k0 : zH := ([], [], [], [], ([], 0, 0), 1)
theorem jcX10_add_b_k0 : zk_txok RX10 hcX10_add_b_k0.2.2.2.2.1 := zk_txb_ok (p := (0, 0)) (by decide +kernel)
def xcX10_add_b_k0 : List zX := [(35, 0, 0, mcX10_placeOf_k0), (35, 0, 0, mcX10_placeOf_k1)]
theorem wcX10_add_b_k0 : zk_hwsb zcl RX10 mcX10_add_b_k0.rm xcX10_add_b_k0 [(766, 80, 764, 765, 0), (766, 80, 764, 765, 0)] = true := by decide +kernel
theorem icX10_add_b_k0 : zk_idb zcl RX10 10 false mcX10_add_b_k0 = true := by decide +kernel
theorem ecX10_add_b_k0 : zk_run zcl zft zTT zPF zPB zSUf zLX10 10 false mcX10_add_b_k0 ftX10_add hcX10_add_b_k0 zULf xcX10_add_b_k0 68 = true := by decide +kernel
theorem gcX10_add_b_k0 {D : zD} {l : Launch} (hD : zWD D) : zCs D l xcX10_add_b_k0 := ⟨tcX10_placeOf_k0 hD, tcX10_placeOf_k1 hD, trivial⟩
theorem tcX10_add_b_k0 {D : zD} {l : Launch} (hD : zWD D) : zC D l mcX10_add_b_k0 := zk_methC ⟨rfl, rfl⟩ hD poolX10 icX10_add_b_k0 jcX10_add_b_k0 ftX10_add_ok (gcX10_add_b_k0 hD) wcX10_add_b_k0 ecX10_add_b_k0
def qcX10_add_b_k1 : zQ := ((5, 5), ([(2, 1, 0), (0, 0, 1), (0, 2, 0), (0, 3, 0), (0, 4, 0)], ([(0, 0, 0), (2, 0, 7), (3, 0, 7), (4, 0, 7)], [], [], []), ([(1, 33)], [], [], [], [], [(100, [])])), [(none, ([(0, 0, 0)], [], [], []), ([], [], [], [], [], [(100, [])]))], ([(33, 6)], [52, 53, 54, 55, 56, 57]), (0, 0))
def mcX10_add_b_k1 : zM := (yX10_add, cX10_add, 7, none, { frames := 2, cells := 0, slots := 0, locals := 33 }, qcX10_add_b_k1)
def hcX10_add_b_k1 : zH := ([], [], [], [], ([], 0, 0), 1)
theorem jcX10_add_b_k1 : zk_txok RX10 hcX10_add_b_k1.2.2.2.2.1 := zk_txb_ok (p := (0, 0)) (by decide +kernel)
def xcX10_add_b_k1 : List zX := [(35, 0, 0, mcX10_placeOf_k0), (35, 0, 0, mcX10_placeOf_k1)]
theorem wcX10_add_b_k1 : zk_hwsb zcl RX10 mcX10_add_b_k1.rm xcX10_add_b_k1 [(766, 80, 764, 765, 0), (766, 80, 764, 765, 0)] = true := by decide +kernel
theorem icX10_add_b_k1 : zk_idb zcl RX10 10 false mcX10_add_b_k1 = true := by decide +kernel
theorem ecX10_add_b_k1 : zk_run zcl zft zTT zPF zPB zSUf zLX10 10 false mcX10_add_b_k1 ftX10_add hcX10_add_b_k1 zULf xcX10_add_b_k1 68 = true := by decide +kernel
theorem gcX10_add_b_k1 {D : zD} {l : Launch} (hD : zWD D) : zCs D l xcX10_add_b_k1 := ⟨tcX10_placeOf_k0 hD, tcX10_placeOf_k1 hD, trivial⟩
theorem tcX10_add_b_k1 {D : zD} {l : Launch} (hD : zWD D) : zC D l mcX10_add_b_k1 := zk_methC ⟨rfl, rfl⟩ hD poolX10 icX10_add_b_k1 jcX10_add_b_k1 ftX10_add_ok (gcX10_add_b_k1 hD) wcX10_add_b_k1 ecX10_add_b_k1
def qcX8_says_30_10 : zQ := ((3, 3), ([(2, 1, 0), (2, 2, 0)], ([(0, 0, 0)], [], [], []), ([(1, 30), (2, 10)], [], [], [], [], [(0, [])])), [(some (0, 0, 0), ([(0, 0, 0)], [], [], []), ([], [], [], [], [], [])), (some (0, 0, 1), ([(0, 0, 0)], [], [], []), ([], [], [], [], [], []))], ([], []), (0, 0))
def mcX8_says_30_10 : zM := (yX8_says, cX8_says, 3, (some .boolean), { frames := 5, cells := 0, slots := 0, locals := 97 }, qcX8_says_30_10)
def hcX8_says_30_10 : zH := ([], [], [(57, [(4, 0, 0)])], [], ([], 54, 59), 1)
theorem jcX8_says_30_10 : zk_txok RX8 hcX8_says_30_10.2.2.2.2.1 := zk_txb_ok (p := (560, 570)) (by decide +kernel)
def xcX8_says_30_10 : List zX := []
theorem wcX8_says_30_10 : zk_hwsb zcl RX8 mcX8_says_30_10.rm xcX8_says_30_10 [] = true := by decide +kernel
theorem icX8_says_30_10 : zk_idb zcl RX8 8 false mcX8_says_30_10 = true := by decide +kernel
theorem ecX8_says_30_10 : zk_run zcl zft zTT zPF zPB zSUf zLX8 8 false mcX8_says_30_10 ftX8_says hcX8_says_30_10 zULf xcX8_says_30_10 129 = true := by decide +kernel
theorem gcX8_says_30_10 {D : zD} {l : Launch} (hD : zWD D) : zCs D l xcX8_says_30_10 := trivial
theorem tcX8_says_30_10 {D : zD} {l : Launch} (hD : zWD D) : zC D l mcX8_says_30_10 := zk_methC ⟨rfl, rfl⟩ hD poolX8 icX8_says_30_10 jcX8_says_30_10 ftX8_says_ok (gcX8_says_30_10 hD) wcX8_says_30_10 ecX8_says_30_10
