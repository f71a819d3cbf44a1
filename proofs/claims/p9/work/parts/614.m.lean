/-! METHODS (printed by wip/t4) -/
def qcX8_says_30_9 : zQ := ((3, 3), ([(2, 1, 0), (2, 2, 0)], ([(0, 0, 0)], [], [], []), ([(1, 30), (2, 9)], [], [], [], [], [(0, [])])), [(some (0, 0, 0), ([(0, 0, 0)], [], [], []), ([], [], [], [], [], [])), (some (0, 0, 1), ([(0, 0, 0)], [], [], []), ([], [], [], [], [], []))], ([], []), (0, 0))
def mcX8_says_30_9 : zM := (yX8_says, cX8_says, 3, (some .boolean), { frames := 5, cells := 0, slots := 0, locals := 97 }, qcX8_says_30_9)
def hcX8_says_30_9 : zH := ([], [], [(57, [(4, 0, 0)])], [], ([], 54, 59), 1)
theorem jcX8_says_30_9 : zk_txok RX8 hcX8_says_30_9.2.2.2.2.1 := zk_txb_ok (p := (560, 570)) (by decide +kernel)
def xcX8_says_30_9 : List zX := []
theorem wcX8_says_30_9 : zk_hwsb zcl RX8 mcX8_says_30_9.rm xcX8_says_30_9 [] = true := by decide +kernel
theorem icX8_says_30_9 : zk_idb zcl RX8 8 false mcX8_says_30_9 = true := by decide +kernel
theorem ecX8_says_30_9 : zk_run zcl zft zTT zPF zPB zSUf zLX8 8 false mcX8_says_30_9 ftX8_says hcX8_says_30_9 zULf xcX8_says_30_9 112 = true := by decide +kernel
theorem gcX8_says_30_9 {D : zD} {l : Launch} (hD : zWD D) : zCs D l xcX8_says_30_9 := trivial
theorem tcX8_says_30_9 {D : zD} {l : Launch} (hD : zWD D) : zC D l mcX8_says_30_9 := zk_methC ⟨rfl, rfl⟩ hD poolX8 icX8_says_30_9 jcX8_says_30_9 ftX8_says_ok (gcX8_says_30_9 hD) wcX8_says_30_9 ecX8_says_30_9
def ftX6_takeAct : List (Nat × List (Nat × Instr × Nat)) := [(29, [(0, .aload_n 0, 1), (1, .getfield 9, 3), (4, .invokevirtual 30, 3), (7, .aload_n 0, 1), (8, .getfield 9, 3), (11, .ldc 167, 2), (13, .invokevirtual 53, 3), (16, .ifCond .eq 11, 3), (19, .aload_n 0, 1), (20, .iconst 0, 1), (21, .putfield 160, 3), (24, .goto 151, 3), (27, .aload_n 0, 1), (28, .getfield 9, 3)]), (61, [(31, .ldc 169, 2), (33, .invokevirtual 53, 3), (36, .ifCond .eq 11, 3), (39, .aload_n 0, 1), (40, .iconst 1, 1), (41, .putfield 160, 3), (44, .goto 131, 3), (47, .aload_n 0, 1), (48, .getfield 9, 3), (51, .ldc 171, 2), (53, .invokevirtual 53, 3), (56, .ifCond .eq 11, 3), (59, .aload_n 0, 1), (60, .iconst 2, 1)]), (92, [(61, .putfield 160, 3), (64, .goto 111, 3), (67, .aload_n 0, 1), (68, .getfield 9, 3), (71, .ldc 173, 2), (73, .invokevirtual 53, 3), (76, .ifCond .eq 11, 3), (79, .aload_n 0, 1), (80, .iconst 3, 1), (81, .putfield 160, 3), (84, .goto 91, 3), (87, .aload_n 0, 1), (88, .getfield 9, 3), (91, .ldc 175, 2)]), (122, [(93, .invokevirtual 53, 3), (96, .ifCond .eq 11, 3), (99, .aload_n 0, 1), (100, .iconst 4, 1), (101, .putfield 160, 3), (104, .goto 71, 3), (107, .aload_n 0, 1), (108, .getfield 9, 3), (111, .ldc 177, 2), (113, .invokevirtual 53, 3), (116, .ifCond .eq 11, 3), (119, .aload_n 0, 1), (120, .iconst 5, 1), (121, .putfield 160, 3)]), (155, [(124, .goto 51, 3), (127, .aload_n 0, 1), (128, .getfield 9, 3), (131, .ldc 179, 2), (133, .invokevirtual 53, 3), (136, .ifCond .eq 12, 3), (139, .aload_n 0, 1), (140, .bipush 6, 2), (142, .putfield 160, 3), (145, .goto 30, 3), (148, .aload_n 0, 1), (149, .getfield 9, 3), (152, .ldc 181, 2), (154, .invokevirtual 53, 3)]), (177, [(157, .ifCond .eq 12, 3), (160, .aload_n 0, 1), (161, .bipush 7, 2), (163, .putfield 160, 3), (166, .goto 9, 3), (169, .aload_n 0, 1), (170, .iconst 1, 1), (171, .invokevirtual 36, 3), (174, .ireturn, 1), (175, .iconst 1, 1), (176, .ireturn, 1)])]
theorem ftX6_takeAct_ok : zk_ftb cX6_takeAct ftX6_takeAct = true := by decide +kernel
def qcX6_takeAct : zQ := ((2, 2), ([(2, 1, 0)], ([(0, 0, 0)], [], [], []), ([(1, 34)], [], [], [], [], [(0, [])])), [(some (0, 0, 0), ([(0, 0, 0)], [], [], []), ([], [], [], [], [], [])), (some (0, 0, 1), ([(0, 0, 0)], [], [], []), ([], [], [], [], [], []))], ([(30, 2), (30, 3), (30, 4), (30, 5), (30, 6), (30, 7), (34, 1), (34, 2), (34, 5)], []), (0, 0))
def mcX6_takeAct : zM := (yX6_takeAct, cX6_takeAct, 1, (some .boolean), { frames := 6, cells := 0, slots := 0, locals := 119 }, qcX6_takeAct)
def hcX6_takeAct : zH := ([], [], [], [], ([(167, 6), (169, 7), (171, 8), (173, 9), (175, 10), (177, 11), (179, 12), (181, 13)], 0, 0), 1)
theorem jcX6_takeAct : zk_txok RX6 hcX6_takeAct.2.2.2.2.1 := zk_txb_ok (p := (0, 0)) (by decide +kernel)
def xcX6_takeAct : List zX := [(30, 2, 8, mcX8_step), (36, 2, 6, mcX6_fail), (53, 2, 8, mcX8_says_30_10), (53, 2, 8, mcX8_says_30_11), (53, 2, 8, mcX8_says_30_12), (53, 2, 8, mcX8_says_30_13), (53, 2, 8, mcX8_says_30_6), (53, 2, 8, mcX8_says_30_7), (53, 2, 8, mcX8_says_30_8), (53, 2, 8, mcX8_says_30_9)]
theorem wcX6_takeAct : zk_hwsb zcl RX6 mcX6_takeAct.rm xcX6_takeAct [(537, 76, 534, 535, 536), (623, 77, 620, 622, 5), (559, 76, 556, 557, 558), (559, 76, 556, 557, 558), (559, 76, 556, 557, 558), (559, 76, 556, 557, 558), (559, 76, 556, 557, 558), (559, 76, 556, 557, 558), (559, 76, 556, 557, 558), (559, 76, 556, 557, 558)] = true := by decide +kernel
theorem icX6_takeAct : zk_idb zcl RX6 6 false mcX6_takeAct = true := by decide +kernel
theorem ecX6_takeAct : zk_run zcl zft zTT zPF zPB zSUf zLX6 6 false mcX6_takeAct ftX6_takeAct hcX6_takeAct zULf xcX6_takeAct 51 = true := by decide +kernel
theorem gcX6_takeAct {D : zD} {l : Launch} (hD : zWD D) : zCs D l xcX6_takeAct := ⟨tcX8_step hD, tcX6_fail hD, tcX8_says_30_10 hD, tcX8_says_30_11 hD, tcX8_says_30_12 hD, tcX8_says_30_13 hD, tcX8_says_30_6 hD, tcX8_says_30_7 hD, tcX8_says_30_8 hD, tcX8_says_30_9 hD, trivial⟩
theorem tcX6_takeAct {D : zD} {l : Launch} (hD : zWD D) : zC D l mcX6_takeAct := zk_methC ⟨rfl, rfl⟩ hD poolX6 icX6_takeAct jcX6_takeAct ftX6_takeAct_ok (gcX6_takeAct hD) wcX6_takeAct ecX6_takeAct
def ftX10_faultOf : List (Nat × List (Nat × Instr × Nat)) := [(26, [(0, .iload_n 1, 1), (1, .iload_n 3, 1), (2, .invokestatic 35, 3), (5, .istore 4, 2), (7, .iload_n 2, 1), (8, .ifCond .ne 19, 3), (11, .aload_n 0, 1), (12, .getfield 24, 3), (15, .iload 4, 2), (17, .baload, 1), (18, .ifCond .eq 7, 3), (21, .iconst 3, 1), (22, .goto 4, 3), (25, .iconst 0, 1)]), (49, [(26, .ireturn, 1), (27, .aload_n 0, 1), (28, .getfield 24, 3), (31, .iload 4, 2), (33, .baload, 1), (34, .ifCond .ne 5, 3), (37, .iconst 5, 1), (38, .ireturn, 1), (39, .iload_n 2, 1), (40, .iconst 3, 1), (41, .if_icmp .eq 18, 3), (44, .aload_n 0, 1), (45, .getfield 28, 3), (48, .iload 4, 2)]), (61, [(50, .baload, 1), (51, .ifCond .eq 8, 3), (54, .bipush 6, 2), (56, .goto 4, 3), (59, .iconst 0, 1), (60, .ireturn, 1)])]
theorem ftX10_faultOf_ok : zk_ftb cX10_faultOf ftX10_faultOf = true := by decide +kernel
def qcX10_faultOf_k0 : zQ := ((4, 5), ([(2, 1, 0), (0, 0, 0), (0, 2, 0), (0, 3, 0)], ([(0, 0, 0), (2, 0, 7), (3, 0, 7)], [], [], []), ([(1, 33)], [], [], [], [], [])), [(some (0, 4, 0), ([(0, 0, 0), (4, 0, 6)], [(4, 2, 5)], [], []), ([], [], [], [], [], []))], ([], []), (0, 0))
def mcX10_faultOf_k0 : zM := (yX10_faultOf, cX10_faultOf, 5, (some .int), { frames := 2, cells := 0, slots := 0, locals := 33 }, qcX10_faultOf_k0)
def hcX10_faultOf_k0 : zH := ([], [], [], [], ([], 0, 0), 1)
theorem jcX10_faultOf_k0 : zk_txok RX10 hcX10_faultOf_k0.2.2.2.2.1 := zk_txb_ok (p := (0, 0)) (by decide +kernel)
def xcX10_faultOf_k0 : List zX := [(35, 0, 0, mcX10_placeOf_k0)]
theorem wcX10_faultOf_k0 : zk_hwsb zcl RX10 mcX10_faultOf_k0.rm xcX10_faultOf_k0 [(766, 80, 764, 765, 0)] = true := by decide +kernel
theorem icX10_faultOf_k0 : zk_idb zcl RX10 10 false mcX10_faultOf_k0 = true := by decide +kernel
theorem ecX10_faultOf_k0 : zk_run zcl zft zTT zPF zPB zSUf zLX10 10 false mcX10_faultOf_k0 ftX10_faultOf hcX10_faultOf_k0 zULf xcX10_faultOf_k0 24 = true := by decide +kernel
theorem gcX10_faultOf_k0 {D : zD} {l : Launch} (hD : zWD D) : zCs D l xcX10_faultOf_k0 := ⟨tcX10_placeOf_k0 hD, trivial⟩
theorem tcX10_faultOf_k0 {D : zD} {l : Launch} (hD : zWD D) : zC D l mcX10_faultOf_k0 := zk_methC ⟨rfl, rfl⟩ hD poolX10 icX10_faultOf_k0 jcX10_faultOf_k0 ftX10_faultOf_ok (gcX10_faultOf_k0 hD) wcX10_faultOf_k0 ecX10_faultOf_k0
def qcX8_oneLetter : zQ := ((2, 3), ([(2, 1, 0)], ([(0, 0, 0)], [], [], []), ([(1, 30)], [], [], [], [], [])), [(some (0, 2, 0), ([(0, 0, 0), (2, (-2147483648), 2147483647)], [], [], []), ([], [], [], [], [], []))], ([], []), (0, 0))
def mcX8_oneLetter : zM := (yX8_oneLetter, cX8_oneLetter, 1, (some .int), { frames := 1, cells := 0, slots := 0, locals := 12 }, qcX8_oneLetter)
def hcX8_oneLetter : zH := ([], [], [(25, [(3, 0, 0)])], [], ([], 0, 0), 1)
theorem jcX8_oneLetter : zk_txok RX8 hcX8_oneLetter.2.2.2.2.1 := zk_txb_ok (p := (0, 0)) (by decide +kernel)
def xcX8_oneLetter : List zX := []
theorem wcX8_oneLetter : zk_hwsb zcl RX8 mcX8_oneLetter.rm xcX8_oneLetter [] = true := by decide +kernel
theorem icX8_oneLetter : zk_idb zcl RX8 8 false mcX8_oneLetter = true := by decide +kernel
theorem ecX8_oneLetter : zk_run zcl zft zTT zPF zPB zSUf zLX8 8 false mcX8_oneLetter ftX8_oneLetter hcX8_oneLetter zULf xcX8_oneLetter 15 = true := by decide +kernel
theorem gcX8_oneLetter {D : zD} {l : Launch} (hD : zWD D) : zCs D l xcX8_oneLetter := trivial
theorem tcX8_oneLetter {D : zD} {l : Launch} (hD : zWD D) : zC D l mcX8_oneLetter := zk_methC ⟨rfl, rfl⟩ hD poolX8 icX8_oneLetter jcX8_oneLetter ftX8_oneLetter_ok (gcX8_oneLetter hD) wcX8_oneLetter ecX8_oneLetter
def ftX6_takeBag : List (Nat × List (Nat × Instr × Nat)) := [(27, [(0, .aload_n 0, 1), (1, .getfield 9, 3), (4, .invokevirtual 30, 3), (7, .aload_n 0, 1), (8, .getfield 9, 3), (11, .invokevirtual 82, 3), (14, .istore_n 3, 1), (15, .iload_n 3, 1), (16, .iconst 1, 1), (17, .if_icmp .lt 9, 3), (20, .iload_n 3, 1), (21, .bipush 8, 2), (23, .if_icmp .le 9, 3), (26, .aload_n 0, 1)]), (47, [(27, .iconst 1, 1), (28, .invokevirtual 36, 3), (31, .ireturn, 1), (32, .aload_n 0, 1), (33, .iload_n 3, 1), (34, .iconst 1, 1), (35, .isub, 1), (36, .putfield 157, 3), (39, .aload_n 1, 1), (40, .iload_n 2, 1), (41, .aload_n 0, 1), (42, .getfield 160, 3), (45, .aload_n 0, 1), (46, .getfield 157, 3)]), (74, [(49, .invokevirtual 183, 3), (52, .istore 4, 2), (54, .iload 4, 2), (56, .ifCond .eq 12, 3), (59, .aload_n 0, 1), (60, .iload 4, 2), (62, .invokevirtual 36, 3), (65, .ifCond .eq 7, 3), (68, .iconst 1, 1), (69, .goto 4, 3), (72, .iconst 0, 1), (73, .ireturn, 1)])]
theorem ftX6_takeBag_ok : zk_ftb cX6_takeBag ftX6_takeBag = true := by decide +kernel
def qcX6_takeBag_k0 : zQ := ((3, 3), ([(2, 1, 0), (2, 2, 0), (0, 0, 0)], ([(0, 0, 0)], [], [], []), ([(1, 34), (2, 33)], [], [], [], [], [])), [(some (0, 0, 0), ([(0, 0, 0)], [], [], []), ([], [], [], [], [], [])), (some (0, 0, 1), ([(0, 0, 0)], [], [], []), ([], [], [], [], [], []))], ([(30, 2), (30, 3), (30, 4), (30, 5), (30, 6), (30, 7), (34, 1), (34, 2), (34, 6)], []), (0, 0))
def mcX6_takeBag_k0 : zM := (yX6_takeBag, cX6_takeBag, 5, (some .boolean), { frames := 4, cells := 0, slots := 0, locals := 72 }, qcX6_takeBag_k0)
def hcX6_takeBag_k0 : zH := ([], [], [], [], ([], 0, 0), 1)
theorem jcX6_takeBag_k0 : zk_txok RX6 hcX6_takeBag_k0.2.2.2.2.1 := zk_txb_ok (p := (0, 0)) (by decide +kernel)
def xcX6_takeBag_k0 : List zX := [(30, 2, 8, mcX8_step), (36, 2, 6, mcX6_fail), (82, 2, 8, mcX8_oneLetter), (183, 2, 10, mcX10_faultOf_k0)]
theorem wcX6_takeBag_k0 : zk_hwsb zcl RX6 mcX6_takeBag_k0.rm xcX6_takeBag_k0 [(537, 76, 534, 535, 536), (623, 77, 620, 622, 5), (619, 76, 616, 617, 618), (763, 80, 760, 761, 762)] = true := by decide +kernel
theorem icX6_takeBag_k0 : zk_idb zcl RX6 6 false mcX6_takeBag_k0 = true := by decide +kernel
theorem ecX6_takeBag_k0 : zk_run zcl zft zTT zPF zPB zSUf zLX6 6 false mcX6_takeBag_k0 ftX6_takeBag hcX6_takeBag_k0 zULf xcX6_takeBag_k0 36 = true := by decide +kernel
theorem gcX6_takeBag_k0 {D : zD} {l : Launch} (hD : zWD D) : zCs D l xcX6_takeBag_k0 := ⟨tcX8_step hD, tcX6_fail hD, tcX8_oneLetter hD, tcX10_faultOf_k0 hD, trivial⟩
theorem tcX6_takeBag_k0 {D : zD} {l : Launch} (hD : zWD D) : zC D l mcX6_takeBag_k0 := zk_methC ⟨rfl, rfl⟩ hD poolX6 icX6_takeBag_k0 jcX6_takeBag_k0 ftX6_takeBag_ok (gcX6_takeBag_k0 hD) wcX6_takeBag_k0 ecX6_takeBag_k0
def qcX10_faultOf_k1 : zQ := ((4, 5), ([(2, 1, 0), (0, 0, 1), (0, 2, 0), (0, 3, 0)], ([(0, 0, 0), (2, 0, 7), (3, 0, 7)], [], [], []), ([(1, 33)], [], [], [], [], [])), [(some (0, 4, 0), ([(0, 0, 0), (4, 0, 6)], [(4, 2, 5)], [], []), ([], [], [], [], [], []))], ([], []), (0, 0))
def mcX10_faultOf_k1 : zM := (yX10_faultOf, cX10_faultOf, 5, (some .int), { frames := 2, cells := 0, slots := 0, locals := 33 }, qcX10_faultOf_k1)
def hcX10_faultOf_k1 : zH := ([], [], [], [], ([], 0, 0), 1)
theorem jcX10_faultOf_k1 : zk_txok RX10 hcX10_faultOf_k1.2.2.2.2.1 := zk_txb_ok (p := (0, 0)) (by decide +kernel)
def xcX10_faultOf_k1 : List zX := [(35, 0, 0, mcX10_placeOf_k1)]
theorem wcX10_faultOf_k1 : zk_hwsb zcl RX10 mcX10_faultOf_k1.rm xcX10_faultOf_k1 [(766, 80, 764, 765, 0)] = true := by decide +kernel
theorem icX10_faultOf_k1 : zk_idb zcl RX10 10 false mcX10_faultOf_k1 = true := by decide +kernel
theorem ecX10_faultOf_k1 : zk_run zcl zft zTT zPF zPB zSUf zLX10 10 false mcX10_faultOf_k1 ftX10_faultOf hcX10_faultOf_k1 zULf xcX10_faultOf_k1 24 = true := by decide +kernel
theorem gcX10_faultOf_k1 {D : zD} {l : Launch} (hD : zWD D) : zCs D l xcX10_faultOf_k1 := ⟨tcX10_placeOf_k1 hD, trivial⟩
theorem tcX10_faultOf_k1 {D : zD} {l : Launch} (hD : zWD D) : zC D l mcX10_faultOf_k1 := zk_methC ⟨rfl, rfl⟩ hD poolX10 icX10_faultOf_k1 jcX10_faultOf_k1 ftX10_faultOf_ok (gcX10_faultOf_k1 hD) wcX10_faultOf_k1 ecX10_faultOf_k1
def qcX6_takeBag_k1 : zQ := ((3, 3), ([(2, 1, 0), (2, 2, 0), (0, 0, 1)], ([(0, 0, 0)], [], [], []), ([(1, 34), (2, 33)], [], [], [], [], [])), [(some (0, 0, 0), ([(0, 0, 0)], [], [], []), ([], [], [], [], [], [])), (some (0, 0, 1), ([(0, 0, 0)], [], [], []), ([], [], [], [], [], []))], ([(30, 2), (30, 3), (30, 4), (30, 5), (30, 6), (30, 7), (34, 1), (34, 2), (34, 6)], []), (0, 0))
def mcX6_takeBag_k1 : zM := (yX6_takeBag, cX6_takeBag, 5, (some .boolean), { frames := 4, cells := 0, slots := 0, locals := 72 }, qcX6_takeBag_k1)
def hcX6_takeBag_k1 : zH := ([], [], [], [], ([], 0, 0), 1)
theorem jcX6_takeBag_k1 : zk_txok RX6 hcX6_takeBag_k1.2.2.2.2.1 := zk_txb_ok (p := (0, 0)) (by decide +kernel)
def xcX6_takeBag_k1 : List zX := [(30, 2, 8, mcX8_step), (36, 2, 6, mcX6_fail), (82, 2, 8, mcX8_oneLetter), (183, 2, 10, mcX10_faultOf_k1)]
theorem wcX6_takeBag_k1 : zk_hwsb zcl RX6 mcX6_takeBag_k1.rm xcX6_takeBag_k1 [(537, 76, 534, 535, 536), (623, 77, 620, 622, 5), (619, 76, 616, 617, 618), (763, 80, 760, 761, 762)] = true := by decide +kernel
theorem icX6_takeBag_k1 : zk_idb zcl RX6 6 false mcX6_takeBag_k1 = true := by decide +kernel
theorem ecX6_takeBag_k1 : zk_run zcl zft zTT zPF zPB zSUf zLX6 6 false mcX6_takeBag_k1 ftX6_takeBag hcX6_takeBag_k1 zULf xcX6_takeBag_k1 36 = true := by decide +kernel
theorem gcX6_takeBag_k1 {D : zD} {l : Launch} (hD : zWD D) : zCs D l xcX6_takeBag_k1 := ⟨tcX8_step hD, tcX6_fail hD, tcX8_oneLetter hD, tcX10_faultOf_k1 hD, trivial⟩
theorem tcX6_takeBag_k1 {D : zD} {l : Launch} (hD : zWD D) : zC D l mcX6_takeBag_k1 := zk_methC ⟨rfl, rfl⟩ hD poolX6 icX6_takeBag_k1 jcX6_takeBag_k1 ftX6_takeBag_ok (gcX6_takeBag_k1 hD) wcX6_takeBag_k1 ecX6_takeBag_k1
def qcX6_takeNumber_k1_k60 : zQ := ((2, 4), ([(2, 1, 0), (0, 0, 1), (0, 0, 60)], ([(0, 0, 0)], [], [], []), ([(1, 34)], [], [], [], [], [])), [(some (0, 0, 0), ([(0, 0, 0)], [], [], []), ([(2, 30)], [(1, 6, 0, (2, 2, 0))], [], [], [], [])), (some (0, 0, 1), ([(0, 0, 0), (3, 1, 60)], [], [], []), ([(2, 30)], [(1, 6, 0, (2, 2, 0)), (2, 8, 7, (0, 3, 0))], [], [], [], []))], ([(30, 2), (30, 3), (30, 4), (30, 5), (30, 6), (30, 7), (34, 1), (34, 2)], []), (0, 0))
def mcX6_takeNumber_k1_k60 : zM := (yX6_takeNumber, cX6_takeNumber, 3, (some .boolean), { frames := 4, cells := 0, slots := 0, locals := 72 }, qcX6_takeNumber_k1_k60)
def hcX6_takeNumber_k1_k60 : zH := ([], [], [], [], ([], 0, 0), 1)
theorem jcX6_takeNumber_k1_k60 : zk_txok RX6 hcX6_takeNumber_k1_k60.2.2.2.2.1 := zk_txb_ok (p := (0, 0)) (by decide +kernel)
def xcX6_takeNumber_k1_k60 : List zX := [(30, 2, 8, mcX8_step), (36, 2, 6, mcX6_fail)]
theorem wcX6_takeNumber_k1_k60 : zk_hwsb zcl RX6 mcX6_takeNumber_k1_k60.rm xcX6_takeNumber_k1_k60 [(537, 76, 534, 535, 536), (623, 77, 620, 622, 5)] = true := by decide +kernel
theorem icX6_takeNumber_k1_k60 : zk_idb zcl RX6 6 false mcX6_takeNumber_k1_k60 = true := by decide +kernel
theorem ecX6_takeNumber_k1_k60 : zk_run zcl zft zTT zPF zPB zSUf zLX6 6 false mcX6_takeNumber_k1_k60 ftX6_takeNumber hcX6_takeNumber_k1_k60 zULf xcX6_takeNumber_k1_k60 26 = true := by decide +kernel
theorem gcX6_takeNumber_k1_k60 {D : zD} {l : Launch} (hD : zWD D) : zCs D l xcX6_takeNumber_k1_k60 := ⟨tcX8_step hD, tcX6_fail hD, trivial⟩
theorem tcX6_takeNumber_k1_k60 {D : zD} {l : Launch} (hD : zWD D) : zC D l mcX6_takeNumber_k1_k60 := zk_methC ⟨rfl, rfl⟩ hD poolX6 icX6_takeNumber_k1_k60 jcX6_takeNumber_k1_k60 ftX6_takeNumber_ok (gcX6_takeNumber_k1_k60 hD) wcX6_takeNumber_k1_k60 ecX6_takeNumber_k1_k60
def qcX8_says_30_4 : zQ := ((3, 3), ([(2, 1, 0), (2, 2, 0)], ([(0, 0, 0)], [], [], []), ([(1, 30), (2, 4)], [], [], [], [], [(0, [])])), [(some (0, 0, 0), ([(0, 0, 0)], [], [], []), ([], [], [], [], [], [])), (some (0, 0, 1), ([(0, 0, 0)], [], [], []), ([], [], [], [], [], []))], ([], []), (0, 0))
def mcX8_says_30_4 : zM := (yX8_says, cX8_says, 3, (some .boolean), { frames := 5, cells := 0, slots := 0, locals := 97 }, qcX8_says_30_4)
def hcX8_says_30_4 : zH := ([], [], [(57, [(4, 0, 0)])], [], ([], 54, 59), 1)
theorem jcX8_says_30_4 : zk_txok RX8 hcX8_says_30_4.2.2.2.2.1 := zk_txb_ok (p := (560, 570)) (by decide +kernel)
def xcX8_says_30_4 : List zX := []
theorem wcX8_says_30_4 : zk_hwsb zcl RX8 mcX8_says_30_4.rm xcX8_says_30_4 [] = true := by decide +kernel
theorem icX8_says_30_4 : zk_idb zcl RX8 8 false mcX8_says_30_4 = true := by decide +kernel
theorem ecX8_says_30_4 : zk_run zcl zft zTT zPF zPB zSUf zLX8 8 false mcX8_says_30_4 ftX8_says hcX8_says_30_4 zULf xcX8_says_30_4 78 = true := by decide +kernel
theorem gcX8_says_30_4 {D : zD} {l : Launch} (hD : zWD D) : zCs D l xcX8_says_30_4 := trivial
theorem tcX8_says_30_4 {D : zD} {l : Launch} (hD : zWD D) : zC D l mcX8_says_30_4 := zk_methC ⟨rfl, rfl⟩ hD poolX8 icX8_says_30_4 jcX8_says_30_4 ftX8_says_ok (gcX8_says_30_4 hD) wcX8_says_30_4 ecX8_says_30_4
