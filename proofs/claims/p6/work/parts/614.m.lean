/-! METHODS (printed by wip/t4) -/
def qcX8_says_30_7 : zQ := ((3, 3), ([(2, 1, 0), (2, 2, 0)], ([(0, 0, 0)], [], [], []), ([(1, 30), (2, 7)], [], [], [], [], [(0, [])])), [(some (0, 0, 0), ([(0, 0, 0)], [], [], []), ([], [], [], [], [], [])), (some (0, 0, 1), ([(0, 0, 0)], [], [], []), ([], [], [], [], [], []))], ([], []), (0, 0))
def mcX8_says_30_7 : zM := (yX8_says, cX8_says, 3, (some .boolean), { frames := 5, cells := 0, slots := 0, locals := 97 }, qcX8_says_30_7)
def hcX8_says_30_7 : zH := ([], [], [(57, [(4, 0, 0)])], [], ([], 54, 59), 1)
theorem jcX8_says_30_7 : zk_txok RX8 hcX8_says_30_7.2.2.2.2.1 := zk_txb_ok (p := (560, 570)) (by decide +kernel)
def xcX8_says_30_7 : List zX := []
theorem wcX8_says_30_7 : zk_hwsb zcl RX8 mcX8_says_30_7.rm xcX8_says_30_7 [] = true := by decide +kernel
theorem icX8_says_30_7 : zk_idb zcl RX8 8 false mcX8_says_30_7 = true := by decide +kernel
theorem ecX8_says_30_7 : zk_run zcl zft zTT zPF zPB zSUf zLX8 8 false mcX8_says_30_7 ftX8_says hcX8_says_30_7 zULf xcX8_says_30_7 112 = true := by decide +kernel
theorem gcX8_says_30_7 {D : zD} {l : Launch} (hD : zWD D) : zCs D l xcX8_says_30_7 := trivial
theorem tcX8_says_30_7 {D : zD} {l : Launch} (hD : zWD D) : zC D l mcX8_says_30_7 := zk_methC ⟨rfl, rfl⟩ hD poolX8 icX8_says_30_7 jcX8_says_30_7 ftX8_says_ok (gcX8_says_30_7 hD) wcX8_says_30_7 ecX8_says_30_7
def qcX8_says_30_8 : zQ := ((3, 3), ([(2, 1, 0), (2, 2, 0)], ([(0, 0, 0)], [], [], []), ([(1, 30), (2, 8)], [], [], [], [], [(0, [])])), [(some (0, 0, 0), ([(0, 0, 0)], [], [], []), ([], [], [], [], [], [])), (some (0, 0, 1), ([(0, 0, 0)], [], [], []), ([], [], [], [], [], []))], ([], []), (0, 0))
def mcX8_says_30_8 : zM := (yX8_says, cX8_says, 3, (some .boolean), { frames := 5, cells := 0, slots := 0, locals := 97 }, qcX8_says_30_8)
def hcX8_says_30_8 : zH := ([], [], [(57, [(4, 0, 0)])], [], ([], 54, 59), 1)
theorem jcX8_says_30_8 : zk_txok RX8 hcX8_says_30_8.2.2.2.2.1 := zk_txb_ok (p := (560, 570)) (by decide +kernel)
def xcX8_says_30_8 : List zX := []
theorem wcX8_says_30_8 : zk_hwsb zcl RX8 mcX8_says_30_8.rm xcX8_says_30_8 [] = true := by decide +kernel
theorem icX8_says_30_8 : zk_idb zcl RX8 8 false mcX8_says_30_8 = true := by decide +kernel
theorem ecX8_says_30_8 : zk_run zcl zft zTT zPF zPB zSUf zLX8 8 false mcX8_says_30_8 ftX8_says hcX8_says_30_8 zULf xcX8_says_30_8 112 = true := by decide +kernel
theorem gcX8_says_30_8 {D : zD} {l : Launch} (hD : zWD D) : zCs D l xcX8_says_30_8 := trivial
theorem tcX8_says_30_8 {D : zD} {l : Launch} (hD : zWD D) : zC D l mcX8_says_30_8 := zk_methC ⟨rfl, rfl⟩ hD poolX8 icX8_says_30_8 jcX8_says_30_8 ftX8_says_ok (gcX8_says_30_8 hD) wcX8_says_30_8 ecX8_says_30_8
def qcX8_says_30_9 : zQ := ((3, 3), ([(2, 1, 0), (2, 2, 0)], ([(0, 0, 0)], [], [], []), ([(1, 30), (2, 9)], [], [], [], [], [(0, [])])), [(some (0, 0, 0), ([(0, 0, 0)], [], [], []), ([], [], [], [], [], [])), (some (0, 0, 1), ([(0, 0, 0)], [], [], []), ([], [], [], [], [], []))], ([], []), (0, 0))
def mcX8_says_30_9 : zM := (yX8_says, cX8_says, 3, (some .boolean), { frames := 5, cells := 0, slots := 0, locals := 97 }, qcX8_says_30_9)
def hcX8_says_30_9 : zH := ([], [], [(57, [(4, 0, 0)])], [], ([], 54, 59), 1)
theorem jcX8_says_30_9 : zk_txok RX8 hcX8_says_30_9.2.2.2.2.1 := zk_txb_ok (p := (560, 570)) (by decide +kernel)
def xcX8_says_30_9 : List zX := []
theorem wcX8_says_30_9 : zk_hwsb zcl RX8 mcX8_says_30_9.rm xcX8_says_30_9 [] = true := by decide +kernel
theorem icX8_says_30_9 : zk_idb zcl RX8 8 false mcX8_says_30_9 = true := by decide +kernel
theorem ecX8_says_30_9 : zk_run zcl zft zTT zPF zPB zSUf zLX8 8 false mcX8_says_30_9 ftX8_says hcX8_says_30_9 zULf xcX8_says_30_9 112 = true := by decide +kernel
theorem gcX8_says_30_9 {D : zD} {l : Launch} (hD : zWD D) : zCs D l xcX8_says_30_9 := trivial
theorem tcX8_says_30_9 {D : zD} {l : Launch} (hD : zWD D) : zC D l mcX8_says_30_9 := zk_methC ⟨rfl, rfl⟩ hD poolX8 icX8_says_30_9 jcX8_says_30_9 ftX8_says_ok (gcX8_says_30_9 hD) wcX8_says_30_9 ecX8_says_30_9
def ftX6_takeAct : List (Nat × List (Nat × Instr × Nat)) := [(29, [(0, .aload_n 0, 1), (1, .getfield 9, 3), (4, .invokevirtual 30, 3), (7, .aload_n 0, 1), (8, .getfield 9, 3), (11, .ldc 167, 2), (13, .invokevirtual 53, 3), (16, .ifCond .eq 11, 3), (19, .aload_n 0, 1), (20, .iconst 0, 1), (21, .putfield 160, 3), (24, .goto 151, 3), (27, .aload_n 0, 1), (28, .getfield 9, 3)]), (61, [(31, .ldc 169, 2), (33, .invokevirtual 53, 3), (36, .ifCond .eq 11, 3), (39, .aload_n 0, 1), (40, .iconst 1, 1), (41, .putfield 160, 3), (44, .goto 131, 3), (47, .aload_n 0, 1), (48, .getfield 9, 3), (51, .ldc 171, 2), (53, .invokevirtual 53, 3), (56, .ifCond .eq 11, 3), (59, .aload_n 0, 1), (60, .iconst 2, 1)]), (92, [(61, .putfield 160, 3), (64, .goto 111, 3), (67, .aload_n 0, 1), (68, .getfield 9, 3), (71, .ldc 173, 2), (73, .invokevirtual 53, 3), (76, .ifCond .eq 11, 3), (79, .aload_n 0, 1), (80, .iconst 3, 1), (81, .putfield 160, 3), (84, .goto 91, 3), (87, .aload_n 0, 1), (88, .getfield 9, 3), (91, .ldc 175, 2)]), (122, [(93, .invokevirtual 53, 3), (96, .ifCond .eq 11, 3), (99, .aload_n 0, 1), (100, .iconst 4, 1), (101, .putfield 160, 3), (104, .goto 71, 3), (107, .aload_n 0, 1), (108, .getfield 9, 3), (111, .ldc 177, 2), (113, .invokevirtual 53, 3), (116, .ifCond .eq 11, 3), (119, .aload_n 0, 1), (120, .iconst 5, 1), (121, .putfield 160, 3)]), (155, [(124, .goto 51, 3), (127, .aload_n 0, 1), (128, .getfield 9, 3), (131, .ldc 179, 2), (133, .invokevirtual 53, 3), (136, .ifCond .eq 12, 3), (139, .aload_n 0, 1), (140, .bipush 6, 2), (142, .putfield 160, 3), (145, .goto 30, 3), (148, .aload_n 0, 1), (149, .getfield 9, 3), (152, .ldc 181, 2), (154, .invokevirtual 53, 3)]), (177, [(157, .ifCond .eq 12, 3), (160, .aload_n 0, 1), (161, .bipush 7, 2), (163, .putfield 160, 3), (166, .goto 9, 3), (169, .aload_n 0, 1), (170, .iconst 1, 1), (171, .invokevirtual 36, 3), (174, .ireturn, 1), (175, .iconst 1, 1), (176, .ireturn, 1)])]
theorem ftX6_takeAct_ok : zk_ftb cX6_takeAct ftX6_takeAct = true := by decide +kernel
def qcX6_takeAct : zQ := ((2, 2), ([(2, 1, 0)], ([(0, 0, 0)], [], [], []), ([(1, 34)], [], [], [], [], [(0, [])])), [(some (0, 0, 0), ([(0, 0, 0)], [], [], []), ([], [], [], [], [], [])), (some (0, 0, 1), ([(0, 0, 0)], [], [], []), ([], [], [], [], [], []))], ([(30, 2), (30, 3), (30, 4), (30, 5), (30, 6), (30, 7), (34, 1), (34, 2), (34, 5)], []), (0, 0))
def mcX6_takeAct : zM := (yX6_takeAct, cX6_takeAct, 1, (some .boolean), { frames := 6, cells := 0, slots := 0, locals := 119 }, qcX6_takeAct)
def hcX6_takeAct : zH := ([], [], [], [], ([(167, 6), (169, 7), (171, 8), (173, 9), (175, 10), (177, 11), (179, 12), (181, 13)], 0, 0), 1)
theorem jcX6_takeAct : zk_txok RX6 hcX6_takeAct.2.2.2.2.1 := zk_txb_ok (p := (0, 0)) (by decide +kernel)
def xcX6_takeAct : List zX := [(30, 2, 8, mcX8_step), (36, 2, 6, mcX6_fail), (53, 2, 8, mcX8_says_30_10), (53, 2, 8, mcX8_says_30_11), (53, 2, 8, mcX8_says_30_12), (53, 2, 8, mcX8_says_30_13), (53, 2, 8, mcX8_says_30_6), (53, 2, 8, mcX8_says_30_7), (53, 2, 8, mcX8_says_30_8), (53, 2, 8, mcX8_says_30_9)]
theorem wcX6_takeAct : zk_hwsb zcl RX6 mcX6_takeAct.rm xcX6_takeAct [(537, 76, 534, 535, 536), (623, 77, 620, 622, 5), (559, 76, 556, 557, 558), (559, 76, 556, 557, 558), (559, 76, 556, 557, 558), (559, 76, 556, 557, 558), (559, 76, 556, 557, 558), (559, 76, 556, 557, 558), (559, 76, 556, 557, 558), (559, 76, 556, 557, 558)] = true := by decide +kernel
theorem icX6_takeAct : zk_idb zcl RX6 6 false mcX6_takeAct = true := by decide +kernel
theorem ecX6_takeAct : zk_run zcl zft zTT zPF zPB zSUf zLX6 6 false mcX6_takeAct ftX6_takeAct hcX6_takeAct zULf xcX6_takeAct 51 = true := by decide +kernel
theorem gcX6_takeAct {D : zD} {l : Launch} (hD : zWD D) : zCs D l xcX6_takeAct := ⟨tcX8_step hD, tcX6_fail hD, tcX8_says_30_10 hD, tcX8_says_30_11 hD, tcX8_says_30_12 hD, tcX8_says_30_13 hD, tcX8_says_30_6 hD, tcX8_says_30_7 hD, tcX8_says_30_8 hD, tcX8_says_30_9 hD, trivial⟩
theorem tcX6_takeAct {D : zD} {l : Launch} (hD : zWD D) : zC D l mcX6_takeAct := zk_methC ⟨rfl, rfl⟩ hD poolX6 icX6_takeAct jcX6_takeAct ftX6_takeAct_ok (gcX6_takeAct hD) wcX6_takeAct ecX6_takeAct
