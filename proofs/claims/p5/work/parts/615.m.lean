/-! METHODS (printed by wip/t4) -/
def ftX10_faultOf : List (Nat × List (Nat × Instr × Nat)) := [(26, [(0, .iload_n 1, 1), (1, .iload_n 3, 1), (2, .invokestatic 35, 3), (5, .istore 4, 2), (7, .iload_n 2, 1), (8, .ifCond .ne 19, 3), (11, .aload_n 0, 1), (12, .getfield 24, 3), (15, .iload 4, 2), (17, .baload, 1), (18, .ifCond .eq 7, 3), (21, .iconst 3, 1), (22, .goto 4, 3), (25, .iconst 0, 1)]), (49, [(26, .ireturn, 1), (27, .aload_n 0, 1), (28, .getfield 24, 3), (31, .iload 4, 2), (33, .baload, 1), (34, .ifCond .ne 5, 3), (37, .iconst 5, 1), (38, .ireturn, 1), (39, .iload_n 2, 1), (40, .iconst 3, 1), (41, .if_icmp .eq 18, 3), (44, .aload_n 0, 1), (45, .getfield 28, 3), (48, .iload 4, 2)]), (61, [(50, .baload, 1), (51, .ifCond .eq 8, 3), (54, .bipush 6, 2), (56, .goto 4, 3), (59, .iconst 0, 1), (60, .ireturn, 1)])]
theorem ftX10_faultOf_ok : zk_ftb cX10_faultOf ftX10_faultOf = true := by decide +kernel
def qcX10_faultOf_k0 : zQ := ((4, 5), ([(2, 1, 0), (0, 0, 0), (0, 2, 0), (0, 3, 0)], ([(0, 0, 0), (2, 0, 7), (3, 0, 7)], [], [], []), ([(1, 33)], [], [], [], [], [])), [(some (0, 4, 0), ([(0, 0, 0), (4, 0, 6)], [(4, 2, 5)], [], []), ([], [], [], [], [], []))], ([], []), (0, 0))
def mcX10_faultOf_k0 : zM := (yX10_faultOf, cX10_faultOf, 5, (some .int), { frames := 2, cells := 0, slots := 0, locals := 33 }, qcX10_faultOf_k0)
def hcX10_faultOf_k0 : zH := ([], [], [], [], ([], 0, 0), 1)
theorem jcX10_faultOf_k0 : zk_txok RX10 hcX10_faultOf_k0.2.2.2.2.1 := zk_txb_ok (p := (0, 0)) (by decide +kernel)
def xcX10_faultOf_k0 : List zX := [(35, 0, 0, mcX10_placeOf_k0)]
theorem wcX10_faultOf_k0 : zk_hwsb zcl RX10 mcX10_faultOf_k0.rm xcX10_faultOf_k0 [(766, 80, 764, 765, 0)] = true := by decide +kernel
theorem icX10_faultOf_k0 : zk_idb zcl RX10 10 false mcX10_faultOf_k0 = true := by decide +kernel
theorem ecX10_faultOf_k0 : zk_run zcl zft zTT zPF zPB zSUf zLX10 10 false mcX10_faultOf_k0 ftX10_faultOf hcX10_faultOf_k0 zULf xcX10_faultOf_k0 24 = true := by decide +kernel
theorem gcX10_faultOf_k0 {D : zD} {l : Launch} (hD : zWD D) : zCs D l xcX10_faultOf_k0 := ⟨tcX10_placeOf_k0 hD, trivial⟩
theorem tcX10_faultOf_k0 {D : zD} {l : Launch} (hD : zWD D) : zC D l mcX10_faultOf_k0 := zk_methC ⟨rfl, rfl⟩ hD poolX10 icX10_faultOf_k0 jcX10_faultOf_k0 ftX10_faultOf_ok (gcX10_faultOf_k0 hD) wcX10_faultOf_k0 ecX10_faultOf_k0
def qcX8_oneLetter : zQ := ((2, 3), ([(2, 1, 0)], ([(0, 0, 0)], [], [], []), ([(1, 30)], [], [], [], [], [])), [(some (0, 2, 0), ([(0, 0, 0), (2, (-2147483648), 2147483647)], [], [], []), ([], [], [], [], [], []))], ([], []), (0, 0))
def mcX8_oneLetter : zM := (yX8_oneLetter, cX8_oneLetter, 1, (some .int), { frames := 1, cells := 0, slots := 0, locals := 12 }, qcX8_oneLetter)
def hcX8_oneLetter : zH := ([], [], [(25, [(3, 0, 0)])], [], ([], 0, 0), 1)
theorem jcX8_oneLetter : zk_txok RX8 hcX8_oneLetter.2.2.2.2.1 := zk_txb_ok (p := (0, 0)) (by decide +kernel)
def xcX8_oneLetter : List zX := []
theorem wcX8_oneLetter : zk_hwsb zcl RX8 mcX8_oneLetter.rm xcX8_oneLetter [] = true := by decide +kernel
theorem icX8_oneLetter : zk_idb zcl RX8 8 false mcX8_oneLetter = true := by decide +kernel
theorem ecX8_oneLetter : zk_run zcl zft zTT zPF zPB zSUf zLX8 8 false mcX8_oneLetter ftX8_oneLetter hcX8_oneLetter zULf xcX8_oneLetter 15 = true := by decide +kernel
theorem gcX8_oneLetter {D : zD} {l : Launch} (hD : zWD D) : zCs D l xcX8_oneLetter := trivial
theorem tcX8_oneLetter {D : zD} {l : Launch} (hD : zWD D) : zC D l mcX8_oneLetter := zk_methC ⟨rfl, rfl⟩ hD poolX8 icX8_oneLetter jcX8_oneLetter ftX8_oneLetter_ok (gcX8_oneLetter hD) wcX8_oneLetter ecX8_oneLetter
def ftX6_takeBag : List (Nat × List (Nat × Instr × Nat)) := [(27, [(0, .aload_n 0, 1), (1, .getfield 9, 3), (4, .invokevirtual 30, 3), (7, .aload_n 0, 1), (8, .getfield 9, 3), (11, .invokevirtual 82, 3), (14, .istore_n 3, 1), (15, .iload_n 3, 1), (16, .iconst 1, 1), (17, .if_icmp .lt 9, 3), (20, .iload_n 3, 1), (21, .bipush 8, 2), (23, .if_icmp .le 9, 3), (26, .aload_n 0, 1)]), (47, [(27, .iconst 1, 1), (28, .invokevirtual 36, 3), (31, .ireturn, 1), (32, .aload_n 0, 1), (33, .iload_n 3, 1), (34, .iconst 1, 1), (35, .isub, 1), (36, .putfield 157, 3), (39, .aload_n 1, 1), (40, .iload_n 2, 1), (41, .aload_n 0, 1), (42, .getfield 160, 3), (45, .aload_n 0, 1), (46, .getfield 157, 3)]), (74, [(49, .invokevirtual 183, 3), (52, .istore 4, 2), (54, .iload 4, 2), (56, .ifCond .eq 12, 3), (59, .aload_n 0, 1), (60, .iload 4, 2), (62, .invokevirtual 36, 3), (65, .ifCond .eq 7, 3), (68, .iconst 1, 1), (69, .goto 4, 3), (72, .iconst 0, 1), (73, .ireturn, 1)])]
theorem ftX6_takeBag_ok : zk_ftb cX6_takeBag ftX6_takeBag = true := by decide +kernel
def qcX6_takeBag_k0 : zQ := ((3, 3), ([(2, 1, 0), (2, 2, 0), (0, 0, 0)], ([(0, 0, 0)], [], [], []), ([(1, 34), (2, 33)], [], [], [], [], [])), [(some (0, 0, 0), ([(0, 0, 0)], [], [], []), ([], [], [], [], [], [])), (some (0, 0, 1), ([(0, 0, 0)], [], [], []), ([], [], [], [], [], []))], ([(30, 2), (30, 3), (30, 4), (30, 5), (30, 6), (30, 7), (34, 1), (34, 2), (34, 6)], []), (0, 0))
def mcX6_takeBag_k0 : zM := (yX6_takeBag, cX6_takeBag, 5, (some .boolean), { frames := 4, cells := 0, slots := 0, locals := 72 }, qcX6_takeBag_k0)
def hcX6_takeBag_k0 : zH := ([], [], [], [], ([], 0, 0), 1)
theorem jcX6_takeBag_k0 : zk_txok RX6 hcX6_takeBag_k0.2.2.2.2.1 := zk_txb_ok (p := (0, 0)) (by decide +kernel)
def xcX6_takeBag_k0 : List zX := [(30, 2, 8, mcX8_step), (36, 2, 6, mcX6_fail), (82, 2, 8, mcX8_oneLetter), (183, 2, 10, mcX10_faultOf_k0)]
theorem wcX6_takeBag_k0 : zk_hwsb zcl RX6 mcX6_takeBag_k0.rm xcX6_takeBag_k0 [(537, 76, 534, 535, 536), (623, 77, 620, 622, 5), (619, 76, 616, 617, 618), (763, 80, 760, 761, 762)] = true := by decide +kernel
theorem icX6_takeBag_k0 : zk_idb zcl RX6 6 false mcX6_takeBag_k0 = true := by decide +kernel
theorem ecX6_takeBag_k0 : zk_run zcl zft zTT zPF zPB zSUf zLX6 6 false mcX6_takeBag_k0 ftX6_takeBag hcX6_takeBag_k0 zULf xcX6_takeBag_k0 36 = true := by decide +kernel
theorem gcX6_takeBag_k0 {D : zD} {l : Launch} (hD : zWD D) : zCs D l xcX6_takeBag_k0 := ⟨tcX8_step hD, tcX6_fail hD, tcX8_oneLetter hD, tcX10_faultOf_k0 hD, trivial⟩
theorem tcX6_takeBag_k0 {D : zD} {l : Launch} (hD : zWD D) : zC D l mcX6_takeBag_k0 := zk_methC ⟨rfl, rfl⟩ hD poolX6 icX6_takeBag_k0 jcX6_takeBag_k0 ftX6_takeBag_ok (gcX6_takeBag_k0 hD) wcX6_takeBag_k0 ecX6_takeBag_k0
def qcX10_faultOf_k1 : zQ := ((4, 5), ([(2, 1, 0), (0, 0, 1), (0, 2, 0), (0, 3, 0)], ([(0, 0, 0), (2, 0, 7), (3, 0, 7)], [], [], []), ([(1, 33)], [], [], [], [], [])), [(some (0, 4, 0), ([(0, 0, 0), (4, 0, 6)], [(4, 2, 5)], [], []), ([], [], [], [], [], []))], ([], []), (0, 0))
def mcX10_faultOf_k1 : zM := (yX10_faultOf, cX10_faultOf, 5, (some .int), { frames := 2, cells := 0, slots := 0, locals := 33 }, qcX10_faultOf_k1)
def hcX10_faultOf_k1 : zH := ([], [], [], [], ([], 0, 0), 1)
theorem jcX10_faultOf_k1 : zk_txok RX10 hcX10_faultOf_k1.2.2.2.2.1 := zk_txb_ok (p := (0, 0)) (by decide +kernel)
def xcX10_faultOf_k1 : List zX := [(35, 0, 0, mcX10_placeOf_k1)]
theorem wcX10_faultOf_k1 : zk_hwsb zcl RX10 mcX10_faultOf_k1.rm xcX10_faultOf_k1 [(766, 80, 764, 765, 0)] = true := by decide +kernel
theorem icX10_faultOf_k1 : zk_idb zcl RX10 10 false mcX10_faultOf_k1 = true := by decide +kernel
theorem ecX10_faultOf_k1 : zk_run zcl zft zTT zPF zPB zSUf zLX10 10 false mcX10_faultOf_k1 ftX10_faultOf hcX10_faultOf_k1 zULf xcX10_faultOf_k1 24 = true := by decide +kernel
theorem gcX10_faultOf_k1 {D : zD} {l : Launch} (hD : zWD D) : zCs D l xcX10_faultOf_k1 := ⟨tcX10_placeOf_k1 hD, trivial⟩
theorem tcX10_faultOf_k1 {D : zD} {l : Launch} (hD : zWD D) : zC D l mcX10_faultOf_k1 := zk_methC ⟨rfl, rfl⟩ hD poolX10 icX10_faultOf_k1 jcX10_faultOf_k1 ftX10_faultOf_ok (gcX10_faultOf_k1 hD) wcX10_faultOf_k1 ecX10_faultOf_k1
def qcX6_takeBag_k1 : zQ := ((3, 3), ([(2, 1, 0), (2, 2, 0), (0, 0, 1)], ([(0, 0, 0)], [], [], []), ([(1, 34), (2, 33)], [], [], [], [], [])), [(some (0, 0, 0), ([(0, 0, 0)], [], [], []), ([], [], [], [], [], [])), (some (0, 0, 1), ([(0, 0, 0)], [], [], []), ([], [], [], [], [], []))], ([(30, 2), (30, 3), (30, 4), (30, 5), (30, 6), (30, 7), (34, 1), (34, 2), (34, 6)], []), (0, 0))
def mcX6_takeBag_k1 : zM := (yX6_takeBag, cX6_takeBag, 5, (some .boolean), { frames := 4, cells := 0, slots := 0, locals := 72 }, qcX6_takeBag_k1)
def hcX6_takeBag_k1 : zH := ([], [], [], [], ([], 0, 0), 1)
theorem jcX6_takeBag_k1 : zk_txok RX6 hcX6_takeBag_k1.2.2.2.2.1 := zk_txb_ok (p := (0, 0)) (by decide +kernel)
def xcX6_takeBag_k1 : List zX := [(30, 2, 8, mcX8_step), (36, 2, 6, mcX6_fail), (82, 2, 8, mcX8_oneLetter), (183, 2, 10, mcX10_faultOf_k1)]
theorem wcX6_takeBag_k1 : zk_hwsb zcl RX6 mcX6_takeBag_k1.rm xcX6_takeBag_k1 [(537, 76, 534, 535, 536), (623, 77, 620, 622, 5), (619, 76, 616, 617, 618), (763, 80, 760, 761, 762)] = true := by decide +kernel
theorem icX6_takeBag_k1 : zk_idb zcl RX6 6 false mcX6_takeBag_k1 = true := by decide +kernel
theorem ecX6_takeBag_k1 : zk_run zcl zft zTT zPF zPB zSUf zLX6 6 false mcX6_takeBag_k1 ftX6_takeBag hcX6_takeBag_k1 zULf xcX6_takeBag_k1 36 = true := by decide +kernel
theorem gcX6_takeBag_k1 {D : zD} {l : Launch} (hD : zWD D) : zCs D l xcX6_takeBag_k1 := ⟨tcX8_step hD, tcX6_fail hD, tcX8_oneLetter hD, tcX10_faultOf_k1 hD, trivial⟩
theorem tcX6_takeBag_k1 {D : zD} {l : Launch} (hD : zWD D) : zC D l mcX6_takeBag_k1 := zk_methC ⟨rfl, rfl⟩ hD poolX6 icX6_takeBag_k1 jcX6_takeBag_k1 ftX6_takeBag_ok (gcX6_takeBag_k1 hD) wcX6_takeBag_k1 ecX6_takeBag_k1
def qcX6_takeNumber_k1_k60 : zQ := ((2, 4), ([(2, 1, 0), (0, 0, 1), (0, 0, 60)], ([(0, 0, 0)], [], [], []), ([(1, 34)], [], [], [], [], [])), [(some (0, 0, 0), ([(0, 0, 0)], [], [], []), ([(2, 30)], [(1, 6, 0, (2, 2, 0))], [], [], [], [])), (some (0, 0, 1), ([(0, 0, 0), (3, 1, 60)], [], [], []), ([(2, 30)], [(1, 6, 0, (2, 2, 0)), (2, 8, 7, (0, 3, 0))], [], [], [], []))], ([(30, 2), (30, 3), (30, 4), (30, 5), (30, 6), (30, 7), (34, 1), (34, 2)], []), (0, 0))
def mcX6_takeNumber_k1_k60 : zM := (yX6_takeNumber, cX6_takeNumber, 3, (some .boolean), { frames := 4, cells := 0, slots := 0, locals := 72 }, qcX6_takeNumber_k1_k60)
def hcX6_takeNumber_k1_k60 : zH := ([], [], [], [], ([], 0, 0), 1)
theorem jcX6_takeNumber_k1_k60 : zk_txok RX6 hcX6_takeNumber_k1_k60.2.2.2.2.1 := zk_txb_ok (p := (0, 0)) (by decide +kernel)
def xcX6_takeNumber_k1_k60 : List zX := [(30, 2, 8, mcX8_step), (36, 2, 6, mcX6_fail)]
theorem wcX6_takeNumber_k1_k60 : zk_hwsb zcl RX6 mcX6_takeNumber_k1_k60.rm xcX6_takeNumber_k1_k60 [(537, 76, 534, 535, 536), (623, 77, 620, 622, 5)] = true := by decide +kernel
theorem icX6_takeNumber_k1_k60 : zk_idb zcl RX6 6 false mcX6_takeNumber_k1_k60 = true := by decide +kernel
theorem ecX6_takeNumber_k1_k60 : zk_run zcl zft zTT zPF zPB zSUf zLX6 6 false mcX6_takeNumber_k1_k60 ftX6_takeNumber hcX6_takeNumber_k1_k60 zULf xcX6_takeNumber_k1_k60 26 = true := by decide +kernel
theorem gcX6_takeNumber_k1_k60 {D : zD} {l : Launch} (hD : zWD D) : zCs D l xcX6_takeNumber_k1_k60 := ⟨tcX8_step hD, tcX6_fail hD, trivial⟩
theorem tcX6_takeNumber_k1_k60 {D : zD} {l : Launch} (hD : zWD D) : zC D l mcX6_takeNumber_k1_k60 := zk_methC ⟨rfl, rfl⟩ hD poolX6 icX6_takeNumber_k1_k60 jcX6_takeNumber_k1_k60 ftX6_takeNumber_ok (gcX6_takeNumber_k1_k60 hD) wcX6_takeNumber_k1_k60 ecX6_takeNumber_k1_k60
def qcX8_says_30_4 : zQ := ((3, 3), ([(2, 1, 0), (2, 2, 0)], ([(0, 0, 0)], [], [], []), ([(1, 30), (2, 4)], [], [], [], [], [(0, [])])), [(some (0, 0, 0), ([(0, 0, 0)], [], [], []), ([], [], [], [], [], [])), (some (0, 0, 1), ([(0, 0, 0)], [], [], []), ([], [], [], [], [], []))], ([], []), (0, 0))
def mcX8_says_30_4 : zM := (yX8_says, cX8_says, 3, (some .boolean), { frames := 5, cells := 0, slots := 0, locals := 97 }, qcX8_says_30_4)
def hcX8_says_30_4 : zH := ([], [], [(57, [(4, 0, 0)])], [], ([], 54, 59), 1)
theorem jcX8_says_30_4 : zk_txok RX8 hcX8_says_30_4.2.2.2.2.1 := zk_txb_ok (p := (560, 570)) (by decide +kernel)
def xcX8_says_30_4 : List zX := []
theorem wcX8_says_30_4 : zk_hwsb zcl RX8 mcX8_says_30_4.rm xcX8_says_30_4 [] = true := by decide +kernel
theorem icX8_says_30_4 : zk_idb zcl RX8 8 false mcX8_says_30_4 = true := by decide +kernel
theorem ecX8_says_30_4 : zk_run zcl zft zTT zPF zPB zSUf zLX8 8 false mcX8_says_30_4 ftX8_says hcX8_says_30_4 zULf xcX8_says_30_4 78 = true := by decide +kernel
theorem gcX8_says_30_4 {D : zD} {l : Launch} (hD : zWD D) : zCs D l xcX8_says_30_4 := trivial
theorem tcX8_says_30_4 {D : zD} {l : Launch} (hD : zWD D) : zC D l mcX8_says_30_4 := zk_methC ⟨rfl, rfl⟩ hD poolX8 icX8_says_30_4 jcX8_says_30_4 ftX8_says_ok (gcX8_says_30_4 hD) wcX8_says_30_4 ecX8_says_30_4
def qcX8_says_30_5 : zQ := ((3, 3), ([(2, 1, 0), (2, 2, 0)], ([(0, 0, 0)], [], [], []), ([(1, 30), (2, 5)], [], [], [], [], [(0, [])])), [(some (0, 0, 0), ([(0, 0, 0)], [], [], []), ([], [], [], [], [], [])), (some (0, 0, 1), ([(0, 0, 0)], [], [], []), ([], [], [], [], [], []))], ([], []), (0, 0))
def mcX8_says_30_5 : zM := (yX8_says, cX8_says, 3, (some .boolean), { frames := 5, cells := 0, slots := 0, locals := 97 }, qcX8_says_30_5)
def hcX8_says_30_5 : zH := ([], [], [(57, [(4, 0, 0)])], [], ([], 54, 59), 1)
theorem jcX8_says_30_5 : zk_txok RX8 hcX8_says_30_5.2.2.2.2.1 := zk_txb_ok (p := (560, 570)) (by decide +kernel)
def xcX8_says_30_5 : List zX := []
theorem wcX8_says_30_5 : zk_hwsb zcl RX8 mcX8_says_30_5.rm xcX8_says_30_5 [] = true := by decide +kernel
theorem icX8_says_30_5 : zk_idb zcl RX8 8 false mcX8_says_30_5 = true := by decide +kernel
theorem ecX8_says_30_5 : zk_run zcl zft zTT zPF zPB zSUf zLX8 8 false mcX8_says_30_5 ftX8_says hcX8_says_30_5 zULf xcX8_says_30_5 78 = true := by decide +kernel
theorem gcX8_says_30_5 {D : zD} {l : Launch} (hD : zWD D) : zCs D l xcX8_says_30_5 := trivial
theorem tcX8_says_30_5 {D : zD} {l : Launch} (hD : zWD D) : zC D l mcX8_says_30_5 := zk_methC ⟨rfl, rfl⟩ hD poolX8 icX8_says_30_5 jcX8_says_30_5 ftX8_says_ok (gcX8_says_30_5 hD) wcX8_says_30_5 ecX8_says_30_5
def ftX6_readLine : List (Nat × List (Nat × Instr × Nat)) := [(27, [(0, .aload_n 0, 1), (1, .getfield 9, 3), (4, .ldc 143, 2), (6, .invokevirtual 53, 3), (9, .ifCond .eq 7, 3), (12, .iconst 1, 1), (13, .goto 4, 3), (16, .iconst 0, 1), (17, .istore_n 2, 1), (18, .iload_n 2, 1), (19, .ifCond .ne 21, 3), (22, .aload_n 0, 1), (23, .getfield 9, 3), (26, .ldc 145, 2)]), (55, [(28, .invokevirtual 53, 3), (31, .ifCond .ne 9, 3), (34, .aload_n 0, 1), (35, .iconst 1, 1), (36, .invokevirtual 36, 3), (39, .ireturn, 1), (40, .aload_n 1, 1), (41, .getfield 147, 3), (44, .bipush 30, 2), (46, .if_icmp .lt 9, 3), (49, .aload_n 0, 1), (50, .iconst 4, 1), (51, .invokevirtual 36, 3), (54, .ireturn, 1)]), (79, [(55, .aload_n 0, 1), (56, .invokevirtual 150, 3), (59, .ifCond .eq 12, 3), (62, .aload_n 0, 1), (63, .aload_n 1, 1), (64, .iload_n 2, 1), (65, .invokevirtual 153, 3), (68, .ifCond .ne 5, 3), (71, .iconst 0, 1), (72, .ireturn, 1), (73, .aload_n 0, 1), (74, .getfield 157, 3), (77, .istore_n 3, 1), (78, .iconst 0, 1)]), (103, [(79, .istore 4, 2), (81, .aload_n 0, 1), (82, .getfield 160, 3), (85, .iconst 5, 1), (86, .if_icmp .ne 27, 3), (89, .aload_n 0, 1), (90, .iconst 1, 1), (91, .bipush 60, 2), (93, .invokevirtual 103, 3), (96, .ifCond .ne 5, 3), (99, .iconst 0, 1), (100, .ireturn, 1), (101, .aload_n 0, 1), (102, .getfield 9, 3)]), (134, [(105, .getfield 40, 3), (108, .istore 4, 2), (110, .goto 38, 3), (113, .aload_n 0, 1), (114, .getfield 160, 3), (117, .bipush 6, 2), (119, .if_icmp .eq 12, 3), (122, .aload_n 0, 1), (123, .getfield 160, 3), (126, .bipush 7, 2), (128, .if_icmp .ne 20, 3), (131, .aload_n 0, 1), (132, .aload_n 1, 1), (133, .iload_n 2, 1)]), (159, [(134, .invokevirtual 153, 3), (137, .ifCond .ne 5, 3), (140, .iconst 0, 1), (141, .ireturn, 1), (142, .aload_n 0, 1), (143, .getfield 157, 3), (146, .istore 4, 2), (148, .aload_n 0, 1), (149, .invokevirtual 97, 3), (152, .ifCond .ne 5, 3), (155, .iconst 0, 1), (156, .ireturn, 1), (157, .aload_n 1, 1), (158, .iload_n 2, 1)]), (171, [(159, .aload_n 0, 1), (160, .getfield 160, 3), (163, .iload_n 3, 1), (164, .iload 4, 2), (166, .invokevirtual 163, 3), (169, .iconst 1, 1), (170, .ireturn, 1)])]
theorem ftX6_readLine_ok : zk_ftb cX6_readLine ftX6_readLine = true := by decide +kernel
def qcX6_readLine : zQ := ((3, 3), ([(2, 1, 0), (2, 2, 0)], ([(0, 0, 0)], [], [], []), ([(1, 34), (2, 33)], [], [], [], [], [(0, []), (100, [])])), [(some (0, 0, 0), ([(0, 0, 0)], [], [], []), ([], [], [], [], [], [(100, [])])), (some (0, 0, 1), ([(0, 0, 0)], [], [], []), ([], [], [], [], [], [(100, [])]))], ([(30, 2), (30, 3), (30, 4), (30, 5), (30, 6), (30, 7), (33, 6), (34, 1), (34, 2), (34, 5), (34, 6)], [52, 53, 54, 55, 56, 57]), (0, 0))
def mcX6_readLine : zM := (yX6_readLine, cX6_readLine, 5, (some .boolean), { frames := 7, cells := 0, slots := 0, locals := 139 }, qcX6_readLine)
def hcX6_readLine : zH := ([], [], [], [], ([(143, 4), (145, 5)], 0, 0), 1)
theorem jcX6_readLine : zk_txok RX6 hcX6_readLine.2.2.2.2.1 := zk_txb_ok (p := (0, 0)) (by decide +kernel)
def xcX6_readLine : List zX := [(36, 2, 6, mcX6_fail), (53, 2, 8, mcX8_says_30_4), (53, 2, 8, mcX8_says_30_5), (97, 2, 6, mcX6_takeSemicolon), (103, 2, 6, mcX6_takeNumber_k1_k60), (150, 2, 6, mcX6_takeAct), (153, 2, 6, mcX6_takeBag_k0), (153, 2, 6, mcX6_takeBag_k1), (163, 2, 10, mcX10_add_a_k0), (163, 2, 10, mcX10_add_a_k1), (163, 2, 10, mcX10_add_b_k0), (163, 2, 10, mcX10_add_b_k1)]
theorem wcX6_readLine : zk_hwsb zcl RX6 mcX6_readLine.rm xcX6_readLine [(623, 77, 620, 622, 5), (559, 76, 556, 557, 558), (559, 76, 556, 557, 558), (645, 77, 642, 644, 8), (654, 77, 651, 653, 10), (747, 77, 744, 746, 17), (759, 77, 756, 758, 18), (759, 77, 756, 758, 18), (770, 80, 767, 768, 769), (770, 80, 767, 768, 769), (770, 80, 767, 768, 769), (770, 80, 767, 768, 769)] = true := by decide +kernel
theorem icX6_readLine : zk_idb zcl RX6 6 false mcX6_readLine = true := by decide +kernel
theorem ecX6_readLine : zk_run zcl zft zTT zPF zPB zSUf zLX6 6 false mcX6_readLine ftX6_readLine hcX6_readLine zULf xcX6_readLine 65 = true := by decide +kernel
theorem gcX6_readLine {D : zD} {l : Launch} (hD : zWD D) : zCs D l xcX6_readLine := ⟨tcX6_fail hD, tcX8_says_30_4 hD, tcX8_says_30_5 hD, tcX6_takeSemicolon hD, tcX6_takeNumber_k1_k60 hD, tcX6_takeAct hD, tcX6_takeBag_k0 hD, tcX6_takeBag_k1 hD, tcX10_add_a_k0 hD, tcX10_add_a_k1 hD, tcX10_add_b_k0 hD, tcX10_add_b_k1 hD, trivial⟩
theorem tcX6_readLine {D : zD} {l : Launch} (hD : zWD D) : zC D l mcX6_readLine := zk_methC ⟨rfl, rfl⟩ hD poolX6 icX6_readLine jcX6_readLine ftX6_readLine_ok (gcX6_readLine hD) wcX6_readLine ecX6_readLine
