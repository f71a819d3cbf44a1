/-! METHODS (printed by wip/t4) -/
def ftX6_readDrop : List (Nat × List (Nat × Instr × Nat)) := [(25, [(0, .iconst 0, 1), (1, .istore_n 2, 1), (2, .iload_n 2, 1), (3, .bipush 26, 2), (5, .if_icmp .gt 56, 3), (8, .aload_n 0, 1), (9, .getfield 9, 3), (12, .invokevirtual 30, 3), (15, .iload_n 2, 1), (16, .iconst 1, 1), (17, .if_icmp .lt 16, 3), (20, .aload_n 0, 1), (21, .getfield 9, 3), (24, .getfield 33, 3)]), (49, [(27, .iconst 3, 1), (28, .if_icmp .ne 5, 3), (31, .iconst 1, 1), (32, .ireturn, 1), (33, .aload_n 0, 1), (34, .aload_n 1, 1), (35, .invokevirtual 79, 3), (38, .ifCond .ne 5, 3), (41, .iconst 0, 1), (42, .ireturn, 1), (43, .aload_n 1, 1), (44, .aload_n 0, 1), (45, .getfield 9, 3), (48, .invokevirtual 82, 3)]), (67, [(51, .iconst 0, 1), (52, .invokevirtual 86, 3), (55, .iinc 2 1, 3), (58, .goto (-56), 3), (61, .aload_n 0, 1), (62, .iconst 1, 1), (63, .invokevirtual 36, 3), (66, .ireturn, 1)])]
theorem ftX6_readDrop_ok : zk_ftb cX6_readDrop ftX6_readDrop = true := by decide +kernel
def qcX6_readDrop : zQ := ((3, 3), ([(2, 1, 0), (2, 2, 0)], ([(0, 0, 0)], [], [], []), ([(1, 34), (2, 32)], [], [], [], [], [])), [(some (0, 0, 0), ([(0, 0, 0)], [], [], []), ([], [], [], [], [], [])), (some (0, 0, 1), ([(0, 0, 0)], [], [], []), ([], [], [], [], [], []))], ([(30, 2), (30, 3), (30, 4), (30, 5), (30, 6), (30, 7), (34, 1), (34, 2)], [45, 46]), (0, 0))
def mcX6_readDrop : zM := (yX6_readDrop, cX6_readDrop, 3, (some .boolean), { frames := 4, cells := 0, slots := 0, locals := 72 }, qcX6_readDrop)
def hcX6_readDrop : zH := ([(2, [([(0, (2, 1, 0)), (1, (2, 2, 0)), (2, (0, 3, 0))], [], ([(0, 0, 0), (3, 0, 27)], [], [], []), ([(1, 34), (2, 32)], [], [], [], [], []), (4, ([(3, (-1))], 27), 0, 0))])], [], [], [], ([], 0, 0), 55)
theorem jcX6_readDrop : zk_txok RX6 hcX6_readDrop.2.2.2.2.1 := zk_txb_ok (p := (0, 0)) (by decide +kernel)
def xcX6_readDrop : List zX := [(30, 2, 8, mcX8_step), (36, 2, 6, mcX6_fail), (79, 2, 6, mcX6_isNewLetter), (82, 2, 8, mcX8_oneLetter), (86, 2, 7, mcX7_tell)]
theorem wcX6_readDrop : zk_hwsb zcl RX6 mcX6_readDrop.rm xcX6_readDrop [(537, 76, 534, 535, 536), (623, 77, 620, 622, 5), (615, 77, 612, 614, 4), (619, 76, 616, 617, 618), (631, 78, 628, 629, 630)] = true := by decide +kernel
theorem icX6_readDrop : zk_idb zcl RX6 6 false mcX6_readDrop = true := by decide +kernel
theorem ecX6_readDrop : zk_run zcl zft zTT zPF zPB zSUf zLX6 6 false mcX6_readDrop ftX6_readDrop hcX6_readDrop zULf xcX6_readDrop 28 = true := by decide +kernel
theorem gcX6_readDrop {D : zD} {l : Launch} (hD : zWD D) : zCs D l xcX6_readDrop := ⟨tcX8_step hD, tcX6_fail hD, tcX6_isNewLetter hD, tcX8_oneLetter hD, tcX7_tell hD, trivial⟩
theorem tcX6_readDrop {D : zD} {l : Launch} (hD : zWD D) : zC D l mcX6_readDrop := zk_methC ⟨rfl, rfl⟩ hD poolX6 icX6_readDrop jcX6_readDrop ftX6_readDrop_ok (gcX6_readDrop hD) wcX6_readDrop ecX6_readDrop
def ftX6_takeNumber : List (Nat × List (Nat × Instr × Nat)) := [(26, [(0, .aload_n 0, 1), (1, .getfield 9, 3), (4, .invokevirtual 30, 3), (7, .aload_n 0, 1), (8, .getfield 9, 3), (11, .getfield 33, 3), (14, .iconst 2, 1), (15, .if_icmp .eq 9, 3), (18, .aload_n 0, 1), (19, .iconst 1, 1), (20, .invokevirtual 36, 3), (23, .ireturn, 1), (24, .aload_n 0, 1), (25, .getfield 9, 3)]), (56, [(28, .getfield 40, 3), (31, .iload_n 1, 1), (32, .if_icmp .lt 14, 3), (35, .aload_n 0, 1), (36, .getfield 9, 3), (39, .getfield 40, 3), (42, .iload_n 2, 1), (43, .if_icmp .le 11, 3), (46, .aload_n 0, 1), (47, .iconst 2, 1), (48, .invokevirtual 36, 3), (51, .ifCond .eq 7, 3), (54, .iconst 1, 1), (55, .goto 4, 3)]), (60, [(58, .iconst 0, 1), (59, .ireturn, 1)])]
theorem ftX6_takeNumber_ok : zk_ftb cX6_takeNumber ftX6_takeNumber = true := by decide +kernel
def qcX6_takeNumber_k1_k10 : zQ := ((2, 4), ([(2, 1, 0), (0, 0, 1), (0, 0, 10)], ([(0, 0, 0)], [], [], []), ([(1, 34)], [], [], [], [], [])), [(some (0, 0, 0), ([(0, 0, 0)], [], [], []), ([(2, 30)], [(1, 6, 0, (2, 2, 0))], [], [], [], [])), (some (0, 0, 1), ([(0, 0, 0), (3, 1, 10)], [], [], []), ([(2, 30)], [(1, 6, 0, (2, 2, 0)), (2, 8, 7, (0, 3, 0))], [], [], [], []))], ([(30, 2), (30, 3), (30, 4), (30, 5), (30, 6), (30, 7), (34, 1), (34, 2)], []), (0, 0))
def mcX6_takeNumber_k1_k10 : zM := (yX6_takeNumber, cX6_takeNumber, 3, (some .boolean), { frames := 4, cells := 0, slots := 0, locals := 72 }, qcX6_takeNumber_k1_k10)
def hcX6_takeNumber_k1_k10 : zH := ([], [], [], [], ([], 0, 0), 1)
theorem jcX6_takeNumber_k1_k10 : zk_txok RX6 hcX6_takeNumber_k1_k10.2.2.2.2.1 := zk_txb_ok (p := (0, 0)) (by decide +kernel)
def xcX6_takeNumber_k1_k10 : List zX := [(30, 2, 8, mcX8_step), (36, 2, 6, mcX6_fail)]
theorem wcX6_takeNumber_k1_k10 : zk_hwsb zcl RX6 mcX6_takeNumber_k1_k10.rm xcX6_takeNumber_k1_k10 [(537, 76, 534, 535, 536), (623, 77, 620, 622, 5)] = true := by decide +kernel
theorem icX6_takeNumber_k1_k10 : zk_idb zcl RX6 6 false mcX6_takeNumber_k1_k10 = true := by decide +kernel
theorem ecX6_takeNumber_k1_k10 : zk_run zcl zft zTT zPF zPB zSUf zLX6 6 false mcX6_takeNumber_k1_k10 ftX6_takeNumber hcX6_takeNumber_k1_k10 zULf xcX6_takeNumber_k1_k10 26 = true := by decide +kernel
theorem gcX6_takeNumber_k1_k10 {D : zD} {l : Launch} (hD : zWD D) : zCs D l xcX6_takeNumber_k1_k10 := ⟨tcX8_step hD, tcX6_fail hD, trivial⟩
theorem tcX6_takeNumber_k1_k10 {D : zD} {l : Launch} (hD : zWD D) : zC D l mcX6_takeNumber_k1_k10 := zk_methC ⟨rfl, rfl⟩ hD poolX6 icX6_takeNumber_k1_k10 jcX6_takeNumber_k1_k10 ftX6_takeNumber_ok (gcX6_takeNumber_k1_k10 hD) wcX6_takeNumber_k1_k10 ecX6_takeNumber_k1_k10
def ftX6_readFirst : List (Nat × List (Nat × Instr × Nat)) := [(25, [(0, .aload_n 1, 1), (1, .getfield 101, 3), (4, .ifCond .eq 9, 3), (7, .aload_n 0, 1), (8, .iconst 3, 1), (9, .invokevirtual 36, 3), (12, .ireturn, 1), (13, .aload_n 0, 1), (14, .iconst 1, 1), (15, .bipush 10, 2), (17, .invokevirtual 103, 3), (20, .ifCond .ne 5, 3), (23, .iconst 0, 1), (24, .ireturn, 1)]), (41, [(25, .aload_n 1, 1), (26, .aload_n 0, 1), (27, .getfield 9, 3), (30, .getfield 40, 3), (33, .putfield 101, 3), (36, .aload_n 0, 1), (37, .invokevirtual 97, 3), (40, .ireturn, 1)])]
theorem ftX6_readFirst_ok : zk_ftb cX6_readFirst ftX6_readFirst = true := by decide +kernel
def qcX6_readFirst : zQ := ((3, 3), ([(2, 1, 0), (2, 2, 0)], ([(0, 0, 0)], [], [], []), ([(1, 34), (2, 32)], [], [], [], [], [])), [(some (0, 0, 0), ([(0, 0, 0)], [], [], []), ([], [], [], [], [], [])), (some (0, 0, 1), ([(0, 0, 0)], [], [], []), ([], [], [], [], [], []))], ([(30, 2), (30, 3), (30, 4), (30, 5), (30, 6), (30, 7), (32, 3), (34, 1), (34, 2)], []), (0, 0))
def mcX6_readFirst : zM := (yX6_readFirst, cX6_readFirst, 2, (some .boolean), { frames := 5, cells := 0, slots := 0, locals := 94 }, qcX6_readFirst)
def hcX6_readFirst : zH := ([], [], [], [], ([], 0, 0), 1)
theorem jcX6_readFirst : zk_txok RX6 hcX6_readFirst.2.2.2.2.1 := zk_txb_ok (p := (0, 0)) (by decide +kernel)
def xcX6_readFirst : List zX := [(36, 2, 6, mcX6_fail), (97, 2, 6, mcX6_takeSemicolon), (103, 2, 6, mcX6_takeNumber_k1_k10)]
theorem wcX6_readFirst : zk_hwsb zcl RX6 mcX6_readFirst.rm xcX6_readFirst [(623, 77, 620, 622, 5), (645, 77, 642, 644, 8), (654, 77, 651, 653, 10)] = true := by decide +kernel
theorem icX6_readFirst : zk_idb zcl RX6 6 false mcX6_readFirst = true := by decide +kernel
theorem ecX6_readFirst : zk_run zcl zft zTT zPF zPB zSUf zLX6 6 false mcX6_readFirst ftX6_readFirst hcX6_readFirst zULf xcX6_readFirst 18 = true := by decide +kernel
theorem gcX6_readFirst {D : zD} {l : Launch} (hD : zWD D) : zCs D l xcX6_readFirst := ⟨tcX6_fail hD, tcX6_takeSemicolon hD, tcX6_takeNumber_k1_k10 hD, trivial⟩
theorem tcX6_readFirst {D : zD} {l : Launch} (hD : zWD D) : zC D l mcX6_readFirst := zk_methC ⟨rfl, rfl⟩ hD poolX6 icX6_readFirst jcX6_readFirst ftX6_readFirst_ok (gcX6_readFirst hD) wcX6_readFirst ecX6_readFirst
def ftX6_readSame : List (Nat × List (Nat × Instr × Nat)) := [(23, [(0, .iconst 0, 1), (1, .istore_n 2, 1), (2, .iconst 0, 1), (3, .istore_n 3, 1), (4, .iload_n 3, 1), (5, .bipush 26, 2), (7, .if_icmp .gt 68, 3), (10, .aload_n 0, 1), (11, .getfield 9, 3), (14, .invokevirtual 30, 3), (17, .iload_n 3, 1), (18, .iconst 2, 1), (19, .if_icmp .lt 16, 3), (22, .aload_n 0, 1)]), (47, [(23, .getfield 9, 3), (26, .getfield 33, 3), (29, .iconst 3, 1), (30, .if_icmp .ne 5, 3), (33, .iconst 1, 1), (34, .ireturn, 1), (35, .aload_n 0, 1), (36, .aload_n 1, 1), (37, .invokevirtual 79, 3), (40, .ifCond .ne 5, 3), (43, .iconst 0, 1), (44, .ireturn, 1), (45, .iload_n 3, 1), (46, .ifCond .ne 11, 3)]), (77, [(49, .aload_n 0, 1), (50, .getfield 9, 3), (53, .invokevirtual 82, 3), (56, .istore_n 2, 1), (57, .aload_n 1, 1), (58, .aload_n 0, 1), (59, .getfield 9, 3), (62, .invokevirtual 82, 3), (65, .iload_n 2, 1), (66, .invokevirtual 86, 3), (69, .iinc 3 1, 3), (72, .goto (-68), 3), (75, .aload_n 0, 1), (76, .iconst 1, 1)]), (81, [(77, .invokevirtual 36, 3), (80, .ireturn, 1)])]
theorem ftX6_readSame_ok : zk_ftb cX6_readSame ftX6_readSame = true := by decide +kernel
def qcX6_readSame : zQ := ((3, 3), ([(2, 1, 0), (2, 2, 0)], ([(0, 0, 0)], [], [], []), ([(1, 34), (2, 32)], [], [], [], [], [])), [(some (0, 0, 0), ([(0, 0, 0)], [], [], []), ([], [], [], [], [], [])), (some (0, 0, 1), ([(0, 0, 0)], [], [], []), ([], [], [], [], [], []))], ([(30, 2), (30, 3), (30, 4), (30, 5), (30, 6), (30, 7), (34, 1), (34, 2)], [45, 46]), (0, 0))
def mcX6_readSame : zM := (yX6_readSame, cX6_readSame, 4, (some .boolean), { frames := 4, cells := 0, slots := 0, locals := 72 }, qcX6_readSame)
def hcX6_readSame : zH := ([(4, [([(0, (2, 1, 0)), (1, (2, 2, 0)), (2, (0, 3, 0)), (3, (0, 4, 0))], [], ([(0, 0, 0), (3, (-2147483648), 2147483647), (4, 0, 27)], [], [], []), ([(1, 34), (2, 32)], [], [], [], [], []), (5, ([(4, (-1))], 27), 0, 0))])], [], [], [], ([], 0, 0), 55)
theorem jcX6_readSame : zk_txok RX6 hcX6_readSame.2.2.2.2.1 := zk_txb_ok (p := (0, 0)) (by decide +kernel)
def xcX6_readSame : List zX := [(30, 2, 8, mcX8_step), (36, 2, 6, mcX6_fail), (79, 2, 6, mcX6_isNewLetter), (82, 2, 8, mcX8_oneLetter), (86, 2, 7, mcX7_tell)]
theorem wcX6_readSame : zk_hwsb zcl RX6 mcX6_readSame.rm xcX6_readSame [(537, 76, 534, 535, 536), (623, 77, 620, 622, 5), (615, 77, 612, 614, 4), (619, 76, 616, 617, 618), (631, 78, 628, 629, 630)] = true := by decide +kernel
theorem icX6_readSame : zk_idb zcl RX6 6 false mcX6_readSame = true := by decide +kernel
theorem ecX6_readSame : zk_run zcl zft zTT zPF zPB zSUf zLX6 6 false mcX6_readSame ftX6_readSame hcX6_readSame zULf xcX6_readSame 30 = true := by decide +kernel
theorem gcX6_readSame {D : zD} {l : Launch} (hD : zWD D) : zCs D l xcX6_readSame := ⟨tcX8_step hD, tcX6_fail hD, tcX6_isNewLetter hD, tcX8_oneLetter hD, tcX7_tell hD, trivial⟩
theorem tcX6_readSame {D : zD} {l : Launch} (hD : zWD D) : zC D l mcX6_readSame := zk_methC ⟨rfl, rfl⟩ hD poolX6 icX6_readSame jcX6_readSame ftX6_readSame_ok (gcX6_readSame hD) wcX6_readSame ecX6_readSame
def qcX7_clear : zQ := ((2, 2), ([(2, 1, 0)], ([(0, 0, 0)], [], [], []), ([(1, 32)], [], [], [], [], [])), [(none, ([(0, 0, 0)], [], [], []), ([], [], [], [], [], []))], ([(32, 2), (32, 3), (32, 4)], [45, 46]), (0, 0))
def mcX7_clear : zM := (yX7_clear, cX7_clear, 2, none, { frames := 1, cells := 0, slots := 0, locals := 12 }, qcX7_clear)
def hcX7_clear : zH := ([(2, [([(0, (2, 1, 0)), (1, (0, 2, 0))], [], ([(0, 0, 0), (2, 0, 27)], [], [], []), ([(1, 32)], [], [], [], [], []), (3, ([(2, (-1))], 27), 0, 0))])], [], [], [], ([], 0, 0), 55)
theorem jcX7_clear : zk_txok RX7 hcX7_clear.2.2.2.2.1 := zk_txb_ok (p := (0, 0)) (by decide +kernel)
def xcX7_clear : List zX := []
theorem wcX7_clear : zk_hwsb zcl RX7 mcX7_clear.rm xcX7_clear [] = true := by decide +kernel
theorem icX7_clear : zk_idb zcl RX7 7 false mcX7_clear = true := by decide +kernel
theorem ecX7_clear : zk_run zcl zft zTT zPF zPB zSUf zLX7 7 false mcX7_clear ftX7_clear hcX7_clear zULf xcX7_clear 17 = true := by decide +kernel
theorem gcX7_clear {D : zD} {l : Launch} (hD : zWD D) : zCs D l xcX7_clear := trivial
theorem tcX7_clear {D : zD} {l : Launch} (hD : zWD D) : zC D l mcX7_clear := zk_methC ⟨rfl, rfl⟩ hD poolX7 icX7_clear jcX7_clear ftX7_clear_ok (gcX7_clear hD) wcX7_clear ecX7_clear
def ftX8_says : List (Nat × List (Nat × Instr × Nat)) := [(28, [(0, .aload_n 0, 1), (1, .getfield 39, 3), (4, .iconst 1, 1), (5, .if_icmp .ne 30, 3), (8, .aload_n 0, 1), (9, .getfield 29, 3), (12, .aload_n 1, 1), (13, .invokevirtual 54, 3), (16, .if_icmp .ne 19, 3), (19, .aload_n 0, 1), (20, .getfield 26, 3), (23, .aload_n 0, 1), (24, .getfield 29, 3), (27, .iadd, 1)]), (52, [(28, .aload_n 0, 1), (29, .getfield 15, 3), (32, .if_icmp .le 5, 3), (35, .iconst 0, 1), (36, .ireturn, 1), (37, .iconst 0, 1), (38, .istore_n 2, 1), (39, .iload_n 2, 1), (40, .aload_n 0, 1), (41, .getfield 29, 3), (44, .if_icmp .ge 30, 3), (47, .aload_n 0, 1), (48, .getfield 9, 3), (51, .aload_n 0, 1)]), (76, [(52, .getfield 26, 3), (55, .iload_n 2, 1), (56, .iadd, 1), (57, .baload, 1), (58, .aload_n 1, 1), (59, .iload_n 2, 1), (60, .invokevirtual 59, 3), (63, .if_icmp .eq 5, 3), (66, .iconst 0, 1), (67, .ireturn, 1), (68, .iinc 2 1, 3), (71, .goto (-32), 3), (74, .iconst 1, 1), (75, .ireturn, 1)])]
theorem ftX8_says_ok : zk_ftb cX8_says ftX8_says = true := by decide +kernel
def qcX8_says_30_0 : zQ := ((3, 3), ([(2, 1, 0), (2, 2, 0)], ([(0, 0, 0)], [], [], []), ([(1, 30), (2, 0)], [], [], [], [], [(0, [])])), [(some (0, 0, 0), ([(0, 0, 0)], [], [], []), ([], [], [], [], [], [])), (some (0, 0, 1), ([(0, 0, 0)], [], [], []), ([], [], [], [], [], []))], ([], []), (0, 0))
def mcX8_says_30_0 : zM := (yX8_says, cX8_says, 3, (some .boolean), { frames := 5, cells := 0, slots := 0, locals := 97 }, qcX8_says_30_0)
def hcX8_says_30_0 : zH := ([], [], [(57, [(4, 0, 0)])], [], ([], 54, 59), 1)
theorem jcX8_says_30_0 : zk_txok RX8 hcX8_says_30_0.2.2.2.2.1 := zk_txb_ok (p := (560, 570)) (by decide +kernel)
def xcX8_says_30_0 : List zX := []
theorem wcX8_says_30_0 : zk_hwsb zcl RX8 mcX8_says_30_0.rm xcX8_says_30_0 [] = true := by decide +kernel
theorem icX8_says_30_0 : zk_idb zcl RX8 8 false mcX8_says_30_0 = true := by decide +kernel
theorem ecX8_says_30_0 : zk_run zcl zft zTT zPF zPB zSUf zLX8 8 false mcX8_says_30_0 ftX8_says hcX8_says_30_0 zULf xcX8_says_30_0 95 = true := by decide +kernel
theorem gcX8_says_30_0 {D : zD} {l : Launch} (hD : zWD D) : zCs D l xcX8_says_30_0 := trivial
theorem tcX8_says_30_0 {D : zD} {l : Launch} (hD : zWD D) : zC D l mcX8_says_30_0 := zk_methC ⟨rfl, rfl⟩ hD poolX8 icX8_says_30_0 jcX8_says_30_0 ftX8_says_ok (gcX8_says_30_0 hD) wcX8_says_30_0 ecX8_says_30_0
def qcX8_says_30_1 : zQ := ((3, 3), ([(2, 1, 0), (2, 2, 0)], ([(0, 0, 0)], [], [], []), ([(1, 30), (2, 1)], [], [], [], [], [(0, [])])), [(some (0, 0, 0), ([(0, 0, 0)], [], [], []), ([], [], [], [], [], [])), (some (0, 0, 1), ([(0, 0, 0)], [], [], []), ([], [], [], [], [], []))], ([], []), (0, 0))
def mcX8_says_30_1 : zM := (yX8_says, cX8_says, 3, (some .boolean), { frames := 5, cells := 0, slots := 0, locals := 97 }, qcX8_says_30_1)
def hcX8_says_30_1 : zH := ([], [], [(57, [(4, 0, 0)])], [], ([], 54, 59), 1)
theorem jcX8_says_30_1 : zk_txok RX8 hcX8_says_30_1.2.2.2.2.1 := zk_txb_ok (p := (560, 570)) (by decide +kernel)
def xcX8_says_30_1 : List zX := []
theorem wcX8_says_30_1 : zk_hwsb zcl RX8 mcX8_says_30_1.rm xcX8_says_30_1 [] = true := by decide +kernel
theorem icX8_says_30_1 : zk_idb zcl RX8 8 false mcX8_says_30_1 = true := by decide +kernel
theorem ecX8_says_30_1 : zk_run zcl zft zTT zPF zPB zSUf zLX8 8 false mcX8_says_30_1 ftX8_says hcX8_says_30_1 zULf xcX8_says_30_1 95 = true := by decide +kernel
theorem gcX8_says_30_1 {D : zD} {l : Launch} (hD : zWD D) : zCs D l xcX8_says_30_1 := trivial
theorem tcX8_says_30_1 {D : zD} {l : Launch} (hD : zWD D) : zC D l mcX8_says_30_1 := zk_methC ⟨rfl, rfl⟩ hD poolX8 icX8_says_30_1 jcX8_says_30_1 ftX8_says_ok (gcX8_says_30_1 hD) wcX8_says_30_1 ecX8_says_30_1
def qcX8_says_30_2 : zQ := ((3, 3), ([(2, 1, 0), (2, 2, 0)], ([(0, 0, 0)], [], [], []), ([(1, 30), (2, 2)], [], [], [], [], [(0, [])])), [(some (0, 0, 0), ([(0, 0, 0)], [], [], []), ([], [], [], [], [], [])), (some (0, 0, 1), ([(0, 0, 0)], [], [], []), ([], [], [], [], [], []))], ([], []), (0, 0))
def mcX8_says_30_2 : zM := (yX8_says, cX8_says, 3, (some .boolean), { frames := 5, cells := 0, slots := 0, locals := 97 }, qcX8_says_30_2)
def hcX8_says_30_2 : zH := ([], [], [(57, [(4, 0, 0)])], [], ([], 54, 59), 1)
theorem jcX8_says_30_2 : zk_txok RX8 hcX8_says_30_2.2.2.2.2.1 := zk_txb_ok (p := (560, 570)) (by decide +kernel)
def xcX8_says_30_2 : List zX := []
theorem wcX8_says_30_2 : zk_hwsb zcl RX8 mcX8_says_30_2.rm xcX8_says_30_2 [] = true := by decide +kernel
theorem icX8_says_30_2 : zk_idb zcl RX8 8 false mcX8_says_30_2 = true := by decide +kernel
theorem ecX8_says_30_2 : zk_run zcl zft zTT zPF zPB zSUf zLX8 8 false mcX8_says_30_2 ftX8_says hcX8_says_30_2 zULf xcX8_says_30_2 129 = true := by decide +kernel
theorem gcX8_says_30_2 {D : zD} {l : Launch} (hD : zWD D) : zCs D l xcX8_says_30_2 := trivial
theorem tcX8_says_30_2 {D : zD} {l : Launch} (hD : zWD D) : zC D l mcX8_says_30_2 := zk_methC ⟨rfl, rfl⟩ hD poolX8 icX8_says_30_2 jcX8_says_30_2 ftX8_says_ok (gcX8_says_30_2 hD) wcX8_says_30_2 ecX8_says_30_2
