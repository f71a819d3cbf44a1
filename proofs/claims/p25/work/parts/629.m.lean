/-! METHODS (printed by wip/t6) -/
def qcX6_readWord : zQ := ((2, 2), ([(2, 1, 0)], ([(0, 0, 0)], [], [], []), ([(1, 34)], [], [], [], [], [])), [(some (0, 0, 0), ([(0, 0, 0)], [], [], []), ([], [], [], [], [], [])), (some (0, 0, 1), ([(0, 0, 0)], [], [], []), ([], [], [], [], [], []))], ([(30, 2), (30, 3), (30, 4), (30, 5), (30, 6), (30, 7), (34, 3)], []), (0, 0))
def mcX6_readWord : zM := (yX6_readWord, cX6_readWord, 1, (some .boolean), { frames := 4, cells := 0, slots := 0, locals := 72 }, qcX6_readWord)
def hcX6_readWord : zH := ([], [], [], [], ([], 0, 0), 1)
theorem jcX6_readWord : zk_txok RX6 hcX6_readWord.2.2.2.2.1 := zk_txb_ok (p := (0, 0)) (by decide +kernel)
def xcX6_readWord : List zX := [(22, 2, 8, mcX8_rewind), (30, 2, 8, mcX8_step)]
theorem wcX6_readWord : zk_hwsb zcl RX6 mcX6_readWord.rm xcX6_readWord [(532, 76, 529, 530, 531), (537, 76, 534, 535, 536)] = true := by decide +kernel
theorem icX6_readWord : zk_idb zcl RX6 6 false mcX6_readWord = true := by decide +kernel
theorem ecX6_readWord : zk_run zcl zft zTT zPF zPB zSUf zLX6 6 false mcX6_readWord ftX6_readWord hcX6_readWord zULf xcX6_readWord 28 = true := by decide +kernel
theorem gcX6_readWord {D : zD} {l : Launch} (hD : zWD D) : zCs D l xcX6_readWord := ⟨tcX8_rewind hD, tcX8_step hD, trivial⟩
theorem tcX6_readWord {D : zD} {l : Launch} (hD : zWD D) : zC D l mcX6_readWord := zk_methC ⟨rfl, rfl⟩ hD poolX6 icX6_readWord jcX6_readWord ftX6_readWord_ok (gcX6_readWord hD) wcX6_readWord ecX6_readWord
def ftX11_goes : List (Nat × List (Nat × Instr × Nat)) := [(26, [(0, .aload_n 0, 1), (1, .getfield 21, 3), (4, .invokevirtual 156, 3), (7, .istore_n 3, 1), (8, .aload_n 0, 1), (9, .getfield 12, 3), (12, .iconst 0, 1), (13, .putfield 103, 3), (16, .iload_n 1, 1), (17, .invokestatic 123, 3), (20, .ifCond .eq 11, 3), (23, .aload_n 0, 1), (24, .iload_n 2, 1), (25, .invokevirtual 299, 3)]), (51, [(28, .ifCond .ne 6, 3), (31, .bipush (-2), 2), (33, .ireturn, 1), (34, .iload_n 3, 1), (35, .ifCond .ne 5, 3), (38, .iconst (-1), 1), (39, .ireturn, 1), (40, .aload_n 0, 1), (41, .getfield 38, 3), (44, .iload_n 1, 1), (45, .aaload, 1), (46, .astore 4, 2), (48, .aload 4, 2), (50, .aload_n 0, 1)]), (79, [(51, .getfield 28, 3), (54, .aload_n 0, 1), (55, .getfield 21, 3), (58, .getfield 160, 3), (61, .invokevirtual 164, 3), (64, .iload_n 2, 1), (65, .invokevirtual 302, 3), (68, .istore 5, 2), (70, .iload 5, 2), (72, .iconst (-1), 1), (73, .if_icmp .ne 5, 3), (76, .iconst (-1), 1), (77, .ireturn, 1), (78, .aload_n 0, 1)]), (105, [(79, .getfield 97, 3), (82, .bipush 40, 2), (84, .if_icmp .lt 6, 3), (87, .bipush (-3), 2), (89, .ireturn, 1), (90, .aload 4, 2), (92, .getfield 318, 3), (95, .iload 5, 2), (97, .iload_n 2, 1), (98, .iastore, 1), (99, .aload_n 0, 1), (100, .iload_n 2, 1), (101, .invokevirtual 315, 3), (104, .ireturn, 1)])]
theorem ftX11_goes_ok : zk_ftb cX11_goes ftX11_goes = true := by decide +kernel
def qcX11_goes : zQ := ((6, 7), ([(2, 1, 0), (0, 2, 0), (0, 3, 0)], ([(0, 0, 0), (2, (-2147483648), 2147483647), (3, (-2147483648), 2147483647), (5, 0, 1200)], [], [], []), ([(1, 42), (4, 30)], [(1, 11, 0, (2, 4, 0)), (4, 8, 1, (0, 5, 0))], [], [], [], [])), [(some (0, 0, (-1)), ([(0, 0, 0), (2, 0, 1), (3, 0, 400)], [], [], []), ([], [(1, 11, 0, (2, 4, 0)), (4, 8, 1, (0, 0, 0))], [], [], [], [])), (some (0, 0, (-2)), ([(0, 0, 0)], [], [], []), ([], [(1, 11, 0, (2, 4, 0)), (4, 8, 1, (0, 0, 0))], [], [], [], [])), (some (0, 0, (-3)), ([(0, 0, 0), (2, 0, 1), (3, 0, 400)], [], [], []), ([], [(1, 11, 0, (2, 4, 0)), (4, 8, 1, (0, 0, 0))], [], [], [], [])), (some (0, 6, 0), ([(0, 0, 0), (6, 1, 40), (2, 0, 1), (3, 0, 400)], [], [], []), ([], [(1, 11, 0, (2, 4, 0)), (4, 8, 1, (0, 0, 0))], [], [], [], []))], ([(30, 1), (30, 2), (30, 3), (30, 4), (30, 5), (30, 6), (30, 7), (34, 3), (42, 14), (42, 15)], [51]), (0, 0))
def mcX11_goes : zM := (yX11_goes, cX11_goes, 6, (some .int), { frames := 5, cells := 0, slots := 0, locals := 92 }, qcX11_goes)
def hcX11_goes : zH := ([], [], [], [], ([], 0, 0), 1)
theorem jcX11_goes : zk_txok RX11 hcX11_goes.2.2.2.2.1 := zk_txb_ok (p := (0, 0)) (by decide +kernel)
def xcX11_goes : List zX := [(123, 0, 0, mcX11_isSide), (156, 2, 6, mcX6_readWord), (164, 2, 7, mcX7_keyOf), (299, 2, 11, mcX11_isNextDay), (302, 2, 4, mcX4_find), (315, 2, 11, mcX11_countChange)]
theorem wcX11_goes : zk_hwsb zcl RX11 mcX11_goes.rm xcX11_goes [(673, 75, 671, 672, 0), (782, 77, 779, 780, 781), (690, 78, 783, 688, 689), (1089, 75, 1086, 1088, 34), (697, 79, 1090, 695, 696), (1099, 75, 1096, 1098, 35)] = true := by decide +kernel
theorem icX11_goes : zk_idb zcl RX11 11 false mcX11_goes = true := by decide +kernel
theorem ecX11_goes : zk_run zcl zft zTT zPF zPB zSUf zLX11 11 false mcX11_goes ftX11_goes hcX11_goes zULf xcX11_goes 50 = true := by decide +kernel
theorem gcX11_goes {D : zD} {l : Launch} (hD : zWD D) : zCs D l xcX11_goes := ⟨tcX11_isSide hD, tcX6_readWord hD, tcX7_keyOf hD, tcX11_isNextDay hD, tcX4_find hD, tcX11_countChange hD, trivial⟩
theorem tcX11_goes {D : zD} {l : Launch} (hD : zWD D) : zC D l mcX11_goes := zk_methC ⟨rfl, rfl⟩ hD poolX11 icX11_goes jcX11_goes ftX11_goes_ok (gcX11_goes hD) wcX11_goes ecX11_goes
def ftX11_isDay : List (Nat × List (Nat × Instr × Nat)) := [(17, [(0, .iload_n 0, 1), (1, .ifCond .lt 14, 3), (4, .iload_n 0, 1), (5, .sipush 400, 3), (8, .if_icmp .gt 7, 3), (11, .iconst 1, 1), (12, .goto 4, 3), (15, .iconst 0, 1), (16, .ireturn, 1)])]
theorem ftX11_isDay_ok : zk_ftb cX11_isDay ftX11_isDay = true := by decide +kernel
def qcX11_isDay : zQ := ((2, 2), ([(0, 1, 0)], ([(0, 0, 0), (1, (-2147483648), 2147483647)], [], [], []), ([], [], [], [], [], [])), [(some (0, 0, 0), ([(0, 0, 0)], [], [], []), ([], [], [], [], [], [])), (some (0, 0, 1), ([(0, 0, 0), (1, 0, 400)], [], [], []), ([], [], [], [], [], []))], ([], []), (0, 0))
def mcX11_isDay : zM := (yX11_isDay, cX11_isDay, 1, (some .boolean), { frames := 1, cells := 0, slots := 0, locals := 12 }, qcX11_isDay)
def hcX11_isDay : zH := ([], [], [], [], ([], 0, 0), 1)
theorem jcX11_isDay : zk_txok RX11 hcX11_isDay.2.2.2.2.1 := zk_txb_ok (p := (0, 0)) (by decide +kernel)
def xcX11_isDay : List zX := []
theorem wcX11_isDay : zk_hwsb zcl RX11 mcX11_isDay.rm xcX11_isDay [] = true := by decide +kernel
theorem icX11_isDay : zk_idb zcl RX11 11 false mcX11_isDay = true := by decide +kernel
theorem ecX11_isDay : zk_run zcl zft zTT zPF zPB zSUf zLX11 11 false mcX11_isDay ftX11_isDay hcX11_isDay zULf xcX11_isDay 10 = true := by decide +kernel
theorem gcX11_isDay {D : zD} {l : Launch} (hD : zWD D) : zCs D l xcX11_isDay := trivial
theorem tcX11_isDay {D : zD} {l : Launch} (hD : zWD D) : zC D l mcX11_isDay := zk_methC ⟨rfl, rfl⟩ hD poolX11 icX11_isDay jcX11_isDay ftX11_isDay_ok (gcX11_isDay hD) wcX11_isDay ecX11_isDay
def ftX11_both : List (Nat × List (Nat × Instr × Nat)) := [(21, [(0, .iload_n 1, 1), (1, .invokestatic 321, 3), (4, .ifCond .ne 6, 3), (7, .bipush (-2), 2), (9, .ireturn, 1), (10, .aload_n 0, 1), (11, .getfield 38, 3), (14, .iconst 0, 1), (15, .aaload, 1), (16, .astore_n 2, 1), (17, .iconst 0, 1), (18, .istore_n 3, 1), (19, .iconst 0, 1), (20, .istore 4, 2)]), (48, [(22, .iload 4, 2), (24, .aload_n 2, 1), (25, .getfield 324, 3), (28, .if_icmp .ge 43, 3), (31, .aload_n 2, 1), (32, .iload 4, 2), (34, .iload_n 1, 1), (35, .invokevirtual 327, 3), (38, .ifCond .eq 27, 3), (41, .aload_n 0, 1), (42, .getfield 38, 3), (45, .iconst 1, 1), (46, .aaload, 1), (47, .aload_n 2, 1)]), (73, [(48, .getfield 185, 3), (51, .iload 4, 2), (53, .laload, 1), (54, .iload_n 1, 1), (55, .invokevirtual 302, 3), (58, .iconst (-1), 1), (59, .if_icmp .eq 6, 3), (62, .iinc 3 1, 3), (65, .iinc 4 1, 3), (68, .goto (-46), 3), (71, .iload_n 3, 1), (72, .ireturn, 1)])]
theorem ftX11_both_ok : zk_ftb cX11_both ftX11_both = true := by decide +kernel
def qcX11_both : zQ := ((3, 4), ([(2, 1, 0), (0, 2, 0)], ([(0, 0, 0), (2, (-2147483648), 2147483647)], [], [], []), ([(1, 42)], [], [], [], [], [])), [(some (0, 0, (-2)), ([(0, 0, 0)], [], [], []), ([], [], [], [], [], [])), (some (0, 3, 0), ([(0, 0, 0), (3, (-2147483648), 2147483647), (2, 0, 400)], [], [], []), ([], [], [], [], [], []))], ([], []), (0, 0))
def mcX11_both : zM := (yX11_both, cX11_both, 5, (some .int), { frames := 3, cells := 0, slots := 0, locals := 58 }, qcX11_both)
def hcX11_both : zH := ([(22, [([(0, (2, 1, 0)), (1, (0, 2, 0)), (2, (2, 3, 0)), (3, (0, 4, 0)), (4, (0, 5, 0))], [], ([(0, 0, 0), (5, 0, 80), (2, 0, 400)], [], [], []), ([(3, 31), (6, 68), (1, 42)], [(1, 11, 4, (2, 6, 0))], [], [], [], []), (7, ([(5, (-1))], 80), 0, 0))])], [], [(72, [(3, 0, 0)])], [], ([], 0, 0), 161)
theorem jcX11_both : zk_txok RX11 hcX11_both.2.2.2.2.1 := zk_txb_ok (p := (0, 0)) (by decide +kernel)
def xcX11_both : List zX := [(302, 2, 4, mcX4_find), (321, 0, 0, mcX11_isDay), (327, 2, 4, mcX4_isOn)]
theorem wcX11_both : zk_hwsb zcl RX11 mcX11_both.rm xcX11_both [(697, 79, 1090, 695, 696), (1110, 75, 1108, 1109, 0), (701, 79, 1111, 699, 700)] = true := by decide +kernel
theorem icX11_both : zk_idb zcl RX11 11 false mcX11_both = true := by decide +kernel
theorem ecX11_both : zk_run zcl zft zTT zPF zPB zSUf zLX11 11 false mcX11_both ftX11_both hcX11_both zULf xcX11_both 26 = true := by decide +kernel
theorem gcX11_both {D : zD} {l : Launch} (hD : zWD D) : zCs D l xcX11_both := ⟨tcX4_find hD, tcX11_isDay hD, tcX4_isOn hD, trivial⟩
theorem tcX11_both {D : zD} {l : Launch} (hD : zWD D) : zC D l mcX11_both := zk_methC ⟨rfl, rfl⟩ hD poolX11 icX11_both jcX11_both ftX11_both_ok (gcX11_both hD) wcX11_both ecX11_both
def ftX4_dowriesAt : List (Nat × List (Nat × Instr × Nat)) := [(22, [(0, .iconst 0, 1), (1, .istore_n 2, 1), (2, .iconst 0, 1), (3, .istore_n 3, 1), (4, .iload_n 3, 1), (5, .aload_n 0, 1), (6, .getfield 32, 3), (9, .if_icmp .ge 27, 3), (12, .aload_n 0, 1), (13, .iload_n 3, 1), (14, .iload_n 1, 1), (15, .invokevirtual 39, 3), (18, .ifCond .eq 12, 3), (21, .iload_n 2, 1)]), (38, [(22, .aload_n 0, 1), (23, .getfield 18, 3), (26, .iload_n 3, 1), (27, .iaload, 1), (28, .iadd, 1), (29, .istore_n 2, 1), (30, .iinc 3 1, 3), (33, .goto (-29), 3), (36, .iload_n 2, 1), (37, .ireturn, 1)])]
theorem ftX4_dowriesAt_ok : zk_ftb cX4_dowriesAt ftX4_dowriesAt = true := by decide +kernel
def qcX4_dowriesAt : zQ := ((3, 4), ([(2, 1, 0), (0, 2, 0)], ([(0, 0, 0), (2, 0, 400)], [], [], []), ([(1, 31)], [], [], [], [], [])), [(some (0, 3, 0), ([(0, 0, 0), (3, (-2147483648), 2147483647)], [], [], []), ([], [], [], [], [], []))], ([], []), (0, 0))
def mcX4_dowriesAt : zM := (yX4_dowriesAt, cX4_dowriesAt, 4, (some .int), { frames := 2, cells := 0, slots := 0, locals := 34 }, qcX4_dowriesAt)
def hcX4_dowriesAt : zH := ([(4, [([(0, (2, 1, 0)), (1, (0, 2, 0)), (2, (0, 3, 0)), (3, (0, 4, 0))], [], ([(0, 0, 0), (3, (-2147483648), 2147483647), (4, 0, 80), (2, 0, 400)], [], [], []), ([(1, 31)], [], [], [], [], []), (5, ([(4, (-1))], 80), 0, 0))])], [], [], [], ([], 0, 0), 161)
theorem jcX4_dowriesAt : zk_txok RX4 hcX4_dowriesAt.2.2.2.2.1 := zk_txb_ok (p := (0, 0)) (by decide +kernel)
def xcX4_dowriesAt : List zX := [(39, 2, 4, mcX4_isOn)]
theorem wcX4_dowriesAt : zk_hwsb zcl RX4 mcX4_dowriesAt.rm xcX4_dowriesAt [(701, 79, 698, 699, 700)] = true := by decide +kernel
theorem icX4_dowriesAt : zk_idb zcl RX4 4 false mcX4_dowriesAt = true := by decide +kernel
theorem ecX4_dowriesAt : zk_run zcl zft zTT zPF zPB zSUf zLX4 4 false mcX4_dowriesAt ftX4_dowriesAt hcX4_dowriesAt zULf xcX4_dowriesAt 20 = true := by decide +kernel
theorem gcX4_dowriesAt {D : zD} {l : Launch} (hD : zWD D) : zCs D l xcX4_dowriesAt := ⟨tcX4_isOn hD, trivial⟩
theorem tcX4_dowriesAt {D : zD} {l : Launch} (hD : zWD D) : zC D l mcX4_dowriesAt := zk_methC ⟨rfl, rfl⟩ hD poolX4 icX4_dowriesAt jcX4_dowriesAt ftX4_dowriesAt_ok (gcX4_dowriesAt hD) wcX4_dowriesAt ecX4_dowriesAt
def ftX11_size : List (Nat × List (Nat × Instr × Nat)) := [(27, [(0, .iload_n 1, 1), (1, .invokestatic 123, 3), (4, .ifCond .eq 19, 3), (7, .iload_n 2, 1), (8, .invokestatic 321, 3), (11, .ifCond .eq 12, 3), (14, .iload_n 3, 1), (15, .ifCond .lt 8, 3), (18, .iload_n 3, 1), (19, .iconst 1, 1), (20, .if_icmp .le 6, 3), (23, .bipush (-2), 2), (25, .ireturn, 1), (26, .iload_n 3, 1)]), (51, [(27, .ifCond .ne 16, 3), (30, .aload_n 0, 1), (31, .getfield 38, 3), (34, .iload_n 1, 1), (35, .aaload, 1), (36, .iload_n 2, 1), (37, .invokevirtual 305, 3), (40, .goto 13, 3), (43, .aload_n 0, 1), (44, .getfield 38, 3), (47, .iload_n 1, 1), (48, .aaload, 1), (49, .iload_n 2, 1), (50, .invokevirtual 330, 3)]), (54, [(53, .ireturn, 1)])]
theorem ftX11_size_ok : zk_ftb cX11_size ftX11_size = true := by decide +kernel
def qcX11_size : zQ := ((5, 6), ([(2, 1, 0), (0, 2, 0), (0, 3, 0), (0, 4, 0)], ([(0, 0, 0), (2, (-2147483648), 2147483647), (3, (-2147483648), 2147483647), (4, (-2147483648), 2147483647)], [], [], []), ([(1, 42)], [], [], [], [], [])), [(some (0, 0, (-2)), ([(0, 0, 0)], [], [], []), ([], [], [], [], [], [])), (some (0, 5, 0), ([(0, 0, 0), (5, (-2147483648), 2147483647), (2, 0, 1), (3, 0, 400), (4, 0, 1)], [], [], []), ([], [], [], [], [], []))], ([], []), (0, 0))
def mcX11_size : zM := (yX11_size, cX11_size, 4, (some .int), { frames := 3, cells := 0, slots := 0, locals := 57 }, qcX11_size)
def hcX11_size : zH := ([], [], [], [], ([], 0, 0), 1)
theorem jcX11_size : zk_txok RX11 hcX11_size.2.2.2.2.1 := zk_txb_ok (p := (0, 0)) (by decide +kernel)
def xcX11_size : List zX := [(123, 0, 0, mcX11_isSide), (305, 2, 4, mcX4_sizeAt), (321, 0, 0, mcX11_isDay), (330, 2, 4, mcX4_dowriesAt)]
theorem wcX11_size : zk_hwsb zcl RX11 mcX11_size.rm xcX11_size [(673, 75, 671, 672, 0), (1094, 79, 1091, 1092, 1093), (1110, 75, 1108, 1109, 0), (1119, 79, 1116, 1117, 1118)] = true := by decide +kernel
theorem icX11_size : zk_idb zcl RX11 11 false mcX11_size = true := by decide +kernel
theorem ecX11_size : zk_run zcl zft zTT zPF zPB zSUf zLX11 11 false mcX11_size ftX11_size hcX11_size zULf xcX11_size 23 = true := by decide +kernel
theorem gcX11_size {D : zD} {l : Launch} (hD : zWD D) : zCs D l xcX11_size := ⟨tcX11_isSide hD, tcX4_sizeAt hD, tcX11_isDay hD, tcX4_dowriesAt hD, trivial⟩
theorem tcX11_size {D : zD} {l : Launch} (hD : zWD D) : zC D l mcX11_size := zk_methC ⟨rfl, rfl⟩ hD poolX11 icX11_size jcX11_size ftX11_size_ok (gcX11_size hD) wcX11_size ecX11_size
def ftX11_isLot : List (Nat × List (Nat × Instr × Nat)) := [(25, [(0, .iload_n 0, 1), (1, .iconst 1, 1), (2, .if_icmp .lt 22, 3), (5, .iload_n 0, 1), (6, .bipush 40, 2), (8, .if_icmp .gt 16, 3), (11, .iload_n 1, 1), (12, .ifCond .lt 12, 3), (15, .iload_n 1, 1), (16, .iload_n 0, 1), (17, .if_icmp .gt 7, 3), (20, .iconst 1, 1), (21, .goto 4, 3), (24, .iconst 0, 1)]), (26, [(25, .ireturn, 1)])]
theorem ftX11_isLot_ok : zk_ftb cX11_isLot ftX11_isLot = true := by decide +kernel
def qcX11_isLot : zQ := ((3, 3), ([(0, 1, 0), (0, 2, 0)], ([(0, 0, 0), (1, (-2147483648), 2147483647), (2, (-2147483648), 2147483647)], [], [], []), ([], [], [], [], [], [])), [(some (0, 0, 0), ([(0, 0, 0)], [], [], []), ([], [], [], [], [], [])), (some (0, 0, 1), ([(0, 0, 0), (1, 1, 40), (2, 0, 40)], [(2, 1, 0)], [], []), ([], [], [], [], [], []))], ([], []), (0, 0))
def mcX11_isLot : zM := (yX11_isLot, cX11_isLot, 2, (some .boolean), { frames := 1, cells := 0, slots := 0, locals := 12 }, qcX11_isLot)
def hcX11_isLot : zH := ([], [], [], [], ([], 0, 0), 1)
theorem jcX11_isLot : zk_txok RX11 hcX11_isLot.2.2.2.2.1 := zk_txb_ok (p := (0, 0)) (by decide +kernel)
def xcX11_isLot : List zX := []
theorem wcX11_isLot : zk_hwsb zcl RX11 mcX11_isLot.rm xcX11_isLot [] = true := by decide +kernel
theorem icX11_isLot : zk_idb zcl RX11 11 false mcX11_isLot = true := by decide +kernel
theorem ecX11_isLot : zk_run zcl zft zTT zPF zPB zSUf zLX11 11 false mcX11_isLot ftX11_isLot hcX11_isLot zULf xcX11_isLot 16 = true := by decide +kernel
theorem gcX11_isLot {D : zD} {l : Launch} (hD : zWD D) : zCs D l xcX11_isLot := trivial
theorem tcX11_isLot {D : zD} {l : Launch} (hD : zWD D) : zC D l mcX11_isLot := zk_methC ⟨rfl, rfl⟩ hD poolX11 icX11_isLot jcX11_isLot ftX11_isLot_ok (gcX11_isLot hD) wcX11_isLot ecX11_isLot
def ftX1_choose : List (Nat × List (Nat × Instr × Nat)) := [(20, [(0, .iload_n 1, 1), (1, .iload_n 0, 1), (2, .if_icmp .le 5, 3), (5, .lconst 0, 1), (6, .lreturn, 1), (7, .lconst 1, 1), (8, .lstore_n 2, 1), (9, .iconst 0, 1), (10, .istore 4, 2), (12, .iload 4, 2), (14, .iload_n 1, 1), (15, .if_icmp .ge 23, 3), (18, .lload_n 2, 1), (19, .iload_n 0, 1)]), (40, [(20, .iload 4, 2), (22, .isub, 1), (23, .i2l, 1), (24, .lmul, 1), (25, .iload 4, 2), (27, .iconst 1, 1), (28, .iadd, 1), (29, .i2l, 1), (30, .ldiv, 1), (31, .lstore_n 2, 1), (32, .iinc 4 1, 3), (35, .goto (-23), 3), (38, .lload_n 2, 1), (39, .lreturn, 1)])]
theorem ftX1_choose_ok : zk_ftb cX1_choose ftX1_choose = true := by decide +kernel
def qcX1_choose : zQ := ((3, 4), ([(0, 1, 0), (0, 2, 0)], ([(0, 0, 0), (1, 0, 40), (2, 0, 40)], [], [], []), ([], [], [], [], [], [])), [(some (1, 3, 0), ([(0, 0, 0), (3, (-9223372036854775808), 9223372036854775807)], [], [], []), ([], [], [], [], [], []))], ([], []), (0, 0))
def mcX1_choose : zM := (yX1_choose, cX1_choose, 5, (some .long), { frames := 1, cells := 0, slots := 0, locals := 12 }, qcX1_choose)
def hcX1_choose : zH := ([(12, [([(0, (0, 1, 0)), (1, (0, 2, 0)), (2, (1, 3, 0)), (4, (0, 4, 0))], [], ([(0, 0, 0), (3, (-9223372036854775808), 9223372036854775807), (4, 0, 40), (1, 0, 40), (2, 0, 40)], [(4, 2, 0), (2, 1, 0)], [], []), ([], [], [], [], [], []), (5, ([(4, (-1))], 40), 0, 0))])], [], [], [], ([], 0, 0), 81)
theorem jcX1_choose : zk_txok RX1 hcX1_choose.2.2.2.2.1 := zk_txb_ok (p := (0, 0)) (by decide +kernel)
def xcX1_choose : List zX := []
theorem wcX1_choose : zk_hwsb zcl RX1 mcX1_choose.rm xcX1_choose [] = true := by decide +kernel
theorem icX1_choose : zk_idb zcl RX1 0 false mcX1_choose = true := by decide +kernel
theorem ecX1_choose : zk_run zcl zft zTT zPF zPB zSUf zLX1 0 false mcX1_choose ftX1_choose hcX1_choose zULf xcX1_choose 19 = true := by decide +kernel
theorem gcX1_choose {D : zD} {l : Launch} (hD : zWD D) : zCs D l xcX1_choose := trivial
theorem tcX1_choose {D : zD} {l : Launch} (hD : zWD D) : zC D l mcX1_choose := zk_methC ⟨rfl, rfl⟩ hD poolX1 icX1_choose jcX1_choose ftX1_choose_ok (gcX1_choose hD) wcX1_choose ecX1_choose
def ftX11_caught : List (Nat × List (Nat × Instr × Nat)) := [(26, [(0, .iload_n 1, 1), (1, .iload_n 2, 1), (2, .invokestatic 333, 3), (5, .ifCond .eq 23, 3), (8, .iload_n 3, 1), (9, .ifCond .lt 19, 3), (12, .iload_n 3, 1), (13, .iload_n 1, 1), (14, .if_icmp .gt 14, 3), (17, .iload 4, 2), (19, .ifCond .lt 9, 3), (22, .iload 4, 2), (24, .iconst 1, 1), (25, .if_icmp .le 7, 3)]), (50, [(28, .ldc2_w 277, 3), (31, .lreturn, 1), (32, .iload_n 1, 1), (33, .iload_n 3, 1), (34, .invokestatic 336, 3), (37, .lstore 5, 2), (39, .lload 5, 2), (41, .iload_n 1, 1), (42, .iload_n 2, 1), (43, .isub, 1), (44, .iload_n 3, 1), (45, .invokestatic 336, 3), (48, .lsub, 1), (49, .lstore 7, 2)]), (79, [(51, .lload 7, 2), (53, .lload 5, 2), (55, .invokestatic 340, 3), (58, .lstore 9, 2), (60, .lload 9, 2), (62, .lconst 1, 1), (63, .lcmp, 1), (64, .ifCond .ge 7, 3), (67, .ldc2_w 277, 3), (70, .lreturn, 1), (71, .iload 4, 2), (73, .ifCond .ne 8, 3), (76, .lload 7, 2), (78, .goto 5, 3)]), (87, [(81, .lload 5, 2), (83, .lload 9, 2), (85, .ldiv, 1), (86, .lreturn, 1)])]
theorem ftX11_caught_ok : zk_ftb cX11_caught ftX11_caught = true := by decide +kernel
def qcX11_caught : zQ := ((6, 7), ([(2, 1, 0), (0, 2, 0), (0, 3, 0), (0, 4, 0), (0, 5, 0)], ([(0, 0, 0), (2, (-2147483648), 2147483647), (3, (-2147483648), 2147483647), (4, (-2147483648), 2147483647), (5, (-2147483648), 2147483647)], [], [], []), ([(1, 42)], [], [], [], [], [])), [(some (1, 0, (-2)), ([(0, 0, 0)], [], [], []), ([], [], [], [], [], [])), (some (1, 6, 0), ([(0, 0, 0), (6, (-9223372036854775808), 9223372036854775807), (2, 1, 40), (3, 0, 40), (4, 0, 40), (5, 0, 1)], [(3, 2, 0), (4, 2, 0)], [], []), ([], [], [], [], [], []))], ([], []), (0, 0))
def mcX11_caught : zM := (yX11_caught, cX11_caught, 11, (some .long), { frames := 2, cells := 0, slots := 0, locals := 38 }, qcX11_caught)
def hcX11_caught : zH := ([], [], [], [], ([], 0, 0), 1)
theorem jcX11_caught : zk_txok RX11 hcX11_caught.2.2.2.2.1 := zk_txb_ok (p := (0, 0)) (by decide +kernel)
def xcX11_caught : List zX := [(333, 0, 0, mcX11_isLot), (336, 0, 0, mcX1_choose), (340, 0, 0, mcX1_commonFactor)]
theorem wcX11_caught : zk_hwsb zcl RX11 mcX11_caught.rm xcX11_caught [(1126, 75, 1124, 1125, 0), (1129, 91, 1127, 1128, 0), (831, 91, 1130, 830, 0)] = true := by decide +kernel
theorem icX11_caught : zk_idb zcl RX11 11 false mcX11_caught = true := by decide +kernel
theorem ecX11_caught : zk_run zcl zft zTT zPF zPB zSUf zLX11 11 false mcX11_caught ftX11_caught hcX11_caught zULf xcX11_caught 43 = true := by decide +kernel
theorem gcX11_caught {D : zD} {l : Launch} (hD : zWD D) : zCs D l xcX11_caught := ⟨tcX11_isLot hD, tcX1_choose hD, tcX1_commonFactor hD, trivial⟩
theorem tcX11_caught {D : zD} {l : Launch} (hD : zWD D) : zC D l mcX11_caught := zk_methC ⟨rfl, rfl⟩ hD poolX11 icX11_caught jcX11_caught ftX11_caught_ok (gcX11_caught hD) wcX11_caught ecX11_caught
def ftX11_opened : List (Nat × List (Nat × Instr × Nat)) := [(28, [(0, .iload_n 1, 1), (1, .iload_n 2, 1), (2, .invokestatic 333, 3), (5, .ifCond .eq 27, 3), (8, .iload 4, 2), (10, .iconst 1, 1), (11, .if_icmp .lt 21, 3), (14, .iload 4, 2), (16, .sipush 10000, 3), (19, .if_icmp .gt 13, 3), (22, .iload_n 3, 1), (23, .ifCond .lt 9, 3), (26, .iload_n 3, 1), (27, .iload 4, 2)]), (55, [(29, .if_icmp .le 6, 3), (32, .bipush (-2), 2), (34, .ireturn, 1), (35, .iconst 0, 1), (36, .istore 5, 2), (38, .iload 5, 2), (40, .iload_n 1, 1), (41, .if_icmp .gt 48, 3), (44, .iload_n 1, 1), (45, .iload 5, 2), (47, .invokestatic 336, 3), (50, .lstore 6, 2), (52, .lload 6, 2), (54, .iload_n 1, 1)]), (76, [(55, .iload_n 2, 1), (56, .isub, 1), (57, .iload 5, 2), (59, .invokestatic 336, 3), (62, .lsub, 1), (63, .lstore 8, 2), (65, .lload 8, 2), (67, .iload 4, 2), (69, .i2l, 1), (70, .lmul, 1), (71, .lload 6, 2), (73, .iload_n 3, 1), (74, .i2l, 1), (75, .lmul, 1)]), (91, [(76, .lcmp, 1), (77, .ifCond .lt 6, 3), (80, .iload 5, 2), (82, .ireturn, 1), (83, .iinc 5 1, 3), (86, .goto (-48), 3), (89, .iconst (-1), 1), (90, .ireturn, 1)])]
theorem ftX11_opened_ok : zk_ftb cX11_opened ftX11_opened = true := by decide +kernel
def qcX11_opened : zQ := ((6, 7), ([(2, 1, 0), (0, 2, 0), (0, 3, 0), (0, 4, 0), (0, 5, 0)], ([(0, 0, 0), (2, (-2147483648), 2147483647), (3, (-2147483648), 2147483647), (4, (-2147483648), 2147483647), (5, (-2147483648), 2147483647)], [], [], []), ([(1, 42)], [], [], [], [], [])), [(some (0, 0, (-1)), ([(0, 0, 0), (2, 1, 40), (3, 0, 40), (4, 0, 10000), (5, 1, 10000)], [(3, 2, 0), (4, 5, 0)], [], []), ([], [], [], [], [], [])), (some (0, 0, (-2)), ([(0, 0, 0)], [], [], []), ([], [], [], [], [], [])), (some (0, 6, 0), ([(0, 0, 0), (6, 0, 40), (2, 1, 40), (3, 0, 40), (4, 0, 10000), (5, 1, 10000)], [(3, 2, 0), (4, 5, 0), (6, 2, 0)], [], []), ([], [], [], [], [], []))], ([], []), (0, 0))
def mcX11_opened : zM := (yX11_opened, cX11_opened, 10, (some .int), { frames := 2, cells := 0, slots := 0, locals := 36 }, qcX11_opened)
def hcX11_opened : zH := ([(38, [([(1, (0, 2, 0)), (2, (0, 3, 0)), (3, (0, 4, 0)), (4, (0, 5, 0)), (5, (0, 6, 0))], [], ([(0, 0, 0), (6, 0, 41), (2, 1, 40), (3, 0, 40), (4, 0, 10000), (5, 1, 10000)], [(6, 2, 1), (3, 2, 0), (4, 5, 0)], [], []), ([(1, 42)], [], [], [], [], []), (7, ([(6, (-1))], 41), 0, 0))])], [], [], [], ([], 0, 0), 83)
theorem jcX11_opened : zk_txok RX11 hcX11_opened.2.2.2.2.1 := zk_txb_ok (p := (0, 0)) (by decide +kernel)
def xcX11_opened : List zX := [(333, 0, 0, mcX11_isLot), (336, 0, 0, mcX1_choose)]
theorem wcX11_opened : zk_hwsb zcl RX11 mcX11_opened.rm xcX11_opened [(1126, 75, 1124, 1125, 0), (1129, 91, 1127, 1128, 0)] = true := by decide +kernel
theorem icX11_opened : zk_idb zcl RX11 11 false mcX11_opened = true := by decide +kernel
theorem ecX11_opened : zk_run zcl zft zTT zPF zPB zSUf zLX11 11 false mcX11_opened ftX11_opened hcX11_opened zULf xcX11_opened 29 = true := by decide +kernel
theorem gcX11_opened {D : zD} {l : Launch} (hD : zWD D) : zCs D l xcX11_opened := ⟨tcX11_isLot hD, tcX1_choose hD, trivial⟩
theorem tcX11_opened {D : zD} {l : Launch} (hD : zWD D) : zC D l mcX11_opened := zk_methC ⟨rfl, rfl⟩ hD poolX11 icX11_opened jcX11_opened ftX11_opened_ok (gcX11_opened hD) wcX11_opened ecX11_opened
def ftX11_count : List (Nat × List (Nat × Instr × Nat)) := [(68, [(0, .iload_n 1, 1), (1, .tableswitch 91 0 7 #[47, 47, 47, 57, 65, 73, 78, 83], 47), (48, .aload_n 0, 1), (49, .getfield 38, 3), (52, .iload_n 1, 1), (53, .aaload, 1), (54, .getfield 134, 3), (57, .ireturn, 1), (58, .aload_n 0, 1), (59, .getfield 45, 3), (62, .getfield 147, 3), (65, .ireturn, 1), (66, .aload_n 0, 1), (67, .getfield 28, 3)]), (94, [(70, .getfield 120, 3), (73, .ireturn, 1), (74, .aload_n 0, 1), (75, .getfield 52, 3), (78, .ireturn, 1), (79, .aload_n 0, 1), (80, .getfield 97, 3), (83, .ireturn, 1), (84, .aload_n 0, 1), (85, .getfield 12, 3), (88, .getfield 103, 3), (91, .ireturn, 1), (92, .iconst (-1), 1), (93, .ireturn, 1)])]
theorem ftX11_count_ok : zk_ftb cX11_count ftX11_count = true := by decide +kernel
def qcX11_count : zQ := ((3, 4), ([(2, 1, 0), (0, 2, 0)], ([(0, 0, 0), (2, (-2147483648), 2147483647)], [], [], []), ([(1, 42)], [], [], [], [], [])), [(some (0, 0, (-1)), ([(0, 0, 0)], [], [], []), ([], [], [], [], [], [])), (some (0, 3, 0), ([(0, 0, 0), (3, (-2147483648), 2147483647), (2, 0, 7)], [], [], []), ([], [], [], [], [], []))], ([], []), (0, 0))
def mcX11_count : zM := (yX11_count, cX11_count, 2, (some .int), { frames := 1, cells := 0, slots := 0, locals := 12 }, qcX11_count)
def hcX11_count : zH := ([], [], [], [], ([], 0, 0), 1)
theorem jcX11_count : zk_txok RX11 hcX11_count.2.2.2.2.1 := zk_txb_ok (p := (0, 0)) (by decide +kernel)
def xcX11_count : List zX := []
theorem wcX11_count : zk_hwsb zcl RX11 mcX11_count.rm xcX11_count [] = true := by decide +kernel
theorem icX11_count : zk_idb zcl RX11 11 false mcX11_count = true := by decide +kernel
theorem ecX11_count : zk_run zcl zft zTT zPF zPB zSUf zLX11 11 false mcX11_count ftX11_count hcX11_count zULf xcX11_count 10 = true := by decide +kernel
theorem gcX11_count {D : zD} {l : Launch} (hD : zWD D) : zCs D l xcX11_count := trivial
theorem tcX11_count {D : zD} {l : Launch} (hD : zWD D) : zC D l mcX11_count := zk_methC ⟨rfl, rfl⟩ hD poolX11 icX11_count jcX11_count ftX11_count_ok (gcX11_count hD) wcX11_count ecX11_count
def ftX12_end : List (Nat × List (Nat × Instr × Nat)) := [(21, [(0, .iload_n 1, 1), (1, .ifCond .lt 11, 3), (4, .iload_n 1, 1), (5, .aload_n 0, 1), (6, .getfield 170, 3), (9, .if_icmp .le 5, 3), (12, .iconst (-1), 1), (13, .ireturn, 1), (14, .aload_n 0, 1), (15, .iload_n 1, 1), (16, .putfield 170, 3), (19, .iload_n 1, 1), (20, .ireturn, 1)])]
theorem ftX12_end_ok : zk_ftb cX12_end ftX12_end = true := by decide +kernel
def qcX12_end : zQ := ((4, 4), ([(2, 1, 0), (0, 2, 0)], ([(0, 0, 0), (2, (-2147483648), 2147483647), (3, 0, 1200)], [], [], []), ([(1, 43)], [(1, 12, 1, (0, 3, 0))], [], [], [], [])), [(some (0, 0, (-1)), ([(0, 0, 0), (2, 1, 2147483647)], [(3, 2, (-1))], [], []), ([], [(1, 12, 1, (0, 3, 0))], [], [], [], [])), (some (0, 0, (-1)), ([(0, 0, 0), (2, (-2147483648), (-1))], [], [], []), ([], [(1, 12, 1, (0, 3, 0))], [], [], [], [])), (some (0, 2, 0), ([(0, 0, 0), (2, 0, 1200)], [(2, 3, 0)], [], []), ([], [(1, 12, 1, (0, 2, 0))], [], [], [], []))], ([(43, 1)], []), (0, 0))
def mcX12_end : zM := (yX12_end, cX12_end, 2, (some .int), { frames := 1, cells := 0, slots := 0, locals := 12 }, qcX12_end)
def hcX12_end : zH := ([], [], [], [], ([], 0, 0), 1)
theorem jcX12_end : zk_txok RX12 hcX12_end.2.2.2.2.1 := zk_txb_ok (p := (0, 0)) (by decide +kernel)
def xcX12_end : List zX := []
theorem wcX12_end : zk_hwsb zcl RX12 mcX12_end.rm xcX12_end [] = true := by decide +kernel
theorem icX12_end : zk_idb zcl RX12 12 false mcX12_end = true := by decide +kernel
theorem ecX12_end : zk_run zcl zft zTT zPF zPB zSUf zLX12 12 false mcX12_end ftX12_end hcX12_end zULf xcX12_end 13 = true := by decide +kernel
theorem gcX12_end {D : zD} {l : Launch} (hD : zWD D) : zCs D l xcX12_end := trivial
theorem tcX12_end {D : zD} {l : Launch} (hD : zWD D) : zC D l mcX12_end := zk_methC ⟨rfl, rfl⟩ hD poolX12 icX12_end jcX12_end ftX12_end_ok (gcX12_end hD) wcX12_end ecX12_end
