/-! METHODS (printed by wip/t4) -/
def ftX8_takeWord : List (Nat × List (Nat × Instr × Nat)) := [(28, [(0, .aload_n 0, 1), (1, .getfield 19, 3), (4, .aload_n 0, 1), (5, .getfield 15, 3), (8, .if_icmp .ge 67, 3), (11, .aload_n 0, 1), (12, .getfield 9, 3), (15, .aload_n 0, 1), (16, .getfield 19, 3), (19, .baload, 1), (20, .invokestatic 42, 3), (23, .ifCond .eq 52, 3), (26, .aload_n 0, 1), (27, .aload_n 0, 1)]), (49, [(28, .getfield 32, 3), (31, .iconst 5, 1), (32, .lshl, 1), (33, .aload_n 0, 1), (34, .getfield 9, 3), (37, .aload_n 0, 1), (38, .getfield 19, 3), (41, .baload, 1), (42, .bipush 97, 2), (44, .isub, 1), (45, .iconst 1, 1), (46, .iadd, 1), (47, .i2l, 1), (48, .lor, 1)]), (73, [(49, .putfield 32, 3), (52, .aload_n 0, 1), (53, .dup, 1), (54, .getfield 29, 3), (57, .iconst 1, 1), (58, .iadd, 1), (59, .putfield 29, 3), (62, .aload_n 0, 1), (63, .dup, 1), (64, .getfield 19, 3), (67, .iconst 1, 1), (68, .iadd, 1), (69, .putfield 19, 3), (72, .goto (-72), 3)]), (94, [(75, .aload_n 0, 1), (76, .aload_n 0, 1), (77, .getfield 29, 3), (80, .bipush 10, 2), (82, .if_icmp .gt 7, 3), (85, .iconst 1, 1), (86, .goto 4, 3), (89, .iconst 4, 1), (90, .putfield 39, 3), (93, .return_, 1)])]
theorem ftX8_takeWord_ok : zk_ftb cX8_takeWord ftX8_takeWord = true := by decide +kernel
def qcX8_takeWord : zQ := ((2, 2), ([(2, 1, 0)], ([(0, 0, 0)], [], [], []), ([(1, 30)], [(1, 8, 5, (0, 0, 0))], [], [], [], [])), [(none, ([(0, 0, 0)], [], [], []), ([], [], [], [], [], []))], ([(30, 2), (30, 3), (30, 5), (30, 6)], []), (0, 0))
def mcX8_takeWord : zM := (yX8_takeWord, cX8_takeWord, 1, none, { frames := 2, cells := 0, slots := 0, locals := 32 }, qcX8_takeWord)
def hcX8_takeWord : zH := ([(0, [([(0, (2, 1, 0))], [], ([(0, 0, 0), (2, 1, 1200), (3, 1, 1200), (4, (-9223372036854775808), 9223372036854775807), (6, 1, 1200)], [(2, 6, 0), (3, 2, 0)], [], []), ([(5, 44), (1, 30)], [(1, 8, 2, (0, 2, 0)), (1, 8, 5, (0, 3, 0)), (1, 8, 6, (1, 4, 0)), (1, 8, 0, (2, 5, 0)), (1, 8, 1, (0, 6, 0))], [], [], [], []), (7, ([(2, (-1))], 1200), 0, 0))])], [], [(59, [(4, 0, 0)])], [], ([], 0, 0), 2401)
theorem jcX8_takeWord : zk_txok RX8 hcX8_takeWord.2.2.2.2.1 := zk_txb_ok (p := (0, 0)) (by decide +kernel)
def xcX8_takeWord : List zX := [(42, 0, 0, mcX8_isSmall)]
theorem wcX8_takeWord : zk_hwsb zcl RX8 mcX8_takeWord.rm xcX8_takeWord [(543, 76, 541, 542, 0)] = true := by decide +kernel
theorem icX8_takeWord : zk_idb zcl RX8 8 false mcX8_takeWord = true := by decide +kernel
theorem ecX8_takeWord : zk_run zcl zft zTT zPF zPB zSUf zLX8 8 false mcX8_takeWord ftX8_takeWord hcX8_takeWord zULf xcX8_takeWord 44 = true := by decide +kernel
theorem gcX8_takeWord {D : zD} {l : Launch} (hD : zWD D) : zCs D l xcX8_takeWord := ⟨tcX8_isSmall hD, trivial⟩
theorem tcX8_takeWord {D : zD} {l : Launch} (hD : zWD D) : zC D l mcX8_takeWord := zk_methC ⟨rfl, rfl⟩ hD poolX8 icX8_takeWord jcX8_takeWord ftX8_takeWord_ok (gcX8_takeWord hD) wcX8_takeWord ecX8_takeWord
def ftX8_step : List (Nat × List (Nat × Instr × Nat)) := [(28, [(0, .aload_n 0, 1), (1, .getfield 19, 3), (4, .aload_n 0, 1), (5, .getfield 15, 3), (8, .if_icmp .ge 31, 3), (11, .aload_n 0, 1), (12, .getfield 9, 3), (15, .aload_n 0, 1), (16, .getfield 19, 3), (19, .baload, 1), (20, .invokestatic 22, 3), (23, .ifCond .eq 16, 3), (26, .aload_n 0, 1), (27, .dup, 1)]), (54, [(28, .getfield 19, 3), (31, .iconst 1, 1), (32, .iadd, 1), (33, .putfield 19, 3), (36, .goto (-36), 3), (39, .aload_n 0, 1), (40, .aload_n 0, 1), (41, .getfield 19, 3), (44, .putfield 26, 3), (47, .aload_n 0, 1), (48, .iconst 0, 1), (49, .putfield 29, 3), (52, .aload_n 0, 1), (53, .lconst 0, 1)]), (82, [(54, .putfield 32, 3), (57, .aload_n 0, 1), (58, .iconst 0, 1), (59, .putfield 36, 3), (62, .aload_n 0, 1), (63, .getfield 19, 3), (66, .aload_n 0, 1), (67, .getfield 15, 3), (70, .if_icmp .lt 11, 3), (73, .aload_n 0, 1), (74, .iconst 0, 1), (75, .putfield 39, 3), (78, .goto 80, 3), (81, .aload_n 0, 1)]), (112, [(82, .getfield 9, 3), (85, .aload_n 0, 1), (86, .getfield 19, 3), (89, .baload, 1), (90, .invokestatic 42, 3), (93, .ifCond .eq 10, 3), (96, .aload_n 0, 1), (97, .invokevirtual 45, 3), (100, .goto 58, 3), (103, .aload_n 0, 1), (104, .getfield 9, 3), (107, .aload_n 0, 1), (108, .getfield 19, 3), (111, .baload, 1)]), (141, [(112, .invokestatic 48, 3), (115, .ifCond .eq 10, 3), (118, .aload_n 0, 1), (119, .invokevirtual 51, 3), (122, .goto 36, 3), (125, .aload_n 0, 1), (126, .aload_n 0, 1), (127, .getfield 9, 3), (130, .aload_n 0, 1), (131, .getfield 19, 3), (134, .baload, 1), (135, .bipush 59, 2), (137, .if_icmp .ne 7, 3), (140, .iconst 3, 1)]), (159, [(141, .goto 4, 3), (144, .iconst 4, 1), (145, .putfield 39, 3), (148, .aload_n 0, 1), (149, .dup, 1), (150, .getfield 19, 3), (153, .iconst 1, 1), (154, .iadd, 1), (155, .putfield 19, 3), (158, .return_, 1)])]
theorem ftX8_step_ok : zk_ftb cX8_step ftX8_step = true := by decide +kernel
def qcX8_step : zQ := ((2, 2), ([(2, 1, 0)], ([(0, 0, 0)], [], [], []), ([(1, 30)], [], [], [], [], [])), [(none, ([(0, 0, 0)], [], [], []), ([], [], [], [], [], []))], ([(30, 2), (30, 3), (30, 4), (30, 5), (30, 6), (30, 7)], []), (0, 0))
def mcX8_step : zM := (yX8_step, cX8_step, 1, none, { frames := 3, cells := 0, slots := 0, locals := 52 }, qcX8_step)
def hcX8_step : zH := ([(0, [([(0, (2, 1, 0))], [], ([(0, 0, 0), (2, 1, 1200), (4, 1, 1200)], [(2, 4, 0)], [], []), ([(3, 44), (1, 30)], [(1, 8, 2, (0, 2, 0)), (1, 8, 0, (2, 3, 0)), (1, 8, 1, (0, 4, 0))], [], [], [], []), (5, ([(2, (-1))], 1200), 0, 0))])], [], [], [], ([], 0, 0), 2401)
theorem jcX8_step : zk_txok RX8 hcX8_step.2.2.2.2.1 := zk_txb_ok (p := (0, 0)) (by decide +kernel)
def xcX8_step : List zX := [(22, 0, 0, mcX8_isBlank), (42, 0, 0, mcX8_isSmall), (45, 2, 8, mcX8_takeWord), (48, 0, 0, mcX8_isDigit), (51, 2, 8, mcX8_takeNumber)]
theorem wcX8_step : zk_hwsb zcl RX8 mcX8_step.rm xcX8_step [(540, 76, 538, 539, 0), (543, 76, 541, 542, 0), (547, 76, 544, 546, 1), (550, 76, 548, 549, 0), (554, 76, 551, 553, 2)] = true := by decide +kernel
theorem icX8_step : zk_idb zcl RX8 8 false mcX8_step = true := by decide +kernel
theorem ecX8_step : zk_run zcl zft zTT zPF zPB zSUf zLX8 8 false mcX8_step ftX8_step hcX8_step zULf xcX8_step 64 = true := by decide +kernel
theorem gcX8_step {D : zD} {l : Launch} (hD : zWD D) : zCs D l xcX8_step := ⟨tcX8_isBlank hD, tcX8_isSmall hD, tcX8_takeWord hD, tcX8_isDigit hD, tcX8_takeNumber hD, trivial⟩
theorem tcX8_step {D : zD} {l : Launch} (hD : zWD D) : zC D l mcX8_step := zk_methC ⟨rfl, rfl⟩ hD poolX8 icX8_step jcX8_step ftX8_step_ok (gcX8_step hD) wcX8_step ecX8_step
def ftX6_takeSemicolon : List (Nat × List (Nat × Instr × Nat)) := [(28, [(0, .aload_n 0, 1), (1, .getfield 9, 3), (4, .invokevirtual 30, 3), (7, .aload_n 0, 1), (8, .getfield 9, 3), (11, .getfield 33, 3), (14, .iconst 3, 1), (15, .if_icmp .eq 11, 3), (18, .aload_n 0, 1), (19, .iconst 1, 1), (20, .invokevirtual 36, 3), (23, .ifCond .eq 7, 3), (26, .iconst 1, 1), (27, .goto 4, 3)]), (32, [(30, .iconst 0, 1), (31, .ireturn, 1)])]
theorem ftX6_takeSemicolon_ok : zk_ftb cX6_takeSemicolon ftX6_takeSemicolon = true := by decide +kernel
def qcX6_takeSemicolon : zQ := ((2, 2), ([(2, 1, 0)], ([(0, 0, 0)], [], [], []), ([(1, 34)], [], [], [], [], [])), [(some (0, 0, 0), ([(0, 0, 0)], [], [], []), ([], [], [], [], [], [])), (some (0, 0, 1), ([(0, 0, 0)], [], [], []), ([], [], [], [], [], []))], ([(30, 2), (30, 3), (30, 4), (30, 5), (30, 6), (30, 7), (34, 1), (34, 2)], []), (0, 0))
def mcX6_takeSemicolon : zM := (yX6_takeSemicolon, cX6_takeSemicolon, 1, (some .boolean), { frames := 4, cells := 0, slots := 0, locals := 72 }, qcX6_takeSemicolon)
def hcX6_takeSemicolon : zH := ([], [], [], [], ([], 0, 0), 1)
theorem jcX6_takeSemicolon : zk_txok RX6 hcX6_takeSemicolon.2.2.2.2.1 := zk_txb_ok (p := (0, 0)) (by decide +kernel)
def xcX6_takeSemicolon : List zX := [(30, 2, 8, mcX8_step), (36, 2, 6, mcX6_fail)]
theorem wcX6_takeSemicolon : zk_hwsb zcl RX6 mcX6_takeSemicolon.rm xcX6_takeSemicolon [(537, 76, 534, 535, 536), (623, 77, 620, 622, 5)] = true := by decide +kernel
theorem icX6_takeSemicolon : zk_idb zcl RX6 6 false mcX6_takeSemicolon = true := by decide +kernel
theorem ecX6_takeSemicolon : zk_run zcl zft zTT zPF zPB zSUf zLX6 6 false mcX6_takeSemicolon ftX6_takeSemicolon hcX6_takeSemicolon zULf xcX6_takeSemicolon 16 = true := by decide +kernel
theorem gcX6_takeSemicolon {D : zD} {l : Launch} (hD : zWD D) : zCs D l xcX6_takeSemicolon := ⟨tcX8_step hD, tcX6_fail hD, trivial⟩
theorem tcX6_takeSemicolon {D : zD} {l : Launch} (hD : zWD D) : zC D l mcX6_takeSemicolon := zk_methC ⟨rfl, rfl⟩ hD poolX6 icX6_takeSemicolon jcX6_takeSemicolon ftX6_takeSemicolon_ok (gcX6_takeSemicolon hD) wcX6_takeSemicolon ecX6_takeSemicolon
def ftX6_readDouble : List (Nat × List (Nat × Instr × Nat)) := [(23, [(0, .aload_n 1, 1), (1, .getfield 93, 3), (4, .ifCond .eq 9, 3), (7, .aload_n 0, 1), (8, .iconst 3, 1), (9, .invokevirtual 36, 3), (12, .ireturn, 1), (13, .aload_n 1, 1), (14, .iconst 1, 1), (15, .putfield 93, 3), (18, .aload_n 0, 1), (19, .invokevirtual 97, 3), (22, .ireturn, 1)])]
theorem ftX6_readDouble_ok : zk_ftb cX6_readDouble ftX6_readDouble = true := by decide +kernel
def qcX6_readDouble : zQ := ((3, 3), ([(2, 1, 0), (2, 2, 0)], ([(0, 0, 0)], [], [], []), ([(1, 34), (2, 32)], [], [], [], [], [])), [(some (0, 0, 0), ([(0, 0, 0)], [], [], []), ([], [], [], [], [], [])), (some (0, 0, 1), ([(0, 0, 0)], [], [], []), ([], [], [], [], [], []))], ([(30, 2), (30, 3), (30, 4), (30, 5), (30, 6), (30, 7), (32, 2), (34, 1), (34, 2)], []), (0, 0))
def mcX6_readDouble : zM := (yX6_readDouble, cX6_readDouble, 2, (some .boolean), { frames := 5, cells := 0, slots := 0, locals := 92 }, qcX6_readDouble)
def hcX6_readDouble : zH := ([], [], [], [], ([], 0, 0), 1)
theorem jcX6_readDouble : zk_txok RX6 hcX6_readDouble.2.2.2.2.1 := zk_txb_ok (p := (0, 0)) (by decide +kernel)
def xcX6_readDouble : List zX := [(36, 2, 6, mcX6_fail), (97, 2, 6, mcX6_takeSemicolon)]
theorem wcX6_readDouble : zk_hwsb zcl RX6 mcX6_readDouble.rm xcX6_readDouble [(623, 77, 620, 622, 5), (645, 77, 642, 644, 8)] = true := by decide +kernel
theorem icX6_readDouble : zk_idb zcl RX6 6 false mcX6_readDouble = true := by decide +kernel
theorem ecX6_readDouble : zk_run zcl zft zTT zPF zPB zSUf zLX6 6 false mcX6_readDouble ftX6_readDouble hcX6_readDouble zULf xcX6_readDouble 11 = true := by decide +kernel
theorem gcX6_readDouble {D : zD} {l : Launch} (hD : zWD D) : zCs D l xcX6_readDouble := ⟨tcX6_fail hD, tcX6_takeSemicolon hD, trivial⟩
theorem tcX6_readDouble {D : zD} {l : Launch} (hD : zWD D) : zC D l mcX6_readDouble := zk_methC ⟨rfl, rfl⟩ hD poolX6 icX6_readDouble jcX6_readDouble ftX6_readDouble_ok (gcX6_readDouble hD) wcX6_readDouble ecX6_readDouble
def ftX7_has : List (Nat × List (Nat × Instr × Nat)) := [(25, [(0, .iload_n 1, 1), (1, .ifCond .lt 22, 3), (4, .iload_n 1, 1), (5, .bipush 26, 2), (7, .if_icmp .gt 16, 3), (10, .aload_n 0, 1), (11, .getfield 15, 3), (14, .iload_n 1, 1), (15, .baload, 1), (16, .ifCond .eq 7, 3), (19, .iconst 1, 1), (20, .goto 4, 3), (23, .iconst 0, 1), (24, .ireturn, 1)])]
theorem ftX7_has_ok : zk_ftb cX7_has ftX7_has = true := by decide +kernel
def qcX7_has : zQ := ((3, 3), ([(2, 1, 0), (0, 2, 0)], ([(0, 0, 0), (2, (-2147483648), 2147483647)], [], [], []), ([(1, 32)], [], [], [], [], [])), [(some (0, 0, 0), ([(0, 0, 0)], [], [], []), ([], [], [], [], [], [])), (some (0, 0, 1), ([(0, 0, 0), (2, 0, 26)], [], [], []), ([], [], [], [], [], []))], ([], []), (0, 0))
def mcX7_has : zM := (yX7_has, cX7_has, 2, (some .boolean), { frames := 1, cells := 0, slots := 0, locals := 12 }, qcX7_has)
def hcX7_has : zH := ([], [], [], [], ([], 0, 0), 1)
theorem jcX7_has : zk_txok RX7 hcX7_has.2.2.2.2.1 := zk_txb_ok (p := (0, 0)) (by decide +kernel)
def xcX7_has : List zX := []
theorem wcX7_has : zk_hwsb zcl RX7 mcX7_has.rm xcX7_has [] = true := by decide +kernel
theorem icX7_has : zk_idb zcl RX7 7 false mcX7_has = true := by decide +kernel
theorem ecX7_has : zk_run zcl zft zTT zPF zPB zSUf zLX7 7 false mcX7_has ftX7_has hcX7_has zULf xcX7_has 15 = true := by decide +kernel
theorem gcX7_has {D : zD} {l : Launch} (hD : zWD D) : zCs D l xcX7_has := trivial
theorem tcX7_has {D : zD} {l : Launch} (hD : zWD D) : zC D l mcX7_has := zk_methC ⟨rfl, rfl⟩ hD poolX7 icX7_has jcX7_has ftX7_has_ok (gcX7_has hD) wcX7_has ecX7_has
def ftX8_oneLetter : List (Nat × List (Nat × Instr × Nat)) := [(26, [(0, .aload_n 0, 1), (1, .getfield 39, 3), (4, .iconst 1, 1), (5, .if_icmp .ne 19, 3), (8, .aload_n 0, 1), (9, .getfield 29, 3), (12, .iconst 1, 1), (13, .if_icmp .ne 11, 3), (16, .aload_n 0, 1), (17, .getfield 32, 3), (20, .l2i, 1), (21, .goto 4, 3), (24, .iconst 0, 1), (25, .ireturn, 1)])]
theorem ftX8_oneLetter_ok : zk_ftb cX8_oneLetter ftX8_oneLetter = true := by decide +kernel
def qcX8_oneLetter : zQ := ((2, 3), ([(2, 1, 0)], ([(0, 0, 0)], [], [], []), ([(1, 30)], [], [], [], [], [])), [(some (0, 2, 0), ([(0, 0, 0), (2, (-2147483648), 2147483647)], [], [], []), ([], [], [], [], [], []))], ([], []), (0, 0))
def mcX8_oneLetter : zM := (yX8_oneLetter, cX8_oneLetter, 1, (some .int), { frames := 1, cells := 0, slots := 0, locals := 12 }, qcX8_oneLetter)
def hcX8_oneLetter : zH := ([], [], [(25, [(3, 0, 0)])], [], ([], 0, 0), 1)
theorem jcX8_oneLetter : zk_txok RX8 hcX8_oneLetter.2.2.2.2.1 := zk_txb_ok (p := (0, 0)) (by decide +kernel)
def xcX8_oneLetter : List zX := []
theorem wcX8_oneLetter : zk_hwsb zcl RX8 mcX8_oneLetter.rm xcX8_oneLetter [] = true := by decide +kernel
theorem icX8_oneLetter : zk_idb zcl RX8 8 false mcX8_oneLetter = true := by decide +kernel
theorem ecX8_oneLetter : zk_run zcl zft zTT zPF zPB zSUf zLX8 8 false mcX8_oneLetter ftX8_oneLetter hcX8_oneLetter zULf xcX8_oneLetter 15 = true := by decide +kernel
theorem gcX8_oneLetter {D : zD} {l : Launch} (hD : zWD D) : zCs D l xcX8_oneLetter := trivial
theorem tcX8_oneLetter {D : zD} {l : Launch} (hD : zWD D) : zC D l mcX8_oneLetter := zk_methC ⟨rfl, rfl⟩ hD poolX8 icX8_oneLetter jcX8_oneLetter ftX8_oneLetter_ok (gcX8_oneLetter hD) wcX8_oneLetter ecX8_oneLetter
def ftX6_isNewLetter : List (Nat × List (Nat × Instr × Nat)) := [(24, [(0, .aload_n 0, 1), (1, .getfield 9, 3), (4, .invokevirtual 82, 3), (7, .istore_n 2, 1), (8, .iload_n 2, 1), (9, .ifCond .ne 9, 3), (12, .aload_n 0, 1), (13, .iconst 1, 1), (14, .invokevirtual 36, 3), (17, .ireturn, 1), (18, .aload_n 1, 1), (19, .iload_n 2, 1), (20, .invokevirtual 90, 3), (23, .ifCond .eq 11, 3)]), (40, [(26, .aload_n 0, 1), (27, .iconst 3, 1), (28, .invokevirtual 36, 3), (31, .ifCond .eq 7, 3), (34, .iconst 1, 1), (35, .goto 4, 3), (38, .iconst 0, 1), (39, .ireturn, 1)])]
theorem ftX6_isNewLetter_ok : zk_ftb cX6_isNewLetter ftX6_isNewLetter = true := by decide +kernel
def qcX6_isNewLetter : zQ := ((3, 3), ([(2, 1, 0), (2, 2, 0)], ([(0, 0, 0)], [], [], []), ([(1, 34), (2, 32)], [], [], [], [], [])), [(some (0, 0, 0), ([(0, 0, 0)], [], [], []), ([], [], [], [], [], [])), (some (0, 0, 1), ([(0, 0, 0)], [], [], []), ([], [], [], [], [], []))], ([(34, 1), (34, 2)], []), (0, 0))
def mcX6_isNewLetter : zM := (yX6_isNewLetter, cX6_isNewLetter, 3, (some .boolean), { frames := 2, cells := 0, slots := 0, locals := 33 }, qcX6_isNewLetter)
def hcX6_isNewLetter : zH := ([], [], [], [], ([], 0, 0), 1)
theorem jcX6_isNewLetter : zk_txok RX6 hcX6_isNewLetter.2.2.2.2.1 := zk_txb_ok (p := (0, 0)) (by decide +kernel)
def xcX6_isNewLetter : List zX := [(36, 2, 6, mcX6_fail), (82, 2, 8, mcX8_oneLetter), (90, 2, 7, mcX7_has)]
theorem wcX6_isNewLetter : zk_hwsb zcl RX6 mcX6_isNewLetter.rm xcX6_isNewLetter [(623, 77, 620, 622, 5), (619, 76, 616, 617, 618), (627, 78, 624, 625, 626)] = true := by decide +kernel
theorem icX6_isNewLetter : zk_idb zcl RX6 6 false mcX6_isNewLetter = true := by decide +kernel
theorem ecX6_isNewLetter : zk_run zcl zft zTT zPF zPB zSUf zLX6 6 false mcX6_isNewLetter ftX6_isNewLetter hcX6_isNewLetter zULf xcX6_isNewLetter 18 = true := by decide +kernel
theorem gcX6_isNewLetter {D : zD} {l : Launch} (hD : zWD D) : zCs D l xcX6_isNewLetter := ⟨tcX6_fail hD, tcX8_oneLetter hD, tcX7_has hD, trivial⟩
theorem tcX6_isNewLetter {D : zD} {l : Launch} (hD : zWD D) : zC D l mcX6_isNewLetter := zk_methC ⟨rfl, rfl⟩ hD poolX6 icX6_isNewLetter jcX6_isNewLetter ftX6_isNewLetter_ok (gcX6_isNewLetter hD) wcX6_isNewLetter ecX6_isNewLetter
def ftX7_tell : List (Nat × List (Nat × Instr × Nat)) := [(23, [(0, .iload_n 1, 1), (1, .ifCond .lt 23, 3), (4, .iload_n 1, 1), (5, .bipush 26, 2), (7, .if_icmp .gt 17, 3), (10, .aload_n 0, 1), (11, .getfield 15, 3), (14, .iload_n 1, 1), (15, .iconst 1, 1), (16, .bastore, 1), (17, .aload_n 0, 1), (18, .getfield 9, 3), (21, .iload_n 1, 1), (22, .iload_n 2, 1)]), (25, [(23, .iastore, 1), (24, .return_, 1)])]
theorem ftX7_tell_ok : zk_ftb cX7_tell ftX7_tell = true := by decide +kernel
def qcX7_tell : zQ := ((4, 4), ([(2, 1, 0), (0, 2, 0), (0, 3, 0)], ([(0, 0, 0), (2, (-2147483648), 2147483647), (3, (-2147483648), 2147483647)], [], [], []), ([(1, 32)], [], [], [], [], [])), [(none, ([(0, 0, 0)], [], [], []), ([], [], [], [], [], []))], ([], [45, 46]), (0, 0))
def mcX7_tell : zM := (yX7_tell, cX7_tell, 3, none, { frames := 1, cells := 0, slots := 0, locals := 12 }, qcX7_tell)
def hcX7_tell : zH := ([], [], [], [], ([], 0, 0), 1)
theorem jcX7_tell : zk_txok RX7 hcX7_tell.2.2.2.2.1 := zk_txb_ok (p := (0, 0)) (by decide +kernel)
def xcX7_tell : List zX := []
theorem wcX7_tell : zk_hwsb zcl RX7 mcX7_tell.rm xcX7_tell [] = true := by decide +kernel
theorem icX7_tell : zk_idb zcl RX7 7 false mcX7_tell = true := by decide +kernel
theorem ecX7_tell : zk_run zcl zft zTT zPF zPB zSUf zLX7 7 false mcX7_tell ftX7_tell hcX7_tell zULf xcX7_tell 18 = true := by decide +kernel
theorem gcX7_tell {D : zD} {l : Launch} (hD : zWD D) : zCs D l xcX7_tell := trivial
theorem tcX7_tell {D : zD} {l : Launch} (hD : zWD D) : zC D l mcX7_tell := zk_methC ⟨rfl, rfl⟩ hD poolX7 icX7_tell jcX7_tell ftX7_tell_ok (gcX7_tell hD) wcX7_tell ecX7_tell
