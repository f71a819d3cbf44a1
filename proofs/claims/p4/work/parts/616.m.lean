/-! METHODS (printed by wip/t4) -/
def ftX11_turned : List (Nat × List (Nat × Instr × Nat)) := [(25, [(0, .iload_n 1, 1), (1, .invokestatic 123, 3), (4, .ifCond .eq 16, 3), (7, .iload_n 2, 1), (8, .iconst 1, 1), (9, .if_icmp .lt 11, 3), (12, .iload_n 2, 1), (13, .aload_n 0, 1), (14, .getfield 52, 3), (17, .if_icmp .lt 6, 3), (20, .bipush (-2), 2), (22, .ireturn, 1), (23, .iload_n 3, 1), (24, .ifCond .eq 16, 3)]), (51, [(27, .aload_n 0, 1), (28, .getfield 59, 3), (31, .iload_n 1, 1), (32, .aaload, 1), (33, .iload_n 2, 1), (34, .invokevirtual 196, 3), (37, .goto 13, 3), (40, .aload_n 0, 1), (41, .getfield 59, 3), (44, .iload_n 1, 1), (45, .aaload, 1), (46, .iload_n 2, 1), (47, .invokevirtual 200, 3), (50, .ireturn, 1)])]
theorem ftX11_turned_ok : zk_ftb cX11_turned ftX11_turned = true := by decide +kernel
def qcX11_turned : zQ := ((5, 6), ([(2, 1, 0), (0, 2, 0), (0, 3, 0), (0, 4, 0)], ([(0, 0, 0), (2, (-2147483648), 2147483647), (3, (-2147483648), 2147483647), (4, 0, 1)], [], [], []), ([(1, 42)], [], [], [], [], [])), [(some (0, 0, (-2)), ([(0, 0, 0)], [], [], []), ([], [], [], [], [], [])), (some (0, 5, 0), ([(0, 0, 0), (5, (-2147483648), 2147483647), (2, 0, 1), (3, 1, 2147483646)], [], [], []), ([], [], [], [], [], []))], ([], []), (0, 0))
def mcX11_turned : zM := (yX11_turned, cX11_turned, 4, (some .int), { frames := 4, cells := 0, slots := 0, locals := 92 }, qcX11_turned)
def hcX11_turned : zH := ([], [], [], [], ([], 0, 0), 1)
theorem jcX11_turned : zk_txok RX11 hcX11_turned.2.2.2.2.1 := zk_txb_ok (p := (0, 0)) (by decide +kernel)
def xcX11_turned : List zX := [(123, 0, 0, mcX11_isSide), (196, 2, 9, mcX9_undo_122), (196, 2, 9, mcX9_undo_123), (200, 2, 9, mcX9_apply_122), (200, 2, 9, mcX9_apply_123)]
theorem wcX11_turned : zk_hwsb zcl RX11 mcX11_turned.rm xcX11_turned [(673, 75, 671, 672, 0), (839, 81, 836, 837, 838), (839, 81, 836, 837, 838), (803, 81, 846, 801, 802), (803, 81, 846, 801, 802)] = true := by decide +kernel
theorem icX11_turned : zk_idb zcl RX11 11 false mcX11_turned = true := by decide +kernel
theorem ecX11_turned : zk_run zcl zft zTT zPF zPB zSUf zLX11 11 false mcX11_turned ftX11_turned hcX11_turned zULf xcX11_turned 22 = true := by decide +kernel
theorem gcX11_turned {D : zD} {l : Launch} (hD : zWD D) : zCs D l xcX11_turned := ⟨tcX11_isSide hD, tcX9_undo_122 hD, tcX9_undo_123 hD, tcX9_apply_122 hD, tcX9_apply_123 hD, trivial⟩
theorem tcX11_turned {D : zD} {l : Launch} (hD : zWD D) : zC D l mcX11_turned := zk_methC ⟨rfl, rfl⟩ hD poolX11 icX11_turned jcX11_turned ftX11_turned_ok (gcX11_turned hD) wcX11_turned ecX11_turned
def ftX9_fixedNumbers : List (Nat × List (Nat × Instr × Nat)) := [(22, [(0, .aload_n 0, 1), (1, .getfield 19, 3), (4, .ifCond .ne 22, 3), (7, .aload_n 0, 1), (8, .getfield 23, 3), (11, .iconst 1, 1), (12, .isub, 1), (13, .i2l, 1), (14, .aload_n 0, 1), (15, .getfield 26, 3), (18, .iconst 1, 1), (19, .isub, 1), (20, .i2l, 1), (21, .invokestatic 29, 3)]), (46, [(24, .l2i, 1), (25, .ireturn, 1), (26, .aload_n 0, 1), (27, .getfield 19, 3), (30, .iconst 1, 1), (31, .if_icmp .ne 7, 3), (34, .iconst 1, 1), (35, .goto 4, 3), (38, .iconst 0, 1), (39, .istore_n 1, 1), (40, .aload_n 0, 1), (41, .getfield 23, 3), (44, .iload_n 1, 1), (45, .if_icmp .ne 12, 3)]), (59, [(48, .aload_n 0, 1), (49, .getfield 26, 3), (52, .iconst 1, 1), (53, .isub, 1), (54, .goto 4, 3), (57, .iconst 0, 1), (58, .ireturn, 1)])]
theorem ftX9_fixedNumbers_ok : zk_ftb cX9_fixedNumbers ftX9_fixedNumbers = true := by decide +kernel
def qcX9_fixedNumbers_122 : zQ := ((2, 3), ([(2, 1, 0)], ([(0, 0, 0)], [], [], []), ([(1, 122)], [], [], [], [], [])), [(some (0, 2, 0), ([(0, 0, 0), (2, (-2147483648), 2147483647)], [], [], []), ([], [], [], [], [], []))], ([], []), (0, 0))
def mcX9_fixedNumbers_122 : zM := (yX9_fixedNumbers, cX9_fixedNumbers, 2, (some .int), { frames := 2, cells := 0, slots := 0, locals := 38 }, qcX9_fixedNumbers_122)
def hcX9_fixedNumbers_122 : zH := ([], [], [(25, [(3, 0, 0)])], [], ([], 0, 0), 1)
theorem jcX9_fixedNumbers_122 : zk_txok RX9 hcX9_fixedNumbers_122.2.2.2.2.1 := zk_txb_ok (p := (0, 0)) (by decide +kernel)
def xcX9_fixedNumbers_122 : List zX := [(29, 0, 0, mcX1_commonFactor)]
theorem wcX9_fixedNumbers_122 : zk_hwsb zcl RX9 mcX9_fixedNumbers_122.rm xcX9_fixedNumbers_122 [(831, 91, 829, 830, 0)] = true := by decide +kernel
theorem icX9_fixedNumbers_122 : zk_idb zcl RX9 9 false mcX9_fixedNumbers_122 = true := by decide +kernel
theorem ecX9_fixedNumbers_122 : zk_run zcl zft zTT zPF zPB zSUf zLX9 9 false mcX9_fixedNumbers_122 ftX9_fixedNumbers hcX9_fixedNumbers_122 zULf xcX9_fixedNumbers_122 22 = true := by decide +kernel
theorem gcX9_fixedNumbers_122 {D : zD} {l : Launch} (hD : zWD D) : zCs D l xcX9_fixedNumbers_122 := ⟨tcX1_commonFactor hD, trivial⟩
theorem tcX9_fixedNumbers_122 {D : zD} {l : Launch} (hD : zWD D) : zC D l mcX9_fixedNumbers_122 := zk_methC ⟨rfl, rfl⟩ hD poolX9 icX9_fixedNumbers_122 jcX9_fixedNumbers_122 ftX9_fixedNumbers_ok (gcX9_fixedNumbers_122 hD) wcX9_fixedNumbers_122 ecX9_fixedNumbers_122
def qcX9_fixedNumbers_123 : zQ := ((2, 3), ([(2, 1, 0)], ([(0, 0, 0)], [], [], []), ([(1, 123)], [], [], [], [], [])), [(some (0, 2, 0), ([(0, 0, 0), (2, (-2147483648), 2147483647)], [], [], []), ([], [], [], [], [], []))], ([], []), (0, 0))
def mcX9_fixedNumbers_123 : zM := (yX9_fixedNumbers, cX9_fixedNumbers, 2, (some .int), { frames := 2, cells := 0, slots := 0, locals := 38 }, qcX9_fixedNumbers_123)
def hcX9_fixedNumbers_123 : zH := ([], [], [(25, [(3, 0, 0)])], [], ([], 0, 0), 1)
theorem jcX9_fixedNumbers_123 : zk_txok RX9 hcX9_fixedNumbers_123.2.2.2.2.1 := zk_txb_ok (p := (0, 0)) (by decide +kernel)
def xcX9_fixedNumbers_123 : List zX := [(29, 0, 0, mcX1_commonFactor)]
theorem wcX9_fixedNumbers_123 : zk_hwsb zcl RX9 mcX9_fixedNumbers_123.rm xcX9_fixedNumbers_123 [(831, 91, 829, 830, 0)] = true := by decide +kernel
theorem icX9_fixedNumbers_123 : zk_idb zcl RX9 9 false mcX9_fixedNumbers_123 = true := by decide +kernel
theorem ecX9_fixedNumbers_123 : zk_run zcl zft zTT zPF zPB zSUf zLX9 9 false mcX9_fixedNumbers_123 ftX9_fixedNumbers hcX9_fixedNumbers_123 zULf xcX9_fixedNumbers_123 22 = true := by decide +kernel
theorem gcX9_fixedNumbers_123 {D : zD} {l : Launch} (hD : zWD D) : zCs D l xcX9_fixedNumbers_123 := ⟨tcX1_commonFactor hD, trivial⟩
theorem tcX9_fixedNumbers_123 {D : zD} {l : Launch} (hD : zWD D) : zC D l mcX9_fixedNumbers_123 := zk_methC ⟨rfl, rfl⟩ hD poolX9 icX9_fixedNumbers_123 jcX9_fixedNumbers_123 ftX9_fixedNumbers_ok (gcX9_fixedNumbers_123 hD) wcX9_fixedNumbers_123 ecX9_fixedNumbers_123
def ftX11_fixed : List (Nat × List (Nat × Instr × Nat)) := [(22, [(0, .iload_n 1, 1), (1, .invokestatic 123, 3), (4, .ifCond .eq 15, 3), (7, .aload_n 0, 1), (8, .getfield 59, 3), (11, .iload_n 1, 1), (12, .aaload, 1), (13, .invokevirtual 203, 3), (16, .goto 5, 3), (19, .bipush (-2), 2), (21, .ireturn, 1)])]
theorem ftX11_fixed_ok : zk_ftb cX11_fixed ftX11_fixed = true := by decide +kernel
def qcX11_fixed : zQ := ((3, 4), ([(2, 1, 0), (0, 2, 0)], ([(0, 0, 0), (2, (-2147483648), 2147483647)], [], [], []), ([(1, 42)], [], [], [], [], [])), [(some (0, 0, (-2)), ([(0, 0, 0)], [], [], []), ([], [], [], [], [], [])), (some (0, 3, 0), ([(0, 0, 0), (3, (-2147483648), 2147483647), (2, 0, 1)], [], [], []), ([], [], [], [], [], []))], ([], []), (0, 0))
def mcX11_fixed : zM := (yX11_fixed, cX11_fixed, 2, (some .int), { frames := 3, cells := 0, slots := 0, locals := 59 }, qcX11_fixed)
def hcX11_fixed : zH := ([], [], [], [], ([], 0, 0), 1)
theorem jcX11_fixed : zk_txok RX11 hcX11_fixed.2.2.2.2.1 := zk_txb_ok (p := (0, 0)) (by decide +kernel)
def xcX11_fixed : List zX := [(123, 0, 0, mcX11_isSide), (203, 2, 9, mcX9_fixedNumbers_122), (203, 2, 9, mcX9_fixedNumbers_123)]
theorem wcX11_fixed : zk_hwsb zcl RX11 mcX11_fixed.rm xcX11_fixed [(673, 75, 671, 672, 0), (854, 81, 851, 852, 853), (854, 81, 851, 852, 853)] = true := by decide +kernel
theorem icX11_fixed : zk_idb zcl RX11 11 false mcX11_fixed = true := by decide +kernel
theorem ecX11_fixed : zk_run zcl zft zTT zPF zPB zSUf zLX11 11 false mcX11_fixed ftX11_fixed hcX11_fixed zULf xcX11_fixed 12 = true := by decide +kernel
theorem gcX11_fixed {D : zD} {l : Launch} (hD : zWD D) : zCs D l xcX11_fixed := ⟨tcX11_isSide hD, tcX9_fixedNumbers_122 hD, tcX9_fixedNumbers_123 hD, trivial⟩
theorem tcX11_fixed {D : zD} {l : Launch} (hD : zWD D) : zC D l mcX11_fixed := zk_methC ⟨rfl, rfl⟩ hD poolX11 icX11_fixed jcX11_fixed ftX11_fixed_ok (gcX11_fixed hD) wcX11_fixed ecX11_fixed
def ftX9_lastToLookAt : List (Nat × List (Nat × Instr × Nat)) := [(24, [(0, .aload_n 0, 1), (1, .getfield 26, 3), (4, .iconst 1, 1), (5, .isub, 1), (6, .istore_n 2, 1), (7, .aload_n 0, 1), (8, .getfield 19, 3), (11, .aload_n 1, 1), (12, .getfield 19, 3), (15, .if_icmp .eq 19, 3), (18, .aload_n 0, 1), (19, .invokevirtual 54, 3), (22, .iload_n 2, 1), (23, .if_icmp .eq 11, 3)]), (50, [(26, .aload_n 1, 1), (27, .invokevirtual 54, 3), (30, .iload_n 2, 1), (31, .if_icmp .ne 5, 3), (34, .iconst 0, 1), (35, .ireturn, 1), (36, .aload_n 0, 1), (37, .getfield 19, 3), (40, .iconst 2, 1), (41, .if_icmp .eq 11, 3), (44, .aload_n 1, 1), (45, .getfield 19, 3), (48, .iconst 2, 1), (49, .if_icmp .ne 7, 3)]), (58, [(52, .iload_n 2, 1), (53, .goto 4, 3), (56, .iconst 1, 1), (57, .ireturn, 1)])]
theorem ftX9_lastToLookAt_ok : zk_ftb cX9_lastToLookAt ftX9_lastToLookAt = true := by decide +kernel
def qcX9_lastToLookAt_122_123 : zQ := ((3, 4), ([(2, 1, 0), (2, 2, 0)], ([(0, 0, 0)], [], [], []), ([(1, 122), (2, 123)], [], [], [], [], [])), [(some (0, 3, 0), ([(0, 0, 0), (3, 0, 2147483646)], [], [], []), ([], [], [], [], [], []))], ([], []), (0, 0))
def mcX9_lastToLookAt_122_123 : zM := (yX9_lastToLookAt, cX9_lastToLookAt, 3, (some .int), { frames := 3, cells := 0, slots := 0, locals := 59 }, qcX9_lastToLookAt_122_123)
def hcX9_lastToLookAt_122_123 : zH := ([], [], [], [], ([], 0, 0), 1)
theorem jcX9_lastToLookAt_122_123 : zk_txok RX9 hcX9_lastToLookAt_122_123.2.2.2.2.1 := zk_txb_ok (p := (0, 0)) (by decide +kernel)
def xcX9_lastToLookAt_122_123 : List zX := [(54, 2, 9, mcX9_fixedNumbers_122), (54, 2, 9, mcX9_fixedNumbers_123)]
theorem wcX9_lastToLookAt_122_123 : zk_hwsb zcl RX9 mcX9_lastToLookAt_122_123.rm xcX9_lastToLookAt_122_123 [(854, 81, 863, 852, 853), (854, 81, 863, 852, 853)] = true := by decide +kernel
theorem icX9_lastToLookAt_122_123 : zk_idb zcl RX9 9 false mcX9_lastToLookAt_122_123 = true := by decide +kernel
theorem ecX9_lastToLookAt_122_123 : zk_run zcl zft zTT zPF zPB zSUf zLX9 9 false mcX9_lastToLookAt_122_123 ftX9_lastToLookAt hcX9_lastToLookAt_122_123 zULf xcX9_lastToLookAt_122_123 31 = true := by decide +kernel
theorem gcX9_lastToLookAt_122_123 {D : zD} {l : Launch} (hD : zWD D) : zCs D l xcX9_lastToLookAt_122_123 := ⟨tcX9_fixedNumbers_122 hD, tcX9_fixedNumbers_123 hD, trivial⟩
theorem tcX9_lastToLookAt_122_123 {D : zD} {l : Launch} (hD : zWD D) : zC D l mcX9_lastToLookAt_122_123 := zk_methC ⟨rfl, rfl⟩ hD poolX9 icX9_lastToLookAt_122_123 jcX9_lastToLookAt_122_123 ftX9_lastToLookAt_ok (gcX9_lastToLookAt_122_123 hD) wcX9_lastToLookAt_122_123 ecX9_lastToLookAt_122_123
def ftX11_unlike : List (Nat × List (Nat × Instr × Nat)) := [(24, [(0, .aload_n 0, 1), (1, .getfield 52, 3), (4, .ldc 207, 2), (6, .if_icmp .le 6, 3), (9, .bipush (-4), 2), (11, .ireturn, 1), (12, .aload_n 0, 1), (13, .getfield 59, 3), (16, .iconst 0, 1), (17, .aaload, 1), (18, .astore_n 1, 1), (19, .aload_n 0, 1), (20, .getfield 59, 3), (23, .iconst 1, 1)]), (44, [(24, .aaload, 1), (25, .astore_n 2, 1), (26, .aload_n 1, 1), (27, .aload_n 2, 1), (28, .invokestatic 208, 3), (31, .istore_n 3, 1), (32, .iconst 1, 1), (33, .istore 4, 2), (35, .iload 4, 2), (37, .iload_n 3, 1), (38, .if_icmp .gt 35, 3), (41, .aload_n 2, 1), (42, .aload_n 1, 1), (43, .iload 4, 2)]), (75, [(45, .invokevirtual 200, 3), (48, .invokevirtual 200, 3), (51, .aload_n 1, 1), (52, .aload_n 2, 1), (53, .iload 4, 2), (55, .invokevirtual 200, 3), (58, .invokevirtual 200, 3), (61, .if_icmp .eq 6, 3), (64, .iload 4, 2), (66, .ireturn, 1), (67, .iinc 4 1, 3), (70, .goto (-35), 3), (73, .iconst (-1), 1), (74, .ireturn, 1)])]
theorem ftX11_unlike_ok : zk_ftb cX11_unlike ftX11_unlike = true := by decide +kernel
def qcX11_unlike : zQ := ((2, 3), ([(2, 1, 0)], ([(0, 0, 0)], [], [], []), ([(1, 42)], [], [], [], [], [])), [(some (0, 0, (-1)), ([(0, 0, 0)], [], [], []), ([], [], [], [], [], [])), (some (0, 0, (-4)), ([(0, 0, 0)], [], [], []), ([], [], [], [], [], [])), (some (0, 2, 0), ([(0, 0, 0), (2, 1, 2147483646)], [], [], []), ([], [], [], [], [], []))], ([], []), (0, 0))
def mcX11_unlike : zM := (yX11_unlike, cX11_unlike, 5, (some .int), { frames := 4, cells := 0, slots := 0, locals := 81 }, qcX11_unlike)
def hcX11_unlike : zH := ([(35, [([(1, (2, 2, 0)), (2, (2, 3, 0)), (3, (0, 4, 0)), (4, (0, 5, 0))], [], ([(0, 0, 0), (4, 0, 2147483646), (5, 1, 2147483647), (7, 5, 100000)], [(5, 4, 1)], [], []), ([(2, 122), (3, 123), (6, 69), (1, 42)], [(1, 11, 8, (2, 6, 0)), (1, 11, 7, (0, 7, 0))], [], [], [], []), (8, ([(5, (-1))], 2147483647), 0, 0))])], [], [], [], ([], 0, 0), 4294967295)
theorem jcX11_unlike : zk_txok RX11 hcX11_unlike.2.2.2.2.1 := zk_txb_ok (p := (0, 0)) (by decide +kernel)
def xcX11_unlike : List zX := [(200, 2, 9, mcX9_apply_122), (200, 2, 9, mcX9_apply_123), (208, 0, 0, mcX9_lastToLookAt_122_123)]
theorem wcX11_unlike : zk_hwsb zcl RX11 mcX11_unlike.rm xcX11_unlike [(803, 81, 846, 801, 802), (803, 81, 846, 801, 802), (862, 81, 860, 861, 0)] = true := by decide +kernel
theorem icX11_unlike : zk_idb zcl RX11 11 false mcX11_unlike = true := by decide +kernel
theorem ecX11_unlike : zk_run zcl zft zTT zPF zPB zSUf zLX11 11 false mcX11_unlike ftX11_unlike hcX11_unlike zULf xcX11_unlike 22 = true := by decide +kernel
theorem gcX11_unlike {D : zD} {l : Launch} (hD : zWD D) : zCs D l xcX11_unlike := ⟨tcX9_apply_122 hD, tcX9_apply_123 hD, tcX9_lastToLookAt_122_123 hD, trivial⟩
theorem tcX11_unlike {D : zD} {l : Launch} (hD : zWD D) : zC D l mcX11_unlike := zk_methC ⟨rfl, rfl⟩ hD poolX11 icX11_unlike jcX11_unlike ftX11_unlike_ok (gcX11_unlike hD) wcX11_unlike ecX11_unlike
def ftX11_seed : List (Nat × List (Nat × Instr × Nat)) := [(23, [(0, .iload_n 1, 1), (1, .invokestatic 123, 3), (4, .ifCond .eq 7, 3), (7, .iload_n 2, 1), (8, .ifCond .ge 6, 3), (11, .bipush (-2), 2), (13, .ireturn, 1), (14, .aload_n 0, 1), (15, .getfield 63, 3), (18, .iload_n 1, 1), (19, .iaload, 1), (20, .istore_n 3, 1), (21, .aload_n 0, 1), (22, .getfield 63, 3)]), (35, [(25, .iload_n 1, 1), (26, .iload_n 2, 1), (27, .iastore, 1), (28, .aload_n 0, 1), (29, .iconst 0, 1), (30, .putfield 93, 3), (33, .iload_n 3, 1), (34, .ireturn, 1)])]
theorem ftX11_seed_ok : zk_ftb cX11_seed ftX11_seed = true := by decide +kernel
def qcX11_seed : zQ := ((4, 5), ([(2, 1, 0), (0, 2, 0), (0, 3, 0)], ([(0, 0, 0), (2, (-2147483648), 2147483647), (3, (-2147483648), 2147483647)], [], [], []), ([(1, 42)], [], [], [], [], [])), [(some (0, 0, (-2)), ([(0, 0, 0)], [], [], []), ([], [], [], [], [], [])), (some (0, 4, 0), ([(0, 0, 0), (4, 0, 2147483647), (2, 0, 1), (3, 0, 2147483647)], [], [], []), ([], [], [], [], [], []))], ([(42, 13)], [70]), (0, 0))
def mcX11_seed : zM := (yX11_seed, cX11_seed, 4, (some .int), { frames := 2, cells := 0, slots := 0, locals := 32 }, qcX11_seed)
def hcX11_seed : zH := ([], [], [], [], ([], 0, 0), 1)
theorem jcX11_seed : zk_txok RX11 hcX11_seed.2.2.2.2.1 := zk_txb_ok (p := (0, 0)) (by decide +kernel)
def xcX11_seed : List zX := [(123, 0, 0, mcX11_isSide)]
theorem wcX11_seed : zk_hwsb zcl RX11 mcX11_seed.rm xcX11_seed [(673, 75, 671, 672, 0)] = true := by decide +kernel
theorem icX11_seed : zk_idb zcl RX11 11 false mcX11_seed = true := by decide +kernel
theorem ecX11_seed : zk_run zcl zft zTT zPF zPB zSUf zLX11 11 false mcX11_seed ftX11_seed hcX11_seed zULf xcX11_seed 22 = true := by decide +kernel
theorem gcX11_seed {D : zD} {l : Launch} (hD : zWD D) : zCs D l xcX11_seed := ⟨tcX11_isSide hD, trivial⟩
theorem tcX11_seed {D : zD} {l : Launch} (hD : zWD D) : zC D l mcX11_seed := zk_methC ⟨rfl, rfl⟩ hD poolX11 icX11_seed jcX11_seed ftX11_seed_ok (gcX11_seed hD) wcX11_seed ecX11_seed
def ftX3_load : List (Nat × List (Nat × Instr × Nat)) := [(26, [(0, .aload_n 0, 1), (1, .iconst 0, 1), (2, .putfield 36, 3), (5, .iconst 0, 1), (6, .istore 4, 2), (8, .iload 4, 2), (10, .aload_n 1, 1), (11, .getfield 40, 3), (14, .if_icmp .ge 58, 3), (17, .iload 4, 2), (19, .bipush 40, 2), (21, .if_icmp .ge 51, 3), (24, .aload_n 0, 1), (25, .getfield 9, 3)]), (53, [(28, .iload 4, 2), (30, .aload_n 1, 1), (31, .getfield 45, 3), (34, .iload 4, 2), (36, .laload, 1), (37, .iload_n 3, 1), (38, .invokestatic 49, 3), (41, .iastore, 1), (42, .aload_n 0, 1), (43, .getfield 15, 3), (46, .iload 4, 2), (48, .aload_n 1, 1), (49, .getfield 53, 3), (52, .iload 4, 2)]), (78, [(54, .iaload, 1), (55, .iastore, 1), (56, .aload_n 0, 1), (57, .dup, 1), (58, .getfield 36, 3), (61, .iconst 1, 1), (62, .iadd, 1), (63, .putfield 36, 3), (66, .iinc 4 1, 3), (69, .goto (-61), 3), (72, .aload_n 0, 1), (73, .iload_n 2, 1), (74, .putfield 54, 3), (77, .return_, 1)])]
theorem ftX3_load_ok : zk_ftb cX3_load ftX3_load = true := by decide +kernel
def qcX3_load_37_31 : zQ := ((5, 5), ([(2, 1, 0), (2, 2, 0), (0, 3, 0), (0, 4, 0)], ([(0, 0, 0), (3, 0, 2147483647), (4, 5, 2147483647)], [], [], []), ([(1, 37), (2, 31)], [], [], [], [], [])), [(none, ([(0, 0, 0)], [], [], []), ([], [], [], [], [], []))], ([(37, 6), (37, 8)], [60, 61]), (0, 0))
def mcX3_load_37_31 : zM := (yX3_load, cX3_load, 5, none, { frames := 3, cells := 0, slots := 0, locals := 60 }, qcX3_load_37_31)
def hcX3_load_37_31 : zH := ([(8, [([(0, (2, 1, 0)), (1, (2, 2, 0)), (2, (0, 3, 0)), (3, (0, 4, 0)), (4, (0, 5, 0))], [], ([(0, 0, 0), (5, 0, 40), (3, 0, 2147483647), (4, 5, 2147483647)], [], [], []), ([(1, 37), (2, 31)], [(1, 3, 6, (0, 5, 0))], [], [], [], []), (6, ([(5, (-1))], 40), 0, 0))])], [], [], [], ([], 0, 0), 81)
theorem jcX3_load_37_31 : zk_txok RX3 hcX3_load_37_31.2.2.2.2.1 := zk_txb_ok (p := (0, 0)) (by decide +kernel)
def xcX3_load_37_31 : List zX := [(49, 1, 0, mcX11_numberOf)]
theorem wcX3_load_37_31 : zk_hwsb zcl RX3 mcX3_load_37_31.rm xcX3_load_37_31 [(820, 75, 0, 819, 0)] = true := by decide +kernel
theorem icX3_load_37_31 : zk_idb zcl RX3 3 false mcX3_load_37_31 = true := by decide +kernel
theorem ecX3_load_37_31 : zk_run zcl zft zTT zPF zPB zSUf zLX3 3 false mcX3_load_37_31 ftX3_load hcX3_load_37_31 zULf xcX3_load_37_31 35 = true := by decide +kernel
theorem gcX3_load_37_31 {D : zD} {l : Launch} (hD : zWD D) : zCs D l xcX3_load_37_31 := ⟨tcX11_numberOf hD, trivial⟩
theorem tcX3_load_37_31 {D : zD} {l : Launch} (hD : zWD D) : zC D l mcX3_load_37_31 := zk_methC ⟨rfl, rfl⟩ hD poolX3 icX3_load_37_31 jcX3_load_37_31 ftX3_load_ok (gcX3_load_37_31 hD) wcX3_load_37_31 ecX3_load_37_31
def ftX2_mix : List (Nat × List (Nat × Instr × Nat)) := [(20, [(0, .iconst 1, 1), (1, .istore_n 1, 1), (2, .iload_n 1, 1), (3, .aload_n 0, 1), (4, .getfield 15, 3), (7, .if_icmp .ge 61, 3), (10, .aload_n 0, 1), (11, .getfield 9, 3), (14, .iload_n 1, 1), (15, .iaload, 1), (16, .istore_n 2, 1), (17, .iload_n 1, 1), (18, .istore_n 3, 1), (19, .iload_n 3, 1)]), (42, [(20, .ifCond .le 35, 3), (23, .aload_n 0, 1), (24, .getfield 9, 3), (27, .iload_n 3, 1), (28, .iconst 1, 1), (29, .isub, 1), (30, .iaload, 1), (31, .iload_n 2, 1), (32, .if_icmp .le 23, 3), (35, .aload_n 0, 1), (36, .getfield 9, 3), (39, .iload_n 3, 1), (40, .aload_n 0, 1), (41, .getfield 9, 3)]), (66, [(44, .iload_n 3, 1), (45, .iconst 1, 1), (46, .isub, 1), (47, .iaload, 1), (48, .iastore, 1), (49, .iinc 3 (-1), 3), (52, .goto (-33), 3), (55, .aload_n 0, 1), (56, .getfield 9, 3), (59, .iload_n 3, 1), (60, .iload_n 2, 1), (61, .iastore, 1), (62, .iinc 1 1, 3), (65, .goto (-63), 3)]), (74, [(68, .aload_n 0, 1), (69, .iconst 1, 1), (70, .putfield 26, 3), (73, .return_, 1)])]
theorem ftX2_mix_ok : zk_ftb cX2_mix ftX2_mix = true := by decide +kernel
def qcX2_mix : zQ := ((2, 2), ([(2, 1, 0)], ([(0, 0, 0)], [], [], []), ([(1, 36)], [], [], [], [], [])), [(none, ([(0, 0, 0)], [], [], []), ([], [], [], [], [], []))], ([(36, 4)], [59]), (0, 0))
def mcX2_mix : zM := (yX2_mix, cX2_mix, 4, none, { frames := 1, cells := 0, slots := 0, locals := 12 }, qcX2_mix)
def hcX2_mix : zH := ([(2, [([(0, (2, 1, 0)), (1, (0, 2, 0))], [], ([(0, 0, 0), (2, 1, 60)], [], [], []), ([(1, 36)], [], [], [], [], []), (3, ([(2, (-120))], 7260), 0, 0))]), (19, [([(0, (2, 1, 0)), (1, (0, 2, 0)), (2, (0, 3, 0)), (3, (0, 4, 0))], [], ([(0, 0, 0), (2, 1, 59), (3, (-2147483648), 2147483647), (4, 0, 59), (6, 2, 60)], [(2, 6, (-1)), (4, 2, 0), (4, 6, (-1))], [], []), ([(5, 59), (1, 36)], [(1, 2, 0, (2, 5, 0)), (1, 2, 1, (0, 6, 0))], [], [], [], []), (7, ([(2, (-120)), (4, 1)], 7200), 0, 0))])], [], [], [], ([], 0, 0), 14461)
theorem jcX2_mix : zk_txok RX2 hcX2_mix.2.2.2.2.1 := zk_txb_ok (p := (0, 0)) (by decide +kernel)
def xcX2_mix : List zX := []
theorem wcX2_mix : zk_hwsb zcl RX2 mcX2_mix.rm xcX2_mix [] = true := by decide +kernel
theorem icX2_mix : zk_idb zcl RX2 2 false mcX2_mix = true := by decide +kernel
theorem ecX2_mix : zk_run zcl zft zTT zPF zPB zSUf zLX2 2 false mcX2_mix ftX2_mix hcX2_mix zULf xcX2_mix 24 = true := by decide +kernel
theorem gcX2_mix {D : zD} {l : Launch} (hD : zWD D) : zCs D l xcX2_mix := trivial
theorem tcX2_mix {D : zD} {l : Launch} (hD : zWD D) : zC D l mcX2_mix := zk_methC ⟨rfl, rfl⟩ hD poolX2 icX2_mix jcX2_mix ftX2_mix_ok (gcX2_mix hD) wcX2_mix ecX2_mix
def ftX2_begin : List (Nat × List (Nat × Instr × Nat)) := [(21, [(0, .aload_n 0, 1), (1, .iconst 0, 1), (2, .putfield 15, 3), (5, .aload_n 0, 1), (6, .iload_n 1, 1), (7, .putfield 19, 3), (10, .aload_n 0, 1), (11, .iconst 0, 1), (12, .putfield 22, 3), (15, .aload_n 0, 1), (16, .iconst 0, 1), (17, .putfield 26, 3), (20, .return_, 1)])]
theorem ftX2_begin_ok : zk_ftb cX2_begin ftX2_begin = true := by decide +kernel
def qcX2_begin : zQ := ((3, 3), ([(2, 1, 0), (0, 2, 0)], ([(0, 0, 0), (2, 0, 1)], [], [], []), ([(1, 36)], [], [], [], [], [])), [(none, ([(0, 0, 0)], [], [], []), ([], [], [], [], [], []))], ([(36, 1), (36, 2), (36, 3), (36, 4)], []), (0, 0))
def mcX2_begin : zM := (yX2_begin, cX2_begin, 2, none, { frames := 1, cells := 0, slots := 0, locals := 12 }, qcX2_begin)
def hcX2_begin : zH := ([], [], [], [], ([], 0, 0), 1)
theorem jcX2_begin : zk_txok RX2 hcX2_begin.2.2.2.2.1 := zk_txb_ok (p := (0, 0)) (by decide +kernel)
def xcX2_begin : List zX := []
theorem wcX2_begin : zk_hwsb zcl RX2 mcX2_begin.rm xcX2_begin [] = true := by decide +kernel
theorem icX2_begin : zk_idb zcl RX2 2 false mcX2_begin = true := by decide +kernel
theorem ecX2_begin : zk_run zcl zft zTT zPF zPB zSUf zLX2 2 false mcX2_begin ftX2_begin hcX2_begin zULf xcX2_begin 15 = true := by decide +kernel
theorem gcX2_begin {D : zD} {l : Launch} (hD : zWD D) : zCs D l xcX2_begin := trivial
theorem tcX2_begin {D : zD} {l : Launch} (hD : zWD D) : zC D l mcX2_begin := zk_methC ⟨rfl, rfl⟩ hD poolX2 icX2_begin jcX2_begin ftX2_begin_ok (gcX2_begin hD) wcX2_begin ecX2_begin
def ftX2_put : List (Nat × List (Nat × Instr × Nat)) := [(24, [(0, .aload_n 0, 1), (1, .getfield 15, 3), (4, .aload_n 0, 1), (5, .getfield 9, 3), (8, .arraylength, 1), (9, .if_icmp .ge 23, 3), (12, .aload_n 0, 1), (13, .getfield 9, 3), (16, .aload_n 0, 1), (17, .getfield 15, 3), (20, .iload_n 1, 1), (21, .iastore, 1), (22, .aload_n 0, 1), (23, .dup, 1)]), (33, [(24, .getfield 15, 3), (27, .iconst 1, 1), (28, .iadd, 1), (29, .putfield 15, 3), (32, .return_, 1)])]
theorem ftX2_put_ok : zk_ftb cX2_put ftX2_put = true := by decide +kernel
def qcX2_put : zQ := ((3, 3), ([(2, 1, 0), (0, 2, 0)], ([(0, 0, 0), (2, (-2147483648), 2147483647)], [], [], []), ([(1, 36)], [], [], [], [], [])), [(none, ([(0, 0, 0)], [], [], []), ([], [], [], [], [], []))], ([(36, 1)], [59]), (0, 0))
def mcX2_put : zM := (yX2_put, cX2_put, 2, none, { frames := 1, cells := 0, slots := 0, locals := 12 }, qcX2_put)
def hcX2_put : zH := ([], [], [], [], ([], 0, 0), 1)
theorem jcX2_put : zk_txok RX2 hcX2_put.2.2.2.2.1 := zk_txb_ok (p := (0, 0)) (by decide +kernel)
def xcX2_put : List zX := []
theorem wcX2_put : zk_hwsb zcl RX2 mcX2_put.rm xcX2_put [] = true := by decide +kernel
theorem icX2_put : zk_idb zcl RX2 2 false mcX2_put = true := by decide +kernel
theorem ecX2_put : zk_run zcl zft zTT zPF zPB zSUf zLX2 2 false mcX2_put ftX2_put hcX2_put zULf xcX2_put 21 = true := by decide +kernel
theorem gcX2_put {D : zD} {l : Launch} (hD : zWD D) : zCs D l xcX2_put := trivial
theorem tcX2_put {D : zD} {l : Launch} (hD : zWD D) : zC D l mcX2_put := zk_methC ⟨rfl, rfl⟩ hD poolX2 icX2_put jcX2_put ftX2_put_ok (gcX2_put hD) wcX2_put ecX2_put
def ftX5_make : List (Nat × List (Nat × Instr × Nat)) := [(22, [(0, .aload_n 0, 1), (1, .getfield 11, 3), (4, .iload_n 1, 1), (5, .aaload, 1), (6, .astore_n 3, 1), (7, .aload_n 2, 1), (8, .iload_n 1, 1), (9, .invokevirtual 82, 3), (12, .iconst 0, 1), (13, .istore 4, 2), (15, .iload 4, 2), (17, .aload_n 3, 1), (18, .getfield 86, 3), (21, .if_icmp .ge 20, 3)]), (42, [(24, .aload_n 2, 1), (25, .aload_n 3, 1), (26, .getfield 89, 3), (29, .iload 4, 2), (31, .iaload, 1), (32, .invokevirtual 92, 3), (35, .iinc 4 1, 3), (38, .goto (-23), 3), (41, .return_, 1)])]
theorem ftX5_make_ok : zk_ftb cX5_make ftX5_make = true := by decide +kernel
def qcX5_make_39_36 : zQ := ((4, 4), ([(2, 1, 0), (0, 2, 0), (2, 3, 0)], ([(0, 0, 0), (2, 0, 1)], [], [], []), ([(1, 39), (3, 36)], [], [], [], [], [])), [(none, ([(0, 0, 0)], [], [], []), ([], [], [], [], [], []))], ([(36, 1), (36, 2), (36, 3), (36, 4)], [59]), (0, 0))
def mcX5_make_39_36 : zM := (yX5_make, cX5_make, 5, none, { frames := 2, cells := 0, slots := 0, locals := 33 }, qcX5_make_39_36)
def hcX5_make_39_36 : zH := ([(15, [([(2, (2, 3, 0)), (3, (2, 4, 0)), (4, (0, 5, 0))], [], ([(0, 0, 0), (5, 0, 40), (2, 0, 1)], [], [], []), ([(4, 37), (6, 64), (1, 39), (3, 36)], [(1, 5, 0, (2, 6, 0))], [], [], [], []), (7, ([(5, (-1))], 40), 0, 0))])], [], [], [], ([], 0, 0), 81)
theorem jcX5_make_39_36 : zk_txok RX5 hcX5_make_39_36.2.2.2.2.1 := zk_txb_ok (p := (0, 0)) (by decide +kernel)
def xcX5_make_39_36 : List zX := [(82, 2, 2, mcX2_begin), (92, 2, 2, mcX2_put)]
theorem wcX5_make_39_36 : zk_hwsb zcl RX5 mcX5_make_39_36.rm xcX5_make_39_36 [(896, 84, 893, 894, 895), (900, 84, 897, 898, 899)] = true := by decide +kernel
theorem icX5_make_39_36 : zk_idb zcl RX5 5 false mcX5_make_39_36 = true := by decide +kernel
theorem ecX5_make_39_36 : zk_run zcl zft zTT zPF zPB zSUf zLX5 5 false mcX5_make_39_36 ftX5_make hcX5_make_39_36 zULf xcX5_make_39_36 14 = true := by decide +kernel
theorem gcX5_make_39_36 {D : zD} {l : Launch} (hD : zWD D) : zCs D l xcX5_make_39_36 := ⟨tcX2_begin hD, tcX2_put hD, trivial⟩
theorem tcX5_make_39_36 {D : zD} {l : Launch} (hD : zWD D) : zC D l mcX5_make_39_36 := zk_methC ⟨rfl, rfl⟩ hD poolX5 icX5_make_39_36 jcX5_make_39_36 ftX5_make_ok (gcX5_make_39_36 hD) wcX5_make_39_36 ecX5_make_39_36
def ftX2_has : List (Nat × List (Nat × Instr × Nat)) := [(22, [(0, .iconst 0, 1), (1, .istore_n 2, 1), (2, .iload_n 2, 1), (3, .aload_n 0, 1), (4, .getfield 15, 3), (7, .if_icmp .ge 21, 3), (10, .aload_n 0, 1), (11, .getfield 9, 3), (14, .iload_n 2, 1), (15, .iaload, 1), (16, .iload_n 1, 1), (17, .if_icmp .ne 5, 3), (20, .iconst 1, 1), (21, .ireturn, 1)]), (30, [(22, .iinc 2 1, 3), (25, .goto (-23), 3), (28, .iconst 0, 1), (29, .ireturn, 1)])]
theorem ftX2_has_ok : zk_ftb cX2_has ftX2_has = true := by decide +kernel
def qcX2_has : zQ := ((3, 3), ([(2, 1, 0), (0, 2, 0)], ([(0, 0, 0), (2, (-2147483648), 2147483647)], [], [], []), ([(1, 36)], [], [], [], [], [])), [(some (0, 0, 0), ([(0, 0, 0)], [], [], []), ([], [], [], [], [], [])), (some (0, 0, 1), ([(0, 0, 0)], [], [], []), ([], [], [], [], [], []))], ([], []), (0, 0))
def mcX2_has : zM := (yX2_has, cX2_has, 3, (some .boolean), { frames := 1, cells := 0, slots := 0, locals := 12 }, qcX2_has)
def hcX2_has : zH := ([(2, [([(0, (2, 1, 0)), (1, (0, 2, 0)), (2, (0, 3, 0))], [], ([(0, 0, 0), (3, 0, 60), (2, (-2147483648), 2147483647)], [], [], []), ([(1, 36)], [], [], [], [], []), (4, ([(3, (-1))], 60), 0, 0))])], [], [], [], ([], 0, 0), 121)
theorem jcX2_has : zk_txok RX2 hcX2_has.2.2.2.2.1 := zk_txb_ok (p := (0, 0)) (by decide +kernel)
def xcX2_has : List zX := []
theorem wcX2_has : zk_hwsb zcl RX2 mcX2_has.rm xcX2_has [] = true := by decide +kernel
theorem icX2_has : zk_idb zcl RX2 2 false mcX2_has = true := by decide +kernel
theorem ecX2_has : zk_run zcl zft zTT zPF zPB zSUf zLX2 2 false mcX2_has ftX2_has hcX2_has zULf xcX2_has 14 = true := by decide +kernel
theorem gcX2_has {D : zD} {l : Launch} (hD : zWD D) : zCs D l xcX2_has := trivial
theorem tcX2_has {D : zD} {l : Launch} (hD : zWD D) : zC D l mcX2_has := zk_methC ⟨rfl, rfl⟩ hD poolX2 icX2_has jcX2_has ftX2_has_ok (gcX2_has hD) wcX2_has ecX2_has
def ftX5_meet : List (Nat × List (Nat × Instr × Nat)) := [(25, [(0, .aload_n 0, 1), (1, .getfield 11, 3), (4, .iload_n 1, 1), (5, .aaload, 1), (6, .astore 4, 2), (8, .aload_n 2, 1), (9, .getfield 121, 3), (12, .iload_n 1, 1), (13, .if_icmp .ne 14, 3), (16, .aload_n 2, 1), (17, .getfield 124, 3), (20, .ifCond .ne 7, 3), (23, .iconst 1, 1), (24, .goto 4, 3)]), (54, [(27, .iconst 0, 1), (28, .istore 5, 2), (30, .aload 4, 2), (32, .iload 5, 2), (34, .ifCond .eq 7, 3), (37, .iconst 1, 1), (38, .goto 4, 3), (41, .iconst 0, 1), (42, .putfield 127, 3), (45, .aload 4, 2), (47, .iconst 0, 1), (48, .putfield 130, 3), (51, .aload 4, 2), (53, .lconst 0, 1)]), (81, [(54, .putfield 133, 3), (57, .iconst 0, 1), (58, .istore 6, 2), (60, .iload 6, 2), (62, .aload_n 2, 1), (63, .getfield 95, 3), (66, .if_icmp .ge 63, 3), (69, .aload_n 3, 1), (70, .aload_n 2, 1), (71, .getfield 98, 3), (74, .iload 6, 2), (76, .iaload, 1), (77, .invokevirtual 137, 3), (80, .ifCond .eq 43, 3)]), (112, [(83, .aload 4, 2), (85, .dup, 1), (86, .getfield 130, 3), (89, .iconst 1, 1), (90, .iadd, 1), (91, .putfield 130, 3), (94, .iload 5, 2), (96, .ifCond .eq 27, 3), (99, .iload 6, 2), (101, .aload 4, 2), (103, .getfield 86, 3), (106, .if_icmp .ge 17, 3), (109, .aload 4, 2), (111, .dup, 1)]), (130, [(112, .getfield 133, 3), (115, .lconst 1, 1), (116, .iload 6, 2), (118, .lshl, 1), (119, .lor, 1), (120, .putfield 133, 3), (123, .iinc 6 1, 3), (126, .goto (-66), 3), (129, .return_, 1)])]
theorem ftX5_meet_ok : zk_ftb cX5_meet ftX5_meet = true := by decide +kernel
def qcX5_meet_39_36_36 : zQ := ((5, 5), ([(2, 1, 0), (0, 2, 0), (2, 3, 0), (2, 4, 0)], ([(0, 0, 0), (2, 0, 1)], [], [], []), ([(1, 39), (3, 36), (4, 36)], [], [], [], [], [])), [(none, ([(0, 0, 0)], [], [], []), ([], [], [], [], [], []))], ([(37, 11), (37, 12), (37, 13)], []), (0, 0))
def mcX5_meet_39_36_36 : zM := (yX5_meet, cX5_meet, 7, none, { frames := 2, cells := 0, slots := 0, locals := 34 }, qcX5_meet_39_36_36)
def hcX5_meet_39_36_36 : zH := ([(60, [([(2, (2, 3, 0)), (3, (2, 4, 0)), (4, (2, 5, 0)), (5, (0, 6, 0)), (6, (0, 7, 0))], [], ([(0, 0, 0), (6, 0, 1), (7, 0, 60), (8, (-9223372036854775808), 9223372036854775807), (9, (-2147483648), 2147483647), (10, 0, 1), (2, 0, 1)], [], [], []), ([(5, 37), (11, 64), (1, 39), (3, 36), (4, 36)], [(5, 3, 13, (1, 8, 0)), (5, 3, 12, (0, 9, 0)), (5, 3, 11, (0, 6, 0)), (3, 2, 2, (0, 10, 0)), (1, 5, 0, (2, 11, 0))], [], [], [], []), (12, ([(7, (-1))], 60), 0, 0))])], [], [(91, [(3, 0, 0)])], [], ([], 0, 0), 121)
theorem jcX5_meet_39_36_36 : zk_txok RX5 hcX5_meet_39_36_36.2.2.2.2.1 := zk_txb_ok (p := (0, 0)) (by decide +kernel)
def xcX5_meet_39_36_36 : List zX := [(137, 2, 2, mcX2_has)]
theorem wcX5_meet_39_36_36 : zk_hwsb zcl RX5 mcX5_meet_39_36_36.rm xcX5_meet_39_36_36 [(947, 84, 944, 945, 946)] = true := by decide +kernel
theorem icX5_meet_39_36_36 : zk_idb zcl RX5 5 false mcX5_meet_39_36_36 = true := by decide +kernel
theorem ecX5_meet_39_36_36 : zk_run zcl zft zTT zPF zPB zSUf zLX5 5 false mcX5_meet_39_36_36 ftX5_meet hcX5_meet_39_36_36 zULf xcX5_meet_39_36_36 35 = true := by decide +kernel
theorem gcX5_meet_39_36_36 {D : zD} {l : Launch} (hD : zWD D) : zCs D l xcX5_meet_39_36_36 := ⟨tcX2_has hD, trivial⟩
theorem tcX5_meet_39_36_36 {D : zD} {l : Launch} (hD : zWD D) : zC D l mcX5_meet_39_36_36 := zk_methC ⟨rfl, rfl⟩ hD poolX5 icX5_meet_39_36_36 jcX5_meet_39_36_36 ftX5_meet_ok (gcX5_meet_39_36_36 hD) wcX5_meet_39_36_36 ecX5_meet_39_36_36
