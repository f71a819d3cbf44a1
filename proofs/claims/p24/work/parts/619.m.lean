/-! METHODS (printed by wip/t6) -/
def ftJ9_floorMod_f86c9 : List (Nat × List (Nat × Instr × Nat)) := [(18, [(0, .lload_n 0, 1), (1, .lload_n 2, 1), (2, .lrem, 1), (3, .lstore 4, 2), (5, .lload_n 0, 1), (6, .lload_n 2, 1), (7, .lxor, 1), (8, .lconst 0, 1), (9, .lcmp, 1), (10, .ifCond .ge 15, 3), (13, .lload 4, 2), (15, .lconst 0, 1), (16, .lcmp, 1), (17, .ifCond .eq 8, 3)]), (28, [(20, .lload 4, 2), (22, .lload_n 2, 1), (23, .ladd, 1), (24, .lreturn, 1), (25, .lload 4, 2), (27, .lreturn, 1)])]
theorem ftJ9_floorMod_f86c9_ok : zk_ftb cJ9_floorMod_f86c9 ftJ9_floorMod_f86c9 = true := by decide +kernel
def qcJ9_floorMod_f86c9 : zQ := ((3, 4), ([(1, 1, 0), (1, 2, 0)], ([(0, 0, 0), (1, (-9223372036854775808), 9223372036854775807), (2, 4, 2147483647)], [], [], []), ([], [], [], [], [], [])), [(some (1, 3, 0), ([(0, 0, 0), (3, (-9223372036854775808), 9223372036854775807)], [], [], []), ([], [], [], [], [], []))], ([], []), (0, 0))
def mcJ9_floorMod_f86c9 : zM := (yJ9_floorMod_f86c9, cJ9_floorMod_f86c9, 6, (some .long), { frames := 1, cells := 0, slots := 0, locals := 12 }, qcJ9_floorMod_f86c9)
def hcJ9_floorMod_f86c9 : zH := ([], [], [], [], ([], 0, 0), 1)
theorem jcJ9_floorMod_f86c9 : zk_txok RJ9 hcJ9_floorMod_f86c9.2.2.2.2.1 := zk_txb_ok (p := (0, 0)) (by decide +kernel)
def xcJ9_floorMod_f86c9 : List zX := []
theorem wcJ9_floorMod_f86c9 : zk_hwsb zcl RJ9 mcJ9_floorMod_f86c9.rm xcJ9_floorMod_f86c9 [] = true := by decide +kernel
theorem icJ9_floorMod_f86c9 : zk_idb zcl RJ9 0 false mcJ9_floorMod_f86c9 = true := by decide +kernel
theorem ecJ9_floorMod_f86c9 : zk_run zcl zft zTT zPF zPB zSUf zLJ9 0 false mcJ9_floorMod_f86c9 ftJ9_floorMod_f86c9 hcJ9_floorMod_f86c9 zULf xcJ9_floorMod_f86c9 20 = true := by decide +kernel
theorem gcJ9_floorMod_f86c9 {D : zD} {l : Launch} (hD : zWD D) : zCs D l xcJ9_floorMod_f86c9 := trivial
theorem tcJ9_floorMod_f86c9 {D : zD} {l : Launch} (hD : zWD D) : zC D l mcJ9_floorMod_f86c9 := zk_methC ⟨rfl, rfl⟩ hD poolJ9 icJ9_floorMod_f86c9 jcJ9_floorMod_f86c9 ftJ9_floorMod_f86c9_ok (gcJ9_floorMod_f86c9 hD) wcJ9_floorMod_f86c9 ecJ9_floorMod_f86c9
def ftX1_inverse : List (Nat × List (Nat × Instr × Nat)) := [(19, [(0, .iload_n 0, 1), (1, .i2l, 1), (2, .lstore_n 2, 1), (3, .iload_n 1, 1), (4, .i2l, 1), (5, .lstore 4, 2), (7, .lconst 1, 1), (8, .lstore 6, 2), (10, .lconst 0, 1), (11, .lstore 8, 2), (13, .iconst 0, 1), (14, .istore 10, 2), (16, .iload 10, 2), (18, .sipush 200, 3)]), (44, [(21, .if_icmp .ge 56, 3), (24, .lload 4, 2), (26, .lconst 0, 1), (27, .lcmp, 1), (28, .ifCond .eq 49, 3), (31, .lload_n 2, 1), (32, .lload 4, 2), (34, .ldiv, 1), (35, .lstore 11, 2), (37, .lload_n 2, 1), (38, .lload 11, 2), (40, .lload 4, 2), (42, .lmul, 1), (43, .lsub, 1)]), (68, [(44, .lstore 13, 2), (46, .lload 4, 2), (48, .lstore_n 2, 1), (49, .lload 13, 2), (51, .lstore 4, 2), (53, .lload 6, 2), (55, .lload 11, 2), (57, .lload 8, 2), (59, .lmul, 1), (60, .lsub, 1), (61, .lstore 13, 2), (63, .lload 8, 2), (65, .lstore 6, 2), (67, .lload 13, 2)]), (94, [(69, .lstore 8, 2), (71, .iinc 10 1, 3), (74, .goto (-58), 3), (77, .iload_n 1, 1), (78, .ifCond .le 14, 3), (81, .lload 6, 2), (83, .iload_n 1, 1), (84, .i2l, 1), (85, .invokestatic 10, 3), (88, .l2i, 1), (89, .goto 4, 3), (92, .iconst 0, 1), (93, .ireturn, 1)])]
theorem ftX1_inverse_ok : zk_ftb cX1_inverse ftX1_inverse = true := by decide +kernel
def qcX1_inverse : zQ := ((3, 4), ([(0, 1, 0), (0, 2, 0)], ([(0, 0, 0), (1, 0, 2147483647), (2, 4, 2147483647)], [], [], []), ([], [], [], [], [], [])), [(some (0, 3, 0), ([(0, 0, 0), (3, (-2147483648), 2147483647)], [], [], []), ([], [], [], [], [], []))], ([], []), (0, 0))
def mcX1_inverse : zM := (yX1_inverse, cX1_inverse, 15, (some .int), { frames := 2, cells := 0, slots := 0, locals := 37 }, qcX1_inverse)
def hcX1_inverse : zH := ([(16, [([(1, (0, 2, 0)), (2, (1, 3, 0)), (4, (1, 4, 0)), (6, (1, 5, 0)), (8, (1, 6, 0)), (10, (0, 7, 0))], [], ([(0, 0, 0), (3, (-9223372036854775808), 9223372036854775807), (4, (-9223372036854775808), 9223372036854775807), (5, (-9223372036854775808), 9223372036854775807), (6, (-9223372036854775808), 9223372036854775807), (7, 0, 200), (1, 0, 2147483647), (2, 4, 2147483647)], [], [], []), ([], [], [], [], [], []), (8, ([(7, (-1))], 200), 0, 0))])], [], [(93, [(3, 0, 0)])], [], ([], 0, 0), 401)
theorem jcX1_inverse : zk_txok RX1 hcX1_inverse.2.2.2.2.1 := zk_txb_ok (p := (0, 0)) (by decide +kernel)
def xcX1_inverse : List zX := [(10, 0, 0, mcJ9_floorMod_f86c9)]
theorem wcX1_inverse : zk_hwsb zcl RX1 mcX1_inverse.rm xcX1_inverse [(845, 92, 843, 844, 0)] = true := by decide +kernel
theorem icX1_inverse : zk_idb zcl RX1 0 false mcX1_inverse = true := by decide +kernel
theorem ecX1_inverse : zk_run zcl zft zTT zPF zPB zSUf zLX1 0 false mcX1_inverse ftX1_inverse hcX1_inverse zULf xcX1_inverse 35 = true := by decide +kernel
theorem gcX1_inverse {D : zD} {l : Launch} (hD : zWD D) : zCs D l xcX1_inverse := ⟨tcJ9_floorMod_f86c9 hD, trivial⟩
theorem tcX1_inverse {D : zD} {l : Launch} (hD : zWD D) : zC D l mcX1_inverse := zk_methC ⟨rfl, rfl⟩ hD poolX1 icX1_inverse jcX1_inverse ftX1_inverse_ok (gcX1_inverse hD) wcX1_inverse ecX1_inverse
def ftX9_undo : List (Nat × List (Nat × Instr × Nat)) := [(26, [(0, .aload_n 0, 1), (1, .getfield 19, 3), (4, .ifCond .ne 25, 3), (7, .iload_n 1, 1), (8, .aload_n 0, 1), (9, .getfield 23, 3), (12, .aload_n 0, 1), (13, .getfield 26, 3), (16, .iconst 1, 1), (17, .isub, 1), (18, .invokestatic 51, 3), (21, .aload_n 0, 1), (22, .getfield 26, 3), (25, .invokestatic 39, 3)]), (52, [(28, .ireturn, 1), (29, .aload_n 0, 1), (30, .getfield 19, 3), (33, .iconst 1, 1), (34, .if_icmp .ne 25, 3), (37, .iload_n 1, 1), (38, .i2l, 1), (39, .aload_n 0, 1), (40, .getfield 23, 3), (43, .aload_n 0, 1), (44, .getfield 26, 3), (47, .invokestatic 51, 3), (50, .i2l, 1), (51, .aload_n 0, 1)]), (76, [(52, .getfield 26, 3), (55, .invokestatic 43, 3), (58, .ireturn, 1), (59, .aload_n 0, 1), (60, .iload_n 1, 1), (61, .aload_n 0, 1), (62, .getfield 26, 3), (65, .iconst 1, 1), (66, .isub, 1), (67, .aload_n 0, 1), (68, .getfield 23, 3), (71, .isub, 1), (72, .invokevirtual 47, 3), (75, .ireturn, 1)])]
theorem ftX9_undo_ok : zk_ftb cX9_undo ftX9_undo = true := by decide +kernel
def qcX9_undo_122 : zQ := ((3, 4), ([(2, 1, 0), (0, 2, 0)], ([(0, 0, 0), (2, 1, 2147483646)], [], [], []), ([(1, 122)], [], [], [], [], [])), [(some (0, 3, 0), ([(0, 0, 0), (3, (-2147483648), 2147483647)], [], [], []), ([], [], [], [], [], []))], ([], []), (0, 0))
def mcX9_undo_122 : zM := (yX9_undo, cX9_undo, 2, (some .int), { frames := 3, cells := 0, slots := 0, locals := 71 }, qcX9_undo_122)
def hcX9_undo_122 : zH := ([], [], [], [], ([], 0, 0), 1)
theorem jcX9_undo_122 : zk_txok RX9 hcX9_undo_122.2.2.2.2.1 := zk_txb_ok (p := (0, 0)) (by decide +kernel)
def xcX9_undo_122 : List zX := [(39, 0, 0, mcX1_power), (43, 0, 0, mcX1_times), (47, 2, 9, mcX9_plus_122), (51, 0, 0, mcX1_inverse)]
theorem wcX9_undo_122 : zk_hwsb zcl RX9 mcX9_undo_122.rm xcX9_undo_122 [(806, 91, 804, 805, 0), (809, 91, 807, 808, 0), (813, 81, 810, 812, 19), (842, 91, 840, 841, 0)] = true := by decide +kernel
theorem icX9_undo_122 : zk_idb zcl RX9 9 false mcX9_undo_122 = true := by decide +kernel
theorem ecX9_undo_122 : zk_run zcl zft zTT zPF zPB zSUf zLX9 9 false mcX9_undo_122 ftX9_undo hcX9_undo_122 zULf xcX9_undo_122 21 = true := by decide +kernel
theorem gcX9_undo_122 {D : zD} {l : Launch} (hD : zWD D) : zCs D l xcX9_undo_122 := ⟨tcX1_power hD, tcX1_times hD, tcX9_plus_122 hD, tcX1_inverse hD, trivial⟩
theorem tcX9_undo_122 {D : zD} {l : Launch} (hD : zWD D) : zC D l mcX9_undo_122 := zk_methC ⟨rfl, rfl⟩ hD poolX9 icX9_undo_122 jcX9_undo_122 ftX9_undo_ok (gcX9_undo_122 hD) wcX9_undo_122 ecX9_undo_122
def qcX9_undo_123 : zQ := ((3, 4), ([(2, 1, 0), (0, 2, 0)], ([(0, 0, 0), (2, 1, 2147483646)], [], [], []), ([(1, 123)], [], [], [], [], [])), [(some (0, 3, 0), ([(0, 0, 0), (3, (-2147483648), 2147483647)], [], [], []), ([], [], [], [], [], []))], ([], []), (0, 0))
def mcX9_undo_123 : zM := (yX9_undo, cX9_undo, 2, (some .int), { frames := 3, cells := 0, slots := 0, locals := 71 }, qcX9_undo_123)
def hcX9_undo_123 : zH := ([], [], [], [], ([], 0, 0), 1)
theorem jcX9_undo_123 : zk_txok RX9 hcX9_undo_123.2.2.2.2.1 := zk_txb_ok (p := (0, 0)) (by decide +kernel)
def xcX9_undo_123 : List zX := [(39, 0, 0, mcX1_power), (43, 0, 0, mcX1_times), (47, 2, 9, mcX9_plus_123), (51, 0, 0, mcX1_inverse)]
theorem wcX9_undo_123 : zk_hwsb zcl RX9 mcX9_undo_123.rm xcX9_undo_123 [(806, 91, 804, 805, 0), (809, 91, 807, 808, 0), (813, 81, 810, 812, 19), (842, 91, 840, 841, 0)] = true := by decide +kernel
theorem icX9_undo_123 : zk_idb zcl RX9 9 false mcX9_undo_123 = true := by decide +kernel
theorem ecX9_undo_123 : zk_run zcl zft zTT zPF zPB zSUf zLX9 9 false mcX9_undo_123 ftX9_undo hcX9_undo_123 zULf xcX9_undo_123 21 = true := by decide +kernel
theorem gcX9_undo_123 {D : zD} {l : Launch} (hD : zWD D) : zCs D l xcX9_undo_123 := ⟨tcX1_power hD, tcX1_times hD, tcX9_plus_123 hD, tcX1_inverse hD, trivial⟩
theorem tcX9_undo_123 {D : zD} {l : Launch} (hD : zWD D) : zC D l mcX9_undo_123 := zk_methC ⟨rfl, rfl⟩ hD poolX9 icX9_undo_123 jcX9_undo_123 ftX9_undo_ok (gcX9_undo_123 hD) wcX9_undo_123 ecX9_undo_123
def ftX11_turned : List (Nat × List (Nat × Instr × Nat)) := [(25, [(0, .iload_n 1, 1), (1, .invokestatic 123, 3), (4, .ifCond .eq 16, 3), (7, .iload_n 2, 1), (8, .iconst 1, 1), (9, .if_icmp .lt 11, 3), (12, .iload_n 2, 1), (13, .aload_n 0, 1), (14, .getfield 52, 3), (17, .if_icmp .lt 6, 3), (20, .bipush (-2), 2), (22, .ireturn, 1), (23, .iload_n 3, 1), (24, .ifCond .eq 16, 3)]), (51, [(27, .aload_n 0, 1), (28, .getfield 59, 3), (31, .iload_n 1, 1), (32, .aaload, 1), (33, .iload_n 2, 1), (34, .invokevirtual 196, 3), (37, .goto 13, 3), (40, .aload_n 0, 1), (41, .getfield 59, 3), (44, .iload_n 1, 1), (45, .aaload, 1), (46, .iload_n 2, 1), (47, .invokevirtual 200, 3), (50, .ireturn, 1)])]
theorem ftX11_turned_ok : zk_ftb cX11_turned ftX11_turned = true := by decide +kernel
def qcX11_turned : zQ := ((5, 6), ([(2, 1, 0), (0, 2, 0), (0, 3, 0), (0, 4, 0)], ([(0, 0, 0), (2, (-2147483648), 2147483647), (3, (-2147483648), 2147483647), (4, 0, 1)], [], [], []), ([(1, 42)], [], [], [], [], [])), [(some (0, 0, (-2)), ([(0, 0, 0)], [], [], []), ([], [], [], [], [], [])), (some (0, 5, 0), ([(0, 0, 0), (5, (-2147483648), 2147483647), (2, 0, 1), (3, 1, 2147483646)], [], [], []), ([], [], [], [], [], []))], ([], []), (0, 0))
def mcX11_turned : zM := (yX11_turned, cX11_turned, 4, (some .int), { frames := 4, cells := 0, slots := 0, locals := 92 }, qcX11_turned)
def hcX11_turned : zH := ([], [], [], [], ([], 0, 0), 1)
theorem jcX11_turned : zk_txok RX11 hcX11_turned.2.2.2.2.1 := zk_txb_ok (p := (0, 0)) (by decide +kernel)
def xcX11_turned : List zX := [(123, 0, 0, mcX11_isSide), (196, 2, 9, mcX9_undo_122), (196, 2, 9, mcX9_undo_123), (200, 2, 9, mcX9_apply_122), (200, 2, 9, mcX9_apply_123)]
theorem wcX11_turned : zk_hwsb zcl RX11 mcX11_turned.rm xcX11_turned [(673, 75, 671, 672, 0), (839, 81, 836, 837, 838), (839, 81, 836, 837, 838), (803, 81, 846, 801, 802), (803, 81, 846, 801, 802)] = true := by decide +kernel
theorem icX11_turned : zk_idb zcl RX11 11 false mcX11_turned = true := by decide +kernel
theorem ecX11_turned : zk_run zcl zft zTT zPF zPB zSUf zLX11 11 false mcX11_turned ftX11_turned hcX11_turned zULf xcX11_turned 22 = true := by decide +kernel
theorem gcX11_turned {D : zD} {l : Launch} (hD : zWD D) : zCs D l xcX11_turned := ⟨tcX11_isSide hD, tcX9_undo_122 hD, tcX9_undo_123 hD, tcX9_apply_122 hD, tcX9_apply_123 hD, trivial⟩
theorem tcX11_turned {D : zD} {l : Launch} (hD : zWD D) : zC D l mcX11_turned := zk_methC ⟨rfl, rfl⟩ hD poolX11 icX11_turned jcX11_turned ftX11_turned_ok (gcX11_turned hD) wcX11_turned ecX11_turned
def ftX9_fixedNumbers : List (Nat × List (Nat × Instr × Nat)) := [(22, [(0, .aload_n 0, 1), (1, .getfield 19, 3), (4, .ifCond .ne 22, 3), (7, .aload_n 0, 1), (8, .getfield 23, 3), (11, .iconst 1, 1), (12, .isub, 1), (13, .i2l, 1), (14, .aload_n 0, 1), (15, .getfield 26, 3), (18, .iconst 1, 1), (19, .isub, 1), (20, .i2l, 1), (21, .invokestatic 29, 3)]), (46, [(24, .l2i, 1), (25, .ireturn, 1), (26, .aload_n 0, 1), (27, .getfield 19, 3), (30, .iconst 1, 1), (31, .if_icmp .ne 7, 3), (34, .iconst 1, 1), (35, .goto 4, 3), (38, .iconst 0, 1), (39, .istore_n 1, 1), (40, .aload_n 0, 1), (41, .getfield 23, 3), (44, .iload_n 1, 1), (45, .if_icmp .ne 12, 3)]), (59, [(48, .aload_n 0, 1), (49, .getfield 26, 3), (52, .iconst 1, 1), (53, .isub, 1), (54, .goto 4, 3), (57, .iconst 0, 1), (58, .ireturn, 1)])]
theorem ftX9_fixedNumbers_ok : zk_ftb cX9_fixedNumbers ftX9_fixedNumbers = true := by decide +kernel
def qcX9_fixedNumbers_122 : zQ := ((2, 3), ([(2, 1, 0)], ([(0, 0, 0)], [], [], []), ([(1, 122)], [], [], [], [], [])), [(some (0, 2, 0), ([(0, 0, 0), (2, (-2147483648), 2147483647)], [], [], []), ([], [], [], [], [], []))], ([], []), (0, 0))
def mcX9_fixedNumbers_122 : zM := (yX9_fixedNumbers, cX9_fixedNumbers, 2, (some .int), { frames := 2, cells := 0, slots := 0, locals := 38 }, qcX9_fixedNumbers_122)
def hcX9_fixedNumbers_122 : zH := ([], [], [(25, [(3, 0, 0)])], [], ([], 0, 0), 1)
theorem jcX9_fixedNumbers_122 : zk_txok RX9 hcX9_fixedNumbers_122.2.2.2.2.1 := zk_txb_ok (p := (0, 0)) (by decide +kernel)
def xcX9_fixedNumbers_122 : List zX := [(29, 0, 0, mcX1_commonFactor)]
theorem wcX9_fixedNumbers_122 : zk_hwsb zcl RX9 mcX9_fixedNumbers_122.rm xcX9_fixedNumbers_122 [(831, 91, 829, 830, 0)] = true := by decide +kernel
theorem icX9_fixedNumbers_122 : zk_idb zcl RX9 9 false mcX9_fixedNumbers_122 = true := by decide +kernel
theorem ecX9_fixedNumbers_122 : zk_run zcl zft zTT zPF zPB zSUf zLX9 9 false mcX9_fixedNumbers_122 ftX9_fixedNumbers hcX9_fixedNumbers_122 zULf xcX9_fixedNumbers_122 22 = true := by decide +kernel
theorem gcX9_fixedNumbers_122 {D : zD} {l : Launch} (hD : zWD D) : zCs D l xcX9_fixedNumbers_122 := ⟨tcX1_commonFactor hD, trivial⟩
theorem tcX9_fixedNumbers_122 {D : zD} {l : Launch} (hD : zWD D) : zC D l mcX9_fixedNumbers_122 := zk_methC ⟨rfl, rfl⟩ hD poolX9 icX9_fixedNumbers_122 jcX9_fixedNumbers_122 ftX9_fixedNumbers_ok (gcX9_fixedNumbers_122 hD) wcX9_fixedNumbers_122 ecX9_fixedNumbers_122
def qcX9_fixedNumbers_123 : zQ := ((2, 3), ([(2, 1, 0)], ([(0, 0, 0)], [], [], []), ([(1, 123)], [], [], [], [], [])), [(some (0, 2, 0), ([(0, 0, 0), (2, (-2147483648), 2147483647)], [], [], []), ([], [], [], [], [], []))], ([], []), (0, 0))
def mcX9_fixedNumbers_123 : zM := (yX9_fixedNumbers, cX9_fixedNumbers, 2, (some .int), { frames := 2, cells := 0, slots := 0, locals := 38 }, qcX9_fixedNumbers_123)
def hcX9_fixedNumbers_123 : zH := ([], [], [(25, [(3, 0, 0)])], [], ([], 0, 0), 1)
theorem jcX9_fixedNumbers_123 : zk_txok RX9 hcX9_fixedNumbers_123.2.2.2.2.1 := zk_txb_ok (p := (0, 0)) (by decide +kernel)
def xcX9_fixedNumbers_123 : List zX := [(29, 0, 0, mcX1_commonFactor)]
theorem wcX9_fixedNumbers_123 : zk_hwsb zcl RX9 mcX9_fixedNumbers_123.rm xcX9_fixedNumbers_123 [(831, 91, 829, 830, 0)] = true := by decide +kernel
theorem icX9_fixedNumbers_123 : zk_idb zcl RX9 9 false mcX9_fixedNumbers_123 = true := by decide +kernel
theorem ecX9_fixedNumbers_123 : zk_run zcl zft zTT zPF zPB zSUf zLX9 9 false mcX9_fixedNumbers_123 ftX9_fixedNumbers hcX9_fixedNumbers_123 zULf xcX9_fixedNumbers_123 22 = true := by decide +kernel
theorem gcX9_fixedNumbers_123 {D : zD} {l : Launch} (hD : zWD D) : zCs D l xcX9_fixedNumbers_123 := ⟨tcX1_commonFactor hD, trivial⟩
theorem tcX9_fixedNumbers_123 {D : zD} {l : Launch} (hD : zWD D) : zC D l mcX9_fixedNumbers_123 := zk_methC ⟨rfl, rfl⟩ hD poolX9 icX9_fixedNumbers_123 jcX9_fixedNumbers_123 ftX9_fixedNumbers_ok (gcX9_fixedNumbers_123 hD) wcX9_fixedNumbers_123 ecX9_fixedNumbers_123
def ftX11_fixed : List (Nat × List (Nat × Instr × Nat)) := [(22, [(0, .iload_n 1, 1), (1, .invokestatic 123, 3), (4, .ifCond .eq 15, 3), (7, .aload_n 0, 1), (8, .getfield 59, 3), (11, .iload_n 1, 1), (12, .aaload, 1), (13, .invokevirtual 203, 3), (16, .goto 5, 3), (19, .bipush (-2), 2), (21, .ireturn, 1)])]
theorem ftX11_fixed_ok : zk_ftb cX11_fixed ftX11_fixed = true := by decide +kernel
def qcX11_fixed : zQ := ((3, 4), ([(2, 1, 0), (0, 2, 0)], ([(0, 0, 0), (2, (-2147483648), 2147483647)], [], [], []), ([(1, 42)], [], [], [], [], [])), [(some (0, 0, (-2)), ([(0, 0, 0)], [], [], []), ([], [], [], [], [], [])), (some (0, 3, 0), ([(0, 0, 0), (3, (-2147483648), 2147483647), (2, 0, 1)], [], [], []), ([], [], [], [], [], []))], ([], []), (0, 0))
def mcX11_fixed : zM := (yX11_fixed, cX11_fixed, 2, (some .int), { frames := 3, cells := 0, slots := 0, locals := 59 }, qcX11_fixed)
def hcX11_fixed : zH := ([], [], [], [], ([], 0, 0), 1)
theorem jcX11_fixed : zk_txok RX11 hcX11_fixed.2.2.2.2.1 := zk_txb_ok (p := (0, 0)) (by decide +kernel)
def xcX11_fixed : List zX := [(123, 0, 0, mcX11_isSide), (203, 2, 9, mcX9_fixedNumbers_122), (203, 2, 9, mcX9_fixedNumbers_123)]
theorem wcX11_fixed : zk_hwsb zcl RX11 mcX11_fixed.rm xcX11_fixed [(673, 75, 671, 672, 0), (854, 81, 851, 852, 853), (854, 81, 851, 852, 853)] = true := by decide +kernel
theorem icX11_fixed : zk_idb zcl RX11 11 false mcX11_fixed = true := by decide +kernel
theorem ecX11_fixed : zk_run zcl zft zTT zPF zPB zSUf zLX11 11 false mcX11_fixed ftX11_fixed hcX11_fixed zULf xcX11_fixed 12 = true := by decide +kernel
theorem gcX11_fixed {D : zD} {l : Launch} (hD : zWD D) : zCs D l xcX11_fixed := ⟨tcX11_isSide hD, tcX9_fixedNumbers_122 hD, tcX9_fixedNumbers_123 hD, trivial⟩
theorem tcX11_fixed {D : zD} {l : Launch} (hD : zWD D) : zC D l mcX11_fixed := zk_methC ⟨rfl, rfl⟩ hD poolX11 icX11_fixed jcX11_fixed ftX11_fixed_ok (gcX11_fixed hD) wcX11_fixed ecX11_fixed
def ftX9_lastToLookAt : List (Nat × List (Nat × Instr × Nat)) := [(24, [(0, .aload_n 0, 1), (1, .getfield 26, 3), (4, .iconst 1, 1), (5, .isub, 1), (6, .istore_n 2, 1), (7, .aload_n 0, 1), (8, .getfield 19, 3), (11, .aload_n 1, 1), (12, .getfield 19, 3), (15, .if_icmp .eq 19, 3), (18, .aload_n 0, 1), (19, .invokevirtual 54, 3), (22, .iload_n 2, 1), (23, .if_icmp .eq 11, 3)]), (50, [(26, .aload_n 1, 1), (27, .invokevirtual 54, 3), (30, .iload_n 2, 1), (31, .if_icmp .ne 5, 3), (34, .iconst 0, 1), (35, .ireturn, 1), (36, .aload_n 0, 1), (37, .getfield 19, 3), (40, .iconst 2, 1), (41, .if_icmp .eq 11, 3), (44, .aload_n 1, 1), (45, .getfield 19, 3), (48, .iconst 2, 1), (49, .if_icmp .ne 7, 3)]), (58, [(52, .iload_n 2, 1), (53, .goto 4, 3), (56, .iconst 1, 1), (57, .ireturn, 1)])]
theorem ftX9_lastToLookAt_ok : zk_ftb cX9_lastToLookAt ftX9_lastToLookAt = true := by decide +kernel
def qcX9_lastToLookAt_122_123 : zQ := ((3, 4), ([(2, 1, 0), (2, 2, 0)], ([(0, 0, 0)], [], [], []), ([(1, 122), (2, 123)], [], [], [], [], [])), [(some (0, 3, 0), ([(0, 0, 0), (3, 0, 2147483646)], [], [], []), ([], [], [], [], [], []))], ([], []), (0, 0))
def mcX9_lastToLookAt_122_123 : zM := (yX9_lastToLookAt, cX9_lastToLookAt, 3, (some .int), { frames := 3, cells := 0, slots := 0, locals := 59 }, qcX9_lastToLookAt_122_123)
def hcX9_lastToLookAt_122_123 : zH := ([], [], [], [], ([], 0, 0), 1)
theorem jcX9_lastToLookAt_122_123 : zk_txok RX9 hcX9_lastToLookAt_122_123.2.2.2.2.1 := zk_txb_ok (p := (0, 0)) (by decide +kernel)
def xcX9_lastToLookAt_122_123 : List zX := [(54, 2, 9, mcX9_fixedNumbers_122), (54, 2, 9, mcX9_fixedNumbers_123)]
theorem wcX9_lastToLookAt_122_123 : zk_hwsb zcl RX9 mcX9_lastToLookAt_122_123.rm xcX9_lastToLookAt_122_123 [(854, 81, 863, 852, 853), (854, 81, 863, 852, 853)] = true := by decide +kernel
theorem icX9_lastToLookAt_122_123 : zk_idb zcl RX9 9 false mcX9_lastToLookAt_122_123 = true := by decide +kernel
theorem ecX9_lastToLookAt_122_123 : zk_run zcl zft zTT zPF zPB zSUf zLX9 9 false mcX9_lastToLookAt_122_123 ftX9_lastToLookAt hcX9_lastToLookAt_122_123 zULf xcX9_lastToLookAt_122_123 31 = true := by decide +kernel
theorem gcX9_lastToLookAt_122_123 {D : zD} {l : Launch} (hD : zWD D) : zCs D l xcX9_lastToLookAt_122_123 := ⟨tcX9_fixedNumbers_122 hD, tcX9_fixedNumbers_123 hD, trivial⟩
theorem tcX9_lastToLookAt_122_123 {D : zD} {l : Launch} (hD : zWD D) : zC D l mcX9_lastToLookAt_122_123 := zk_methC ⟨rfl, rfl⟩ hD poolX9 icX9_lastToLookAt_122_123 jcX9_lastToLookAt_122_123 ftX9_lastToLookAt_ok (gcX9_lastToLookAt_122_123 hD) wcX9_lastToLookAt_122_123 ecX9_lastToLookAt_122_123
def ftX11_unlike : List (Nat × List (Nat × Instr × Nat)) := [(24, [(0, .aload_n 0, 1), (1, .getfield 52, 3), (4, .ldc 207, 2), (6, .if_icmp .le 6, 3), (9, .bipush (-4), 2), (11, .ireturn, 1), (12, .aload_n 0, 1), (13, .getfield 59, 3), (16, .iconst 0, 1), (17, .aaload, 1), (18, .astore_n 1, 1), (19, .aload_n 0, 1), (20, .getfield 59, 3), (23, .iconst 1, 1)]), (44, [(24, .aaload, 1), (25, .astore_n 2, 1), (26, .aload_n 1, 1), (27, .aload_n 2, 1), (28, .invokestatic 208, 3), (31, .istore_n 3, 1), (32, .iconst 1, 1), (33, .istore 4, 2), (35, .iload 4, 2), (37, .iload_n 3, 1), (38, .if_icmp .gt 35, 3), (41, .aload_n 2, 1), (42, .aload_n 1, 1), (43, .iload 4, 2)]), (75, [(45, .invokevirtual 200, 3), (48, .invokevirtual 200, 3), (51, .aload_n 1, 1), (52, .aload_n 2, 1), (53, .iload 4, 2), (55, .invokevirtual 200, 3), (58, .invokevirtual 200, 3), (61, .if_icmp .eq 6, 3), (64, .iload 4, 2), (66, .ireturn, 1), (67, .iinc 4 1, 3), (70, .goto (-35), 3), (73, .iconst (-1), 1), (74, .ireturn, 1)])]
theorem ftX11_unlike_ok : zk_ftb cX11_unlike ftX11_unlike = true := by decide +kernel
def qcX11_unlike : zQ := ((2, 3), ([(2, 1, 0)], ([(0, 0, 0)], [], [], []), ([(1, 42)], [], [], [], [], [])), [(some (0, 0, (-1)), ([(0, 0, 0)], [], [], []), ([], [], [], [], [], [])), (some (0, 0, (-4)), ([(0, 0, 0)], [], [], []), ([], [], [], [], [], [])), (some (0, 2, 0), ([(0, 0, 0), (2, 1, 2147483646)], [], [], []), ([], [], [], [], [], []))], ([], []), (0, 0))
def mcX11_unlike : zM := (yX11_unlike, cX11_unlike, 5, (some .int), { frames := 4, cells := 0, slots := 0, locals := 81 }, qcX11_unlike)
def hcX11_unlike : zH := ([(35, [([(1, (2, 2, 0)), (2, (2, 3, 0)), (3, (0, 4, 0)), (4, (0, 5, 0))], [], ([(0, 0, 0), (4, 0, 2147483646), (5, 1, 2147483647), (7, 5, 100000)], [(5, 4, 1)], [], []), ([(2, 122), (3, 123), (6, 69), (1, 42)], [(1, 11, 8, (2, 6, 0)), (1, 11, 7, (0, 7, 0))], [], [], [], []), (8, ([(5, (-1))], 2147483647), 0, 0))])], [], [], [], ([], 0, 0), 4294967295)
theorem jcX11_unlike : zk_txok RX11 hcX11_unlike.2.2.2.2.1 := zk_txb_ok (p := (0, 0)) (by decide +kernel)
def xcX11_unlike : List zX := [(200, 2, 9, mcX9_apply_122), (200, 2, 9, mcX9_apply_123), (208, 0, 0, mcX9_lastToLookAt_122_123)]
theorem wcX11_unlike : zk_hwsb zcl RX11 mcX11_unlike.rm xcX11_unlike [(803, 81, 846, 801, 802), (803, 81, 846, 801, 802), (862, 81, 860, 861, 0)] = true := by decide +kernel
theorem icX11_unlike : zk_idb zcl RX11 11 false mcX11_unlike = true := by decide +kernel
theorem ecX11_unlike : zk_run zcl zft zTT zPF zPB zSUf zLX11 11 false mcX11_unlike ftX11_unlike hcX11_unlike zULf xcX11_unlike 22 = true := by decide +kernel
theorem gcX11_unlike {D : zD} {l : Launch} (hD : zWD D) : zCs D l xcX11_unlike := ⟨tcX9_apply_122 hD, tcX9_apply_123 hD, tcX9_lastToLookAt_122_123 hD, trivial⟩
theorem tcX11_unlike {D : zD} {l : Launch} (hD : zWD D) : zC D l mcX11_unlike := zk_methC ⟨rfl, rfl⟩ hD poolX11 icX11_unlike jcX11_unlike ftX11_unlike_ok (gcX11_unlike hD) wcX11_unlike ecX11_unlike
def ftX11_seed : List (Nat × List (Nat × Instr × Nat)) := [(23, [(0, .iload_n 1, 1), (1, .invokestatic 123, 3), (4, .ifCond .eq 7, 3), (7, .iload_n 2, 1), (8, .ifCond .ge 6, 3), (11, .bipush (-2), 2), (13, .ireturn, 1), (14, .aload_n 0, 1), (15, .getfield 63, 3), (18, .iload_n 1, 1), (19, .iaload, 1), (20, .istore_n 3, 1), (21, .aload_n 0, 1), (22, .getfield 63, 3)]), (35, [(25, .iload_n 1, 1), (26, .iload_n 2, 1), (27, .iastore, 1), (28, .aload_n 0, 1), (29, .iconst 0, 1), (30, .putfield 93, 3), (33, .iload_n 3, 1), (34, .ireturn, 1)])]
theorem ftX11_seed_ok : zk_ftb cX11_seed ftX11_seed = true := by decide +kernel
def qcX11_seed : zQ := ((4, 5), ([(2, 1, 0), (0, 2, 0), (0, 3, 0)], ([(0, 0, 0), (2, (-2147483648), 2147483647), (3, (-2147483648), 2147483647)], [], [], []), ([(1, 42)], [], [], [], [], [])), [(some (0, 0, (-2)), ([(0, 0, 0)], [], [], []), ([], [], [], [], [], [])), (some (0, 4, 0), ([(0, 0, 0), (4, 0, 2147483647), (2, 0, 1), (3, 0, 2147483647)], [], [], []), ([], [], [], [], [], []))], ([(42, 13)], [70]), (0, 0))
def mcX11_seed : zM := (yX11_seed, cX11_seed, 4, (some .int), { frames := 2, cells := 0, slots := 0, locals := 32 }, qcX11_seed)
def hcX11_seed : zH := ([], [], [], [], ([], 0, 0), 1)
theorem jcX11_seed : zk_txok RX11 hcX11_seed.2.2.2.2.1 := zk_txb_ok (p := (0, 0)) (by decide +kernel)
def xcX11_seed : List zX := [(123, 0, 0, mcX11_isSide)]
theorem wcX11_seed : zk_hwsb zcl RX11 mcX11_seed.rm xcX11_seed [(673, 75, 671, 672, 0)] = true := by decide +kernel
theorem icX11_seed : zk_idb zcl RX11 11 false mcX11_seed = true := by decide +kernel
theorem ecX11_seed : zk_run zcl zft zTT zPF zPB zSUf zLX11 11 false mcX11_seed ftX11_seed hcX11_seed zULf xcX11_seed 22 = true := by decide +kernel
theorem gcX11_seed {D : zD} {l : Launch} (hD : zWD D) : zCs D l xcX11_seed := ⟨tcX11_isSide hD, trivial⟩
theorem tcX11_seed {D : zD} {l : Launch} (hD : zWD D) : zC D l mcX11_seed := zk_methC ⟨rfl, rfl⟩ hD poolX11 icX11_seed jcX11_seed ftX11_seed_ok (gcX11_seed hD) wcX11_seed ecX11_seed
def qcX11_letterAt : zQ := ((3, 4), ([(1, 1, 0), (0, 2, 0)], ([(0, 0, 0), (1, (-9223372036854775808), 9223372036854775807), (2, 0, 45)], [], [], []), ([], [], [], [], [], [])), [(some (0, 3, 0), ([(0, 0, 0), (3, 0, 31)], [], [], []), ([], [], [], [], [], []))], ([], []), (0, 0))
def mcX11_letterAt : zM := (yX11_letterAt, cX11_letterAt, 3, (some .int), { frames := 1, cells := 0, slots := 0, locals := 12 }, qcX11_letterAt)
def hcX11_letterAt : zH := ([], [], [], [], ([], 0, 0), 1)
theorem jcX11_letterAt : zk_txok RX11 hcX11_letterAt.2.2.2.2.1 := zk_txb_ok (p := (0, 0)) (by decide +kernel)
def xcX11_letterAt : List zX := []
theorem wcX11_letterAt : zk_hwsb zcl RX11 mcX11_letterAt.rm xcX11_letterAt [] = true := by decide +kernel
theorem icX11_letterAt : zk_idb zcl RX11 11 false mcX11_letterAt = true := by decide +kernel
theorem ecX11_letterAt : zk_run zcl zft zTT zPF zPB zSUf zLX11 11 false mcX11_letterAt ftX11_letterAt hcX11_letterAt zULf xcX11_letterAt 9 = true := by decide +kernel
theorem gcX11_letterAt {D : zD} {l : Launch} (hD : zWD D) : zCs D l xcX11_letterAt := trivial
theorem tcX11_letterAt {D : zD} {l : Launch} (hD : zWD D) : zC D l mcX11_letterAt := zk_methC ⟨rfl, rfl⟩ hD poolX11 icX11_letterAt jcX11_letterAt ftX11_letterAt_ok (gcX11_letterAt hD) wcX11_letterAt ecX11_letterAt
def qcX11_numberOf : zQ := ((3, 4), ([(1, 1, 0), (0, 2, 0)], ([(0, 0, 0), (1, (-9223372036854775808), 9223372036854775807), (2, 0, 2147483647)], [], [], []), ([], [], [], [], [], [])), [(some (0, 3, 0), ([(0, 0, 0), (3, 1, 2147483646)], [(3, 2, 1)], [], []), ([], [], [], [], [], []))], ([], []), (0, 0))
def mcX11_numberOf : zM := (yX11_numberOf, cX11_numberOf, 7, (some .int), { frames := 2, cells := 0, slots := 0, locals := 34 }, qcX11_numberOf)
def hcX11_numberOf : zH := ([(19, [([(0, (1, 1, 0)), (2, (0, 2, 0)), (3, (1, 3, 0)), (5, (0, 4, 0))], [], ([(0, 0, 0), (3, 0, 2147483645), (4, (-5), 45), (1, (-9223372036854775808), 9223372036854775807), (2, 5, 2147483647)], [(3, 2, (-2))], [], []), ([], [], [], [], [], []), (5, ([(4, 1)], 5), 0, 0))])], [], [], [], ([], 0, 0), 51)
theorem jcX11_numberOf : zk_txok RX11 hcX11_numberOf.2.2.2.2.1 := zk_txb_ok (p := (0, 0)) (by decide +kernel)
def xcX11_numberOf : List zX := [(172, 0, 0, mcX11_letterAt)]
theorem wcX11_numberOf : zk_hwsb zcl RX11 mcX11_numberOf.rm xcX11_numberOf [(693, 75, 787, 692, 0)] = true := by decide +kernel
theorem icX11_numberOf : zk_idb zcl RX11 11 false mcX11_numberOf = true := by decide +kernel
theorem ecX11_numberOf : zk_run zcl zft zTT zPF zPB zSUf zLX11 11 false mcX11_numberOf ftX11_numberOf hcX11_numberOf zULf xcX11_numberOf 24 = true := by decide +kernel
theorem gcX11_numberOf {D : zD} {l : Launch} (hD : zWD D) : zCs D l xcX11_numberOf := ⟨tcX11_letterAt hD, trivial⟩
theorem tcX11_numberOf {D : zD} {l : Launch} (hD : zWD D) : zC D l mcX11_numberOf := zk_methC ⟨rfl, rfl⟩ hD poolX11 icX11_numberOf jcX11_numberOf ftX11_numberOf_ok (gcX11_numberOf hD) wcX11_numberOf ecX11_numberOf
