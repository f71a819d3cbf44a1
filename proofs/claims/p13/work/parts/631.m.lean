/-! METHODS (printed by wip/t3) -/
def qcX12_common : zQ := ((3, 4), ([(1, 1, 0), (1, 2, 0)], ([(0, 0, 0), (1, (-1), 2147483646), (2, 4, 2147483646)], [], [], []), ([], [], [], [], [], [])), [(some (1, 3, 0), ([(0, 0, 0), (3, (-9223372036854775808), 9223372036854775807)], [], [], []), ([], [], [], [], [], []))], ([], []), (0, 0))
def mcX12_common : zM := (yX12_common, cX12_common, 10, (some .long), { frames := 1, cells := 0, slots := 0, locals := 12 }, qcX12_common)
def hcX12_common : zH := ([(6, [([(4, (1, 3, 0)), (6, (1, 4, 0))], [], ([(0, 0, 0), (3, (-9223372036854775808), 9223372036854775807), (4, (-9223372036854775808), 9223372036854775807), (5, 0, 9223372036854775808), (1, (-1), 2147483646), (2, 4, 2147483646)], [], [], []), ([], [], [], [], [], [(60, [(1, 4, 0), (1, 5, 0)])]), (6, ([(5, 1)], 0), 0, 0))])], [], [(3, [(9, 1002, 0)]), (17, [(8, 0, 0)]), (18, [(9, 2, 0)])], [], ([], 0, 0), 9223372036854775809)
theorem jcX12_common : zk_txok RX12 hcX12_common.2.2.2.2.1 := zk_txb_ok (p := (0, 0)) (by decide +kernel)
def xcX12_common : List zX := []
theorem wcX12_common : zk_hwsb zcl RX12 mcX12_common.rm xcX12_common [] = true := by decide +kernel
theorem icX12_common : zk_idb zcl RX12 12 false mcX12_common = true := by decide +kernel
theorem ecX12_common : zk_run zcl zft zTT zPF zPB zSUf zLX12 12 false mcX12_common ftX12_common hcX12_common zULf xcX12_common 15 = true := by decide +kernel
theorem gcX12_common {D : zD} {l : Launch} (hD : zWD D) : zCs D l xcX12_common := trivial
theorem tcX12_common {D : zD} {l : Launch} (hD : zWD D) : zC D l mcX12_common := zk_methC ⟨rfl, rfl⟩ hD poolX12 icX12_common jcX12_common ftX12_common_ok (gcX12_common hD) wcX12_common ecX12_common
def ftX12_fixed : List (Nat × List (Nat × Instr × Nat)) := [(23, [(0, .iload_n 1, 1), (1, .invokestatic 294, 3), (4, .ifCond .ne 6, 3), (7, .bipush (-2), 2), (9, .ireturn, 1), (10, .aload_n 0, 1), (11, .getfield 44, 3), (14, .iload_n 1, 1), (15, .iaload, 1), (16, .istore_n 2, 1), (17, .aload_n 0, 1), (18, .getfield 41, 3), (21, .iload_n 1, 1), (22, .iaload, 1)]), (43, [(23, .ifCond .ne 19, 3), (26, .iload_n 2, 1), (27, .iconst 1, 1), (28, .isub, 1), (29, .i2l, 1), (30, .aload_n 0, 1), (31, .getfield 167, 3), (34, .iconst 1, 1), (35, .isub, 1), (36, .i2l, 1), (37, .invokestatic 317, 3), (40, .l2i, 1), (41, .ireturn, 1), (42, .iload_n 2, 1)]), (67, [(43, .aload_n 0, 1), (44, .getfield 41, 3), (47, .iload_n 1, 1), (48, .iaload, 1), (49, .iconst 1, 1), (50, .if_icmp .ne 7, 3), (53, .iconst 1, 1), (54, .goto 4, 3), (57, .iconst 0, 1), (58, .if_icmp .ne 12, 3), (61, .aload_n 0, 1), (62, .getfield 167, 3), (65, .iconst 1, 1), (66, .isub, 1)]), (72, [(67, .goto 4, 3), (70, .iconst 0, 1), (71, .ireturn, 1)])]
theorem ftX12_fixed_ok : zk_ftb cX12_fixed ftX12_fixed = true := by decide +kernel
def qcX12_fixed : zQ := ((3, 4), ([(2, 1, 0), (0, 2, 0)], ([(0, 0, 0), (2, (-2147483648), 2147483647)], [], [], []), ([(1, 43)], [], [], [], [], [])), [(some (0, 0, (-2)), ([(0, 0, 0)], [], [], []), ([], [], [], [], [], [])), (some (0, 3, 0), ([(0, 0, 0), (3, (-2147483648), 2147483647), (2, 0, 1)], [], [], []), ([], [], [], [], [], []))], ([], []), (0, 0))
def mcX12_fixed : zM := (yX12_fixed, cX12_fixed, 3, (some .int), { frames := 2, cells := 0, slots := 0, locals := 41 }, qcX12_fixed)
def hcX12_fixed : zH := ([], [], [(41, [(3, 0, 0)])], [], ([], 0, 0), 1)
theorem jcX12_fixed : zk_txok RX12 hcX12_fixed.2.2.2.2.1 := zk_txb_ok (p := (0, 0)) (by decide +kernel)
def xcX12_fixed : List zX := [(294, 0, 0, mcX12_isSide), (317, 0, 0, mcX12_common)]
theorem wcX12_fixed : zk_hwsb zcl RX12 mcX12_fixed.rm xcX12_fixed [(1447, 86, 1445, 1446, 0), (1504, 86, 1502, 1503, 0)] = true := by decide +kernel
theorem icX12_fixed : zk_idb zcl RX12 12 false mcX12_fixed = true := by decide +kernel
theorem ecX12_fixed : zk_run zcl zft zTT zPF zPB zSUf zLX12 12 false mcX12_fixed ftX12_fixed hcX12_fixed zULf xcX12_fixed 31 = true := by decide +kernel
theorem gcX12_fixed {D : zD} {l : Launch} (hD : zWD D) : zCs D l xcX12_fixed := ⟨tcX12_isSide hD, tcX12_common hD, trivial⟩
theorem tcX12_fixed {D : zD} {l : Launch} (hD : zWD D) : zC D l mcX12_fixed := zk_methC ⟨rfl, rfl⟩ hD poolX12 icX12_fixed jcX12_fixed ftX12_fixed_ok (gcX12_fixed hD) wcX12_fixed ecX12_fixed
def qcX12_power : zQ := ((4, 5), ([(2, 1, 0), (1, 2, 0), (1, 3, 0)], ([(0, 0, 0), (2, (-2147483648), 2147483647), (3, 0, 2147483647)], [], [], []), ([(1, 43)], [], [], [], [], [])), [(some (1, 4, 0), ([(0, 0, 0), (4, (-9223372036854775808), 9223372036854775807)], [], [], []), ([], [], [], [], [], []))], ([], []), (0, 0))
def mcX12_power : zM := (yX12_power, cX12_power, 11, (some .long), { frames := 1, cells := 0, slots := 0, locals := 12 }, qcX12_power)
def hcX12_power : zH := ([(9, [([(0, (2, 1, 0)), (5, (1, 4, 0)), (7, (1, 5, 0)), (9, (1, 6, 0))], [], ([(0, 0, 0), (4, (-9223372036854775808), 9223372036854775807), (5, (-9223372036854775808), 9223372036854775807), (6, 0, 2147483647), (2, (-2147483648), 2147483647), (3, 0, 2147483647)], [], [], []), ([(1, 43)], [], [], [], [], []), (7, ([(6, 1)], 0), 0, 0))])], [], [], [], ([], 0, 0), 2147483648)
theorem jcX12_power : zk_txok RX12 hcX12_power.2.2.2.2.1 := zk_txb_ok (p := (0, 0)) (by decide +kernel)
def xcX12_power : List zX := []
theorem wcX12_power : zk_hwsb zcl RX12 mcX12_power.rm xcX12_power [] = true := by decide +kernel
theorem icX12_power : zk_idb zcl RX12 12 false mcX12_power = true := by decide +kernel
theorem ecX12_power : zk_run zcl zft zTT zPF zPB zSUf zLX12 12 false mcX12_power ftX12_power hcX12_power zULf xcX12_power 33 = true := by decide +kernel
theorem gcX12_power {D : zD} {l : Launch} (hD : zWD D) : zCs D l xcX12_power := trivial
theorem tcX12_power {D : zD} {l : Launch} (hD : zWD D) : zC D l mcX12_power := zk_methC ⟨rfl, rfl⟩ hD poolX12 icX12_power jcX12_power ftX12_power_ok (gcX12_power hD) wcX12_power ecX12_power
def qcX12_turn_43 : zQ := ((5, 6), ([(2, 1, 0), (0, 2, 0), (0, 3, 0), (0, 4, 0)], ([(0, 0, 0), (2, (-2147483648), 2147483647), (3, 0, 2), (4, 0, 2147483647)], [], [], []), ([(1, 43)], [], [], [], [], [])), [(some (0, 5, 0), ([(0, 0, 0), (5, (-2147483648), 2147483647)], [], [], []), ([], [], [], [], [], []))], ([], []), (0, 0))
def mcX12_turn_43 : zM := (yX12_turn, cX12_turn, 6, (some .int), { frames := 2, cells := 0, slots := 0, locals := 42 }, qcX12_turn_43)
def hcX12_turn_43 : zH := ([], [], [(13, [(3, 0, 0)]), (31, [(3, 0, 0)]), (68, [(3, 0, 0)])], [], ([], 0, 0), 1)
theorem jcX12_turn_43 : zk_txok RX12 hcX12_turn_43.2.2.2.2.1 := zk_txb_ok (p := (0, 0)) (by decide +kernel)
def xcX12_turn_43 : List zX := [(325, 2, 12, mcX12_power)]
theorem wcX12_turn_43 : zk_hwsb zcl RX12 mcX12_turn_43.rm xcX12_turn_43 [(1516, 86, 1513, 1515, 54)] = true := by decide +kernel
theorem icX12_turn_43 : zk_idb zcl RX12 12 false mcX12_turn_43 = true := by decide +kernel
theorem ecX12_turn_43 : zk_run zcl zft zTT zPF zPB zSUf zLX12 12 false mcX12_turn_43 ftX12_turn hcX12_turn_43 zULf xcX12_turn_43 31 = true := by decide +kernel
theorem gcX12_turn_43 {D : zD} {l : Launch} (hD : zWD D) : zCs D l xcX12_turn_43 := ⟨tcX12_power hD, trivial⟩
theorem tcX12_turn_43 {D : zD} {l : Launch} (hD : zWD D) : zC D l mcX12_turn_43 := zk_methC ⟨rfl, rfl⟩ hD poolX12 icX12_turn_43 jcX12_turn_43 ftX12_turn_ok (gcX12_turn_43 hD) wcX12_turn_43 ecX12_turn_43
def ftX12_unlike : List (Nat × List (Nat × Instr × Nat)) := [(25, [(0, .aload_n 0, 1), (1, .getfield 167, 3), (4, .ldc_w 335, 3), (7, .if_icmp .le 6, 3), (10, .bipush (-4), 2), (12, .ireturn, 1), (13, .iconst 1, 1), (14, .istore_n 1, 1), (15, .iload_n 1, 1), (16, .aload_n 0, 1), (17, .getfield 167, 3), (20, .if_icmp .ge 84, 3), (23, .aload_n 0, 1), (24, .aload_n 0, 1)]), (47, [(25, .iload_n 1, 1), (26, .aload_n 0, 1), (27, .getfield 41, 3), (30, .iconst 0, 1), (31, .iaload, 1), (32, .aload_n 0, 1), (33, .getfield 44, 3), (36, .iconst 0, 1), (37, .iaload, 1), (38, .invokevirtual 328, 3), (41, .aload_n 0, 1), (42, .getfield 41, 3), (45, .iconst 1, 1), (46, .iaload, 1)]), (67, [(47, .aload_n 0, 1), (48, .getfield 44, 3), (51, .iconst 1, 1), (52, .iaload, 1), (53, .invokevirtual 328, 3), (56, .istore_n 2, 1), (57, .aload_n 0, 1), (58, .aload_n 0, 1), (59, .iload_n 1, 1), (60, .aload_n 0, 1), (61, .getfield 41, 3), (64, .iconst 1, 1), (65, .iaload, 1), (66, .aload_n 0, 1)]), (91, [(67, .getfield 44, 3), (70, .iconst 1, 1), (71, .iaload, 1), (72, .invokevirtual 328, 3), (75, .aload_n 0, 1), (76, .getfield 41, 3), (79, .iconst 0, 1), (80, .iaload, 1), (81, .aload_n 0, 1), (82, .getfield 44, 3), (85, .iconst 0, 1), (86, .iaload, 1), (87, .invokevirtual 328, 3), (90, .istore_n 3, 1)]), (106, [(91, .iload_n 2, 1), (92, .iload_n 3, 1), (93, .if_icmp .eq 5, 3), (96, .iload_n 1, 1), (97, .ireturn, 1), (98, .iinc 1 1, 3), (101, .goto (-86), 3), (104, .iconst (-1), 1), (105, .ireturn, 1)])]
theorem ftX12_unlike_ok : zk_ftb cX12_unlike ftX12_unlike = true := by decide +kernel
def qcX12_unlike : zQ := ((2, 3), ([(2, 1, 0)], ([(0, 0, 0)], [], [], []), ([(1, 43)], [], [], [], [], [])), [(some (0, 0, (-1)), ([(0, 0, 0)], [], [], []), ([], [], [], [], [], [])), (some (0, 0, (-4)), ([(0, 0, 0)], [], [], []), ([], [], [], [], [], [])), (some (0, 2, 0), ([(0, 0, 0), (2, 1, 99999)], [], [], []), ([], [], [], [], [], []))], ([], []), (0, 0))
def mcX12_unlike : zM := (yX12_unlike, cX12_unlike, 4, (some .int), { frames := 3, cells := 0, slots := 0, locals := 67 }, qcX12_unlike)
def hcX12_unlike : zH := ([(15, [([(0, (2, 1, 0)), (1, (0, 2, 0))], [], ([(0, 0, 0), (2, 1, 100000), (3, 5, 100000)], [], [], []), ([(1, 43)], [(1, 12, 21, (0, 3, 0))], [], [], [], []), (4, ([(2, (-1))], 100000), 0, 0))])], [], [], [], ([], 0, 0), 200001)
theorem jcX12_unlike : zk_txok RX12 hcX12_unlike.2.2.2.2.1 := zk_txb_ok (p := (0, 0)) (by decide +kernel)
def xcX12_unlike : List zX := [(328, 2, 12, mcX12_turn_43)]
theorem wcX12_unlike : zk_hwsb zcl RX12 mcX12_unlike.rm xcX12_unlike [(1512, 86, 1509, 1511, 53)] = true := by decide +kernel
theorem icX12_unlike : zk_idb zcl RX12 12 false mcX12_unlike = true := by decide +kernel
theorem ecX12_unlike : zk_run zcl zft zTT zPF zPB zSUf zLX12 12 false mcX12_unlike ftX12_unlike hcX12_unlike zULf xcX12_unlike 55 = true := by decide +kernel
theorem gcX12_unlike {D : zD} {l : Launch} (hD : zWD D) : zCs D l xcX12_unlike := ⟨tcX12_turn_43 hD, trivial⟩
theorem tcX12_unlike {D : zD} {l : Launch} (hD : zWD D) : zC D l mcX12_unlike := zk_methC ⟨rfl, rfl⟩ hD poolX12 icX12_unlike jcX12_unlike ftX12_unlike_ok (gcX12_unlike hD) wcX12_unlike ecX12_unlike
def ftX12_seed : List (Nat × List (Nat × Instr × Nat)) := [(23, [(0, .iload_n 1, 1), (1, .invokestatic 294, 3), (4, .ifCond .eq 7, 3), (7, .iload_n 2, 1), (8, .ifCond .ge 6, 3), (11, .bipush (-2), 2), (13, .ireturn, 1), (14, .aload_n 0, 1), (15, .getfield 47, 3), (18, .iload_n 1, 1), (19, .laload, 1), (20, .l2i, 1), (21, .istore_n 3, 1), (22, .aload_n 0, 1)]), (37, [(23, .getfield 47, 3), (26, .iload_n 1, 1), (27, .iload_n 2, 1), (28, .i2l, 1), (29, .lastore, 1), (30, .aload_n 0, 1), (31, .iconst 0, 1), (32, .putfield 278, 3), (35, .iload_n 3, 1), (36, .ireturn, 1)])]
theorem ftX12_seed_ok : zk_ftb cX12_seed ftX12_seed = true := by decide +kernel
def qcX12_seed : zQ := ((4, 5), ([(2, 1, 0), (0, 2, 0), (0, 3, 0)], ([(0, 0, 0), (2, (-2147483648), 2147483647), (3, (-2147483648), 2147483647)], [], [], []), ([(1, 43)], [], [], [], [], [])), [(some (0, 0, (-2)), ([(0, 0, 0)], [], [], []), ([], [], [], [], [], [])), (some (0, 4, 0), ([(0, 0, 0), (4, 0, 2147483647), (2, 0, 1), (3, 0, 2147483647)], [], [], []), ([], [], [], [], [], []))], ([(43, 50)], [83]), (0, 0))
def mcX12_seed : zM := (yX12_seed, cX12_seed, 4, (some .int), { frames := 2, cells := 0, slots := 0, locals := 32 }, qcX12_seed)
def hcX12_seed : zH := ([], [], [], [], ([], 0, 0), 1)
theorem jcX12_seed : zk_txok RX12 hcX12_seed.2.2.2.2.1 := zk_txb_ok (p := (0, 0)) (by decide +kernel)
def xcX12_seed : List zX := [(294, 0, 0, mcX12_isSide)]
theorem wcX12_seed : zk_hwsb zcl RX12 mcX12_seed.rm xcX12_seed [(1447, 86, 1445, 1446, 0)] = true := by decide +kernel
theorem icX12_seed : zk_idb zcl RX12 12 false mcX12_seed = true := by decide +kernel
theorem ecX12_seed : zk_run zcl zft zTT zPF zPB zSUf zLX12 12 false mcX12_seed ftX12_seed hcX12_seed zULf xcX12_seed 24 = true := by decide +kernel
theorem gcX12_seed {D : zD} {l : Launch} (hD : zWD D) : zCs D l xcX12_seed := ⟨tcX12_isSide hD, trivial⟩
theorem tcX12_seed {D : zD} {l : Launch} (hD : zWD D) : zC D l mcX12_seed := zk_methC ⟨rfl, rfl⟩ hD poolX12 icX12_seed jcX12_seed ftX12_seed_ok (gcX12_seed hD) wcX12_seed ecX12_seed
def ftX12_asTold : List (Nat × List (Nat × Instr × Nat)) := [(22, [(0, .aload_n 0, 1), (1, .getfield 74, 3), (4, .iload_n 1, 1), (5, .aload_n 0, 1), (6, .getfield 28, 3), (9, .iload_n 1, 1), (10, .iaload, 1), (11, .iastore, 1), (12, .aload_n 0, 1), (13, .getfield 83, 3), (16, .iload_n 1, 1), (17, .aload_n 0, 1), (18, .getfield 44, 3), (21, .iload_n 1, 1)]), (43, [(22, .iaload, 1), (23, .iastore, 1), (24, .iconst 0, 1), (25, .istore_n 2, 1), (26, .iload_n 2, 1), (27, .aload_n 0, 1), (28, .getfield 28, 3), (31, .iload_n 1, 1), (32, .iaload, 1), (33, .if_icmp .ge 57, 3), (36, .aload_n 0, 1), (37, .getfield 77, 3), (40, .bipush 40, 2), (42, .iload_n 1, 1)]), (62, [(43, .imul, 1), (44, .iload_n 2, 1), (45, .iadd, 1), (46, .aload_n 0, 1), (47, .aload_n 0, 1), (48, .getfield 35, 3), (51, .bipush 40, 2), (53, .iload_n 1, 1), (54, .imul, 1), (55, .iload_n 2, 1), (56, .iadd, 1), (57, .laload, 1), (58, .invokevirtual 314, 3), (61, .iastore, 1)]), (82, [(62, .aload_n 0, 1), (63, .getfield 80, 3), (66, .bipush 40, 2), (68, .iload_n 1, 1), (69, .imul, 1), (70, .iload_n 2, 1), (71, .iadd, 1), (72, .aload_n 0, 1), (73, .getfield 38, 3), (76, .bipush 40, 2), (78, .iload_n 1, 1), (79, .imul, 1), (80, .iload_n 2, 1), (81, .iadd, 1)]), (91, [(82, .iaload, 1), (83, .iastore, 1), (84, .iinc 2 1, 3), (87, .goto (-61), 3), (90, .return_, 1)])]
theorem ftX12_asTold_ok : zk_ftb cX12_asTold ftX12_asTold = true := by decide +kernel
def qcX12_asTold : zQ := ((3, 3), ([(2, 1, 0), (0, 2, 0)], ([(0, 0, 0), (2, 0, 1)], [], [], []), ([(1, 43)], [], [], [], [], [])), [(none, ([(0, 0, 0)], [], [], []), ([], [], [], [], [], []))], ([], [92, 93, 94, 95]), (0, 0))
def mcX12_asTold : zM := (yX12_asTold, cX12_asTold, 3, none, { frames := 2, cells := 0, slots := 0, locals := 39 }, qcX12_asTold)
def hcX12_asTold : zH := ([(26, [([(0, (2, 1, 0)), (1, (0, 2, 0)), (2, (0, 3, 0))], [], ([(0, 0, 0), (3, 0, 40), (2, 0, 1)], [], [], []), ([(4, 82), (5, 95), (6, 77), (7, 92), (1, 43)], [(1, 12, 23, (2, 4, 0)), (1, 12, 36, (2, 5, 0)), (1, 12, 17, (2, 6, 0)), (1, 12, 33, (2, 7, 0))], [], [], [], []), (8, ([(3, (-1))], 40), 0, 0))])], [], [], [], ([], 0, 0), 81)
theorem jcX12_asTold : zk_txok RX12 hcX12_asTold.2.2.2.2.1 := zk_txb_ok (p := (0, 0)) (by decide +kernel)
def xcX12_asTold : List zX := [(314, 2, 12, mcX12_numberOf)]
theorem wcX12_asTold : zk_hwsb zcl RX12 mcX12_asTold.rm xcX12_asTold [(1492, 86, 1489, 1491, 51)] = true := by decide +kernel
theorem icX12_asTold : zk_idb zcl RX12 12 false mcX12_asTold = true := by decide +kernel
theorem ecX12_asTold : zk_run zcl zft zTT zPF zPB zSUf zLX12 12 false mcX12_asTold ftX12_asTold hcX12_asTold zULf xcX12_asTold 44 = true := by decide +kernel
theorem gcX12_asTold {D : zD} {l : Launch} (hD : zWD D) : zCs D l xcX12_asTold := ⟨tcX12_numberOf hD, trivial⟩
theorem tcX12_asTold {D : zD} {l : Launch} (hD : zWD D) : zC D l mcX12_asTold := zk_methC ⟨rfl, rfl⟩ hD poolX12 icX12_asTold jcX12_asTold ftX12_asTold_ok (gcX12_asTold hD) wcX12_asTold ecX12_asTold
