/-! METHODS (printed by wip/t6) -/
def ftX3_load : List (Nat × List (Nat × Instr × Nat)) := [(26, [(0, .aload_n 0, 1), (1, .iconst 0, 1), (2, .putfield 36, 3), (5, .iconst 0, 1), (6, .istore 4, 2), (8, .iload 4, 2), (10, .aload_n 1, 1), (11, .getfield 40, 3), (14, .if_icmp .ge 58, 3), (17, .iload 4, 2), (19, .bipush 40, 2), (21, .if_icmp .ge 51, 3), (24, .aload_n 0, 1), (25, .getfield 9, 3)]), (53, [(28, .iload 4, 2), (30, .aload_n 1, 1), (31, .getfield 45, 3), (34, .iload 4, 2), (36, .laload, 1), (37, .iload_n 3, 1), (38, .invokestatic 49, 3), (41, .iastore, 1), (42, .aload_n 0, 1), (43, .getfield 15, 3), (46, .iload 4, 2), (48, .aload_n 1, 1), (49, .getfield 53, 3), (52, .iload 4, 2)]), (78, [(54, .iaload, 1), (55, .iastore, 1), (56, .aload_n 0, 1), (57, .dup, 1), (58, .getfield 36, 3), (61, .iconst 1, 1), (62, .iadd, 1), (63, .putfield 36, 3), (66, .iinc 4 1, 3), (69, .goto (-61), 3), (72, .aload_n 0, 1), (73, .iload_n 2, 1), (74, .putfield 54, 3), (77, .return_, 1)])]
theorem ftX3_load_ok : zk_ftb cX3_load ftX3_load = true := by decide +kernel
def qcX3_load_37_31 : zQ := ((5, 5), ([(2, 1, 0), (2, 2, 0), (0, 3, 0), (0, 4, 0)], ([(0, 0, 0), (3, 0, 2147483647), (4, 5, 2147483647)], [], [], []), ([(1, 37), (2, 31)], [], [], [], [], [])), [(none, ([(0, 0, 0)], [], [], []), ([], [], [], [], [], []))], ([(37, 6), (37, 8)], [60, 61]), (0, 0))
def mcX3_load_37_31 : zM := (yX3_load, cX3_load, 5, none, { frames := 3, cells := 0, slots := 0, locals := 60 }, qcX3_load_37_31)
def hcX3_load_37_31 : zH := ([(8, [([(0, (2, 1, 0)), (1, (2, 2, 0)), (2, (0, 3, 0)), (3, (0, 4, 0)), (4, (0, 5, 0))], [], ([(0, 0, 0), (5, 0, 40), (3, 0, 2147483647), (4, 5, 2147483647)], [], [], []), ([(1, 37), (2, 31)], [(1, 3, 6, (0, 5, 0))], [], [], [], []), (6, ([(5, (-1))], 40), 0, 0))])], [], [], [], ([], 0, 0), 81)
theorem jcX3_load_37_31 : zk_txok RX3 hcX3_load_37_31.2.2.2.2.1 := zk_txb_ok (p := (0, 0)) (by decide +kernel)
def xcX3_load_37_31 : List zX := [(49, 1, 0, mcX11_numberOf)]
theorem wcX3_load_37_31 : zk_hwsb zcl RX3 mcX3_load_37_31.rm xcX3_load_37_31 [(820, 75, 0, 819, 0)] = true := by decide +kernel
theorem icX3_load_37_31 : zk_idb zcl RX3 3 false mcX3_load_37_31 = true := by decide +kernel
theorem ecX3_load_37_31 : zk_run zcl zft zTT zPF zPB zSUf zLX3 3 false mcX3_load_37_31 ftX3_load hcX3_load_37_31 zULf xcX3_load_37_31 35 = true := by decide +kernel
theorem gcX3_load_37_31 {D : zD} {l : Launch} (hD : zWD D) : zCs D l xcX3_load_37_31 := ⟨tcX11_numberOf hD, trivial⟩
theorem tcX3_load_37_31 {D : zD} {l : Launch} (hD : zWD D) : zC D l mcX3_load_37_31 := zk_methC ⟨rfl, rfl⟩ hD poolX3 icX3_load_37_31 jcX3_load_37_31 ftX3_load_ok (gcX3_load_37_31 hD) wcX3_load_37_31 ecX3_load_37_31
def ftX2_mix : List (Nat × List (Nat × Instr × Nat)) := [(20, [(0, .iconst 1, 1), (1, .istore_n 1, 1), (2, .iload_n 1, 1), (3, .aload_n 0, 1), (4, .getfield 15, 3), (7, .if_icmp .ge 61, 3), (10, .aload_n 0, 1), (11, .getfield 9, 3), (14, .iload_n 1, 1), (15, .iaload, 1), (16, .istore_n 2, 1), (17, .iload_n 1, 1), (18, .istore_n 3, 1), (19, .iload_n 3, 1)]), (42, [(20, .ifCond .le 35, 3), (23, .aload_n 0, 1), (24, .getfield 9, 3), (27, .iload_n 3, 1), (28, .iconst 1, 1), (29, .isub, 1), (30, .iaload, 1), (31, .iload_n 2, 1), (32, .if_icmp .le 23, 3), (35, .aload_n 0, 1), (36, .getfield 9, 3), (39, .iload_n 3, 1), (40, .aload_n 0, 1), (41, .getfield 9, 3)]), (66, [(44, .iload_n 3, 1), (45, .iconst 1, 1), (46, .isub, 1), (47, .iaload, 1), (48, .iastore, 1), (49, .iinc 3 (-1), 3), (52, .goto (-33), 3), (55, .aload_n 0, 1), (56, .getfield 9, 3), (59, .iload_n 3, 1), (60, .iload_n 2, 1), (61, .iastore, 1), (62, .iinc 1 1, 3), (65, .goto (-63), 3)]), (74, [(68, .aload_n 0, 1), (69, .iconst 1, 1), (70, .putfield 26, 3), (73, .return_, 1)])]
theorem ftX2_mix_ok : zk_ftb cX2_mix ftX2_mix = true := by decide +kernel
def qcX2_mix : zQ := ((2, 2), ([(2, 1, 0)], ([(0, 0, 0)], [], [], []), ([(1, 36)], [], [], [], [], [])), [(none, ([(0, 0, 0)], [], [], []), ([], [], [], [], [], []))], ([(36, 4)], [59]), (0, 0))
def mcX2_mix : zM := (yX2_mix, cX2_mix, 4, none, { frames := 1, cells := 0, slots := 0, locals := 12 }, qcX2_mix)
def hcX2_mix : zH := ([(2, [([(0, (2, 1, 0)), (1, (0, 2, 0))], [], ([(0, 0, 0), (2, 1, 60)], [], [], []), ([(1, 36)], [], [], [], [], []), (3, ([(2, (-120))], 7260), 0, 0))]), (19, [([(0, (2, 1, 0)), (1, (0, 2, 0)), (2, (0, 3, 0)), (3, (0, 4, 0))], [], ([(0, 0, 0), (2, 1, 59), (3, (-2147483648), 2147483647), (4, 0, 59), (6, 2, 60)], [(2, 6, (-1)), (4, 2, 0), (4, 6, (-1))], [], []), ([(5, 59), (1, 36)], [(1, 2, 0, (2, 5, 0)), (1, 2, 1, (0, 6, 0))], [], [], [], []), (7, ([(2, (-120)), (4, 1)], 7200), 0, 0))])], [], [], [], ([], 0, 0), 14461)
theorem jcX2_mix : zk_txok RX2 hcX2_mix.2.2.2.2.1 := zk_txb_ok (p := (0, 0)) (by decide +kernel)
def xcX2_mix : List zX := []
theorem wcX2_mix : zk_hwsb zcl RX2 mcX2_mix.rm xcX2_mix [] = true := by decide +kernel
theorem icX2_mix : zk_idb zcl RX2 2 false mcX2_mix = true := by decide +kernel
theorem ecX2_mix : zk_run zcl zft zTT zPF zPB zSUf zLX2 2 false mcX2_mix ftX2_mix hcX2_mix zULf xcX2_mix 24 = true := by decide +kernel
theorem gcX2_mix {D : zD} {l : Launch} (hD : zWD D) : zCs D l xcX2_mix := trivial
theorem tcX2_mix {D : zD} {l : Launch} (hD : zWD D) : zC D l mcX2_mix := zk_methC ⟨rfl, rfl⟩ hD poolX2 icX2_mix jcX2_mix ftX2_mix_ok (gcX2_mix hD) wcX2_mix ecX2_mix
def ftX2_begin : List (Nat × List (Nat × Instr × Nat)) := [(21, [(0, .aload_n 0, 1), (1, .iconst 0, 1), (2, .putfield 15, 3), (5, .aload_n 0, 1), (6, .iload_n 1, 1), (7, .putfield 19, 3), (10, .aload_n 0, 1), (11, .iconst 0, 1), (12, .putfield 22, 3), (15, .aload_n 0, 1), (16, .iconst 0, 1), (17, .putfield 26, 3), (20, .return_, 1)])]
theorem ftX2_begin_ok : zk_ftb cX2_begin ftX2_begin = true := by decide +kernel
def qcX2_begin : zQ := ((3, 3), ([(2, 1, 0), (0, 2, 0)], ([(0, 0, 0), (2, 0, 1)], [], [], []), ([(1, 36)], [], [], [], [], [])), [(none, ([(0, 0, 0)], [], [], []), ([], [], [], [], [], []))], ([(36, 1), (36, 2), (36, 3), (36, 4)], []), (0, 0))
def mcX2_begin : zM := (yX2_begin, cX2_begin, 2, none, { frames := 1, cells := 0, slots := 0, locals := 12 }, qcX2_begin)
def hcX2_begin : zH := ([], [], [], [], ([], 0, 0), 1)
theorem jcX2_begin : zk_txok RX2 hcX2_begin.2.2.2.2.1 := zk_txb_ok (p := (0, 0)) (by decide +kernel)
def xcX2_begin : List zX := []
theorem wcX2_begin : zk_hwsb zcl RX2 mcX2_begin.rm xcX2_begin [] = true := by decide +kernel
theorem icX2_begin : zk_idb zcl RX2 2 false mcX2_begin = true := by decide +kernel
theorem ecX2_begin : zk_run zcl zft zTT zPF zPB zSUf zLX2 2 false mcX2_begin ftX2_begin hcX2_begin zULf xcX2_begin 15 = true := by decide +kernel
theorem gcX2_begin {D : zD} {l : Launch} (hD : zWD D) : zCs D l xcX2_begin := trivial
theorem tcX2_begin {D : zD} {l : Launch} (hD : zWD D) : zC D l mcX2_begin := zk_methC ⟨rfl, rfl⟩ hD poolX2 icX2_begin jcX2_begin ftX2_begin_ok (gcX2_begin hD) wcX2_begin ecX2_begin
def ftX2_put : List (Nat × List (Nat × Instr × Nat)) := [(24, [(0, .aload_n 0, 1), (1, .getfield 15, 3), (4, .aload_n 0, 1), (5, .getfield 9, 3), (8, .arraylength, 1), (9, .if_icmp .ge 23, 3), (12, .aload_n 0, 1), (13, .getfield 9, 3), (16, .aload_n 0, 1), (17, .getfield 15, 3), (20, .iload_n 1, 1), (21, .iastore, 1), (22, .aload_n 0, 1), (23, .dup, 1)]), (33, [(24, .getfield 15, 3), (27, .iconst 1, 1), (28, .iadd, 1), (29, .putfield 15, 3), (32, .return_, 1)])]
theorem ftX2_put_ok : zk_ftb cX2_put ftX2_put = true := by decide +kernel
def qcX2_put : zQ := ((3, 3), ([(2, 1, 0), (0, 2, 0)], ([(0, 0, 0), (2, (-2147483648), 2147483647)], [], [], []), ([(1, 36)], [], [], [], [], [])), [(none, ([(0, 0, 0)], [], [], []), ([], [], [], [], [], []))], ([(36, 1)], [59]), (0, 0))
def mcX2_put : zM := (yX2_put, cX2_put, 2, none, { frames := 1, cells := 0, slots := 0, locals := 12 }, qcX2_put)
def hcX2_put : zH := ([], [], [], [], ([], 0, 0), 1)
theorem jcX2_put : zk_txok RX2 hcX2_put.2.2.2.2.1 := zk_txb_ok (p := (0, 0)) (by decide +kernel)
def xcX2_put : List zX := []
theorem wcX2_put : zk_hwsb zcl RX2 mcX2_put.rm xcX2_put [] = true := by decide +kernel
theorem icX2_put : zk_idb zcl RX2 2 false mcX2_put = true := by decide +kernel
theorem ecX2_put : zk_run zcl zft zTT zPF zPB zSUf zLX2 2 false mcX2_put ftX2_put hcX2_put zULf xcX2_put 21 = true := by decide +kernel
theorem gcX2_put {D : zD} {l : Launch} (hD : zWD D) : zCs D l xcX2_put := trivial
theorem tcX2_put {D : zD} {l : Launch} (hD : zWD D) : zC D l mcX2_put := zk_methC ⟨rfl, rfl⟩ hD poolX2 icX2_put jcX2_put ftX2_put_ok (gcX2_put hD) wcX2_put ecX2_put
def ftX5_make : List (Nat × List (Nat × Instr × Nat)) := [(22, [(0, .aload_n 0, 1), (1, .getfield 11, 3), (4, .iload_n 1, 1), (5, .aaload, 1), (6, .astore_n 3, 1), (7, .aload_n 2, 1), (8, .iload_n 1, 1), (9, .invokevirtual 82, 3), (12, .iconst 0, 1), (13, .istore 4, 2), (15, .iload 4, 2), (17, .aload_n 3, 1), (18, .getfield 86, 3), (21, .if_icmp .ge 20, 3)]), (42, [(24, .aload_n 2, 1), (25, .aload_n 3, 1), (26, .getfield 89, 3), (29, .iload 4, 2), (31, .iaload, 1), (32, .invokevirtual 92, 3), (35, .iinc 4 1, 3), (38, .goto (-23), 3), (41, .return_, 1)])]
theorem ftX5_make_ok : zk_ftb cX5_make ftX5_make = true := by decide +kernel
def qcX5_make_39_36 : zQ := ((4, 4), ([(2, 1, 0), (0, 2, 0), (2, 3, 0)], ([(0, 0, 0), (2, 0, 1)], [], [], []), ([(1, 39), (3, 36)], [], [], [], [], [])), [(none, ([(0, 0, 0)], [], [], []), ([], [], [], [], [], []))], ([(36, 1), (36, 2), (36, 3), (36, 4)], [59]), (0, 0))
def mcX5_make_39_36 : zM := (yX5_make, cX5_make, 5, none, { frames := 2, cells := 0, slots := 0, locals := 33 }, qcX5_make_39_36)
def hcX5_make_39_36 : zH := ([(15, [([(2, (2, 3, 0)), (3, (2, 4, 0)), (4, (0, 5, 0))], [], ([(0, 0, 0), (5, 0, 40), (2, 0, 1)], [], [], []), ([(4, 37), (6, 64), (1, 39), (3, 36)], [(1, 5, 0, (2, 6, 0))], [], [], [], []), (7, ([(5, (-1))], 40), 0, 0))])], [], [], [], ([], 0, 0), 81)
theorem jcX5_make_39_36 : zk_txok RX5 hcX5_make_39_36.2.2.2.2.1 := zk_txb_ok (p := (0, 0)) (by decide +kernel)
def xcX5_make_39_36 : List zX := [(82, 2, 2, mcX2_begin), (92, 2, 2, mcX2_put)]
theorem wcX5_make_39_36 : zk_hwsb zcl RX5 mcX5_make_39_36.rm xcX5_make_39_36 [(896, 84, 893, 894, 895), (900, 84, 897, 898, 899)] = true := by decide +kernel
theorem icX5_make_39_36 : zk_idb zcl RX5 5 false mcX5_make_39_36 = true := by decide +kernel
theorem ecX5_make_39_36 : zk_run zcl zft zTT zPF zPB zSUf zLX5 5 false mcX5_make_39_36 ftX5_make hcX5_make_39_36 zULf xcX5_make_39_36 14 = true := by decide +kernel
theorem gcX5_make_39_36 {D : zD} {l : Launch} (hD : zWD D) : zCs D l xcX5_make_39_36 := ⟨tcX2_begin hD, tcX2_put hD, trivial⟩
theorem tcX5_make_39_36 {D : zD} {l : Launch} (hD : zWD D) : zC D l mcX5_make_39_36 := zk_methC ⟨rfl, rfl⟩ hD poolX5 icX5_make_39_36 jcX5_make_39_36 ftX5_make_ok (gcX5_make_39_36 hD) wcX5_make_39_36 ecX5_make_39_36
def ftX2_has : List (Nat × List (Nat × Instr × Nat)) := [(22, [(0, .iconst 0, 1), (1, .istore_n 2, 1), (2, .iload_n 2, 1), (3, .aload_n 0, 1), (4, .getfield 15, 3), (7, .if_icmp .ge 21, 3), (10, .aload_n 0, 1), (11, .getfield 9, 3), (14, .iload_n 2, 1), (15, .iaload, 1), (16, .iload_n 1, 1), (17, .if_icmp .ne 5, 3), (20, .iconst 1, 1), (21, .ireturn, 1)]), (30, [(22, .iinc 2 1, 3), (25, .goto (-23), 3), (28, .iconst 0, 1), (29, .ireturn, 1)])]
theorem ftX2_has_ok : zk_ftb cX2_has ftX2_has = true := by decide +kernel
def qcX2_has : zQ := ((3, 3), ([(2, 1, 0), (0, 2, 0)], ([(0, 0, 0), (2, (-2147483648), 2147483647)], [], [], []), ([(1, 36)], [], [], [], [], [])), [(some (0, 0, 0), ([(0, 0, 0)], [], [], []), ([], [], [], [], [], [])), (some (0, 0, 1), ([(0, 0, 0)], [], [], []), ([], [], [], [], [], []))], ([], []), (0, 0))
def mcX2_has : zM := (yX2_has, cX2_has, 3, (some .boolean), { frames := 1, cells := 0, slots := 0, locals := 12 }, qcX2_has)
def hcX2_has : zH := ([(2, [([(0, (2, 1, 0)), (1, (0, 2, 0)), (2, (0, 3, 0))], [], ([(0, 0, 0), (3, 0, 60), (2, (-2147483648), 2147483647)], [], [], []), ([(1, 36)], [], [], [], [], []), (4, ([(3, (-1))], 60), 0, 0))])], [], [], [], ([], 0, 0), 121)
theorem jcX2_has : zk_txok RX2 hcX2_has.2.2.2.2.1 := zk_txb_ok (p := (0, 0)) (by decide +kernel)
def xcX2_has : List zX := []
theorem wcX2_has : zk_hwsb zcl RX2 mcX2_has.rm xcX2_has [] = true := by decide +kernel
theorem icX2_has : zk_idb zcl RX2 2 false mcX2_has = true := by decide +kernel
theorem ecX2_has : zk_run zcl zft zTT zPF zPB zSUf zLX2 2 false mcX2_has ftX2_has hcX2_has zULf xcX2_has 14 = true := by decide +kernel
theorem gcX2_has {D : zD} {l : Launch} (hD : zWD D) : zCs D l xcX2_has := trivial
theorem tcX2_has {D : zD} {l : Launch} (hD : zWD D) : zC D l mcX2_has := zk_methC ⟨rfl, rfl⟩ hD poolX2 icX2_has jcX2_has ftX2_has_ok (gcX2_has hD) wcX2_has ecX2_has
def ftX5_meet : List (Nat × List (Nat × Instr × Nat)) := [(25, [(0, .aload_n 0, 1), (1, .getfield 11, 3), (4, .iload_n 1, 1), (5, .aaload, 1), (6, .astore 4, 2), (8, .aload_n 2, 1), (9, .getfield 121, 3), (12, .iload_n 1, 1), (13, .if_icmp .ne 14, 3), (16, .aload_n 2, 1), (17, .getfield 124, 3), (20, .ifCond .ne 7, 3), (23, .iconst 1, 1), (24, .goto 4, 3)]), (54, [(27, .iconst 0, 1), (28, .istore 5, 2), (30, .aload 4, 2), (32, .iload 5, 2), (34, .ifCond .eq 7, 3), (37, .iconst 1, 1), (38, .goto 4, 3), (41, .iconst 0, 1), (42, .putfield 127, 3), (45, .aload 4, 2), (47, .iconst 0, 1), (48, .putfield 130, 3), (51, .aload 4, 2), (53, .lconst 0, 1)]), (81, [(54, .putfield 133, 3), (57, .iconst 0, 1), (58, .istore 6, 2), (60, .iload 6, 2), (62, .aload_n 2, 1), (63, .getfield 95, 3), (66, .if_icmp .ge 63, 3), (69, .aload_n 3, 1), (70, .aload_n 2, 1), (71, .getfield 98, 3), (74, .iload 6, 2), (76, .iaload, 1), (77, .invokevirtual 137, 3), (80, .ifCond .eq 43, 3)]), (112, [(83, .aload 4, 2), (85, .dup, 1), (86, .getfield 130, 3), (89, .iconst 1, 1), (90, .iadd, 1), (91, .putfield 130, 3), (94, .iload 5, 2), (96, .ifCond .eq 27, 3), (99, .iload 6, 2), (101, .aload 4, 2), (103, .getfield 86, 3), (106, .if_icmp .ge 17, 3), (109, .aload 4, 2), (111, .dup, 1)]), (130, [(112, .getfield 133, 3), (115, .lconst 1, 1), (116, .iload 6, 2), (118, .lshl, 1), (119, .lor, 1), (120, .putfield 133, 3), (123, .iinc 6 1, 3), (126, .goto (-66), 3), (129, .return_, 1)])]
theorem ftX5_meet_ok : zk_ftb cX5_meet ftX5_meet = true := by decide +kernel
def qcX5_meet_39_36_36 : zQ := ((5, 5), ([(2, 1, 0), (0, 2, 0), (2, 3, 0), (2, 4, 0)], ([(0, 0, 0), (2, 0, 1)], [], [], []), ([(1, 39), (3, 36), (4, 36)], [], [], [], [], [])), [(none, ([(0, 0, 0)], [], [], []), ([], [], [], [], [], []))], ([(37, 11), (37, 12), (37, 13)], []), (0, 0))
def mcX5_meet_39_36_36 : zM := (yX5_meet, cX5_meet, 7, none, { frames := 2, cells := 0, slots := 0, locals := 34 }, qcX5_meet_39_36_36)
def hcX5_meet_39_36_36 : zH := ([(60, [([(2, (2, 3, 0)), (3, (2, 4, 0)), (4, (2, 5, 0)), (5, (0, 6, 0)), (6, (0, 7, 0))], [], ([(0, 0, 0), (6, 0, 1), (7, 0, 60), (8, (-9223372036854775808), 9223372036854775807), (9, (-2147483648), 2147483647), (10, 0, 1), (2, 0, 1)], [], [], []), ([(5, 37), (11, 64), (1, 39), (3, 36), (4, 36)], [(5, 3, 13, (1, 8, 0)), (5, 3, 12, (0, 9, 0)), (5, 3, 11, (0, 6, 0)), (3, 2, 2, (0, 10, 0)), (1, 5, 0, (2, 11, 0))], [], [], [], []), (12, ([(7, (-1))], 60), 0, 0))])], [], [(91, [(3, 0, 0)])], [], ([], 0, 0), 121)
theorem jcX5_meet_39_36_36 : zk_txok RX5 hcX5_meet_39_36_36.2.2.2.2.1 := zk_txb_ok (p := (0, 0)) (by decide +kernel)
def xcX5_meet_39_36_36 : List zX := [(137, 2, 2, mcX2_has)]
theorem wcX5_meet_39_36_36 : zk_hwsb zcl RX5 mcX5_meet_39_36_36.rm xcX5_meet_39_36_36 [(947, 84, 944, 945, 946)] = true := by decide +kernel
theorem icX5_meet_39_36_36 : zk_idb zcl RX5 5 false mcX5_meet_39_36_36 = true := by decide +kernel
theorem ecX5_meet_39_36_36 : zk_run zcl zft zTT zPF zPB zSUf zLX5 5 false mcX5_meet_39_36_36 ftX5_meet hcX5_meet_39_36_36 zULf xcX5_meet_39_36_36 35 = true := by decide +kernel
theorem gcX5_meet_39_36_36 {D : zD} {l : Launch} (hD : zWD D) : zCs D l xcX5_meet_39_36_36 := ⟨tcX2_has hD, trivial⟩
theorem tcX5_meet_39_36_36 {D : zD} {l : Launch} (hD : zWD D) : zC D l mcX5_meet_39_36_36 := zk_methC ⟨rfl, rfl⟩ hD poolX5 icX5_meet_39_36_36 jcX5_meet_39_36_36 ftX5_meet_ok (gcX5_meet_39_36_36 hD) wcX5_meet_39_36_36 ecX5_meet_39_36_36
def ftX3_nextDraw : List (Nat × List (Nat × Instr × Nat)) := [(26, [(0, .aload_n 0, 1), (1, .ldc2_w 76, 3), (4, .aload_n 0, 1), (5, .getfield 57, 3), (8, .lmul, 1), (9, .ldc2_w 78, 3), (12, .ladd, 1), (13, .ldc2_w 80, 3), (16, .lrem, 1), (17, .putfield 57, 3), (20, .iload_n 1, 1), (21, .iconst 1, 1), (22, .if_icmp .le 22, 3), (25, .iconst 1, 1)]), (46, [(26, .aload_n 0, 1), (27, .getfield 57, 3), (30, .ldc2_w 82, 3), (33, .ldiv, 1), (34, .iload_n 1, 1), (35, .iconst 1, 1), (36, .isub, 1), (37, .i2l, 1), (38, .lrem, 1), (39, .l2i, 1), (40, .iadd, 1), (41, .goto 4, 3), (44, .iconst 1, 1), (45, .ireturn, 1)])]
theorem ftX3_nextDraw_ok : zk_ftb cX3_nextDraw ftX3_nextDraw = true := by decide +kernel
def qcX3_nextDraw_37 : zQ := ((3, 4), ([(2, 1, 0), (0, 2, 0)], ([(0, 0, 0), (2, 0, 2147483647)], [], [], []), ([(1, 37)], [], [], [], [], [])), [(some (0, 3, 0), ([(0, 0, 0), (3, (-2147483648), 2147483647)], [], [], []), ([], [], [], [], [], []))], ([(37, 9)], []), (0, 0))
def mcX3_nextDraw_37 : zM := (yX3_nextDraw, cX3_nextDraw, 2, (some .int), { frames := 1, cells := 0, slots := 0, locals := 12 }, qcX3_nextDraw_37)
def hcX3_nextDraw_37 : zH := ([], [], [(45, [(3, 0, 0)])], [], ([], 0, 0), 1)
theorem jcX3_nextDraw_37 : zk_txok RX3 hcX3_nextDraw_37.2.2.2.2.1 := zk_txb_ok (p := (0, 0)) (by decide +kernel)
def xcX3_nextDraw_37 : List zX := []
theorem wcX3_nextDraw_37 : zk_hwsb zcl RX3 mcX3_nextDraw_37.rm xcX3_nextDraw_37 [] = true := by decide +kernel
theorem icX3_nextDraw_37 : zk_idb zcl RX3 3 false mcX3_nextDraw_37 = true := by decide +kernel
theorem ecX3_nextDraw_37 : zk_run zcl zft zTT zPF zPB zSUf zLX3 3 false mcX3_nextDraw_37 ftX3_nextDraw hcX3_nextDraw_37 zULf xcX3_nextDraw_37 29 = true := by decide +kernel
theorem gcX3_nextDraw_37 {D : zD} {l : Launch} (hD : zWD D) : zCs D l xcX3_nextDraw_37 := trivial
theorem tcX3_nextDraw_37 {D : zD} {l : Launch} (hD : zWD D) : zC D l mcX3_nextDraw_37 := zk_methC ⟨rfl, rfl⟩ hD poolX3 icX3_nextDraw_37 jcX3_nextDraw_37 ftX3_nextDraw_ok (gcX3_nextDraw_37 hD) wcX3_nextDraw_37 ecX3_nextDraw_37
def ftX5_pad : List (Nat × List (Nat × Instr × Nat)) := [(28, [(0, .aload_n 2, 1), (1, .getfield 95, 3), (4, .istore 4, 2), (6, .iload 4, 2), (8, .iload_n 3, 1), (9, .if_icmp .ge 21, 3), (12, .aload_n 2, 1), (13, .aload_n 1, 1), (14, .aload_n 0, 1), (15, .getfield 17, 3), (18, .invokevirtual 118, 3), (21, .invokevirtual 92, 3), (24, .iinc 4 1, 3), (27, .goto (-21), 3)]), (31, [(30, .return_, 1)])]
theorem ftX5_pad_ok : zk_ftb cX5_pad ftX5_pad = true := by decide +kernel
def qcX5_pad_39_37_36 : zQ := ((5, 5), ([(2, 1, 0), (2, 2, 0), (2, 3, 0), (0, 4, 0)], ([(0, 0, 0), (4, 0, 60)], [], [], []), ([(1, 39), (2, 37), (3, 36)], [], [], [], [], [])), [(none, ([(0, 0, 0)], [], [], []), ([], [], [], [], [], []))], ([(36, 1), (37, 9)], [59]), (0, 0))
def mcX5_pad_39_37_36 : zM := (yX5_pad, cX5_pad, 5, none, { frames := 2, cells := 0, slots := 0, locals := 33 }, qcX5_pad_39_37_36)
def hcX5_pad_39_37_36 : zH := ([(6, [([(0, (2, 1, 0)), (1, (2, 2, 0)), (2, (2, 3, 0)), (3, (0, 4, 0)), (4, (0, 5, 0))], [], ([(0, 0, 0), (5, 0, 60), (4, 0, 60)], [], [], []), ([(1, 39), (2, 37), (3, 36)], [], [], [], [], []), (6, ([(5, (-1))], 60), 0, 0))])], [], [], [], ([], 0, 0), 121)
theorem jcX5_pad_39_37_36 : zk_txok RX5 hcX5_pad_39_37_36.2.2.2.2.1 := zk_txb_ok (p := (0, 0)) (by decide +kernel)
def xcX5_pad_39_37_36 : List zX := [(92, 2, 2, mcX2_put), (118, 2, 3, mcX3_nextDraw_37)]
theorem wcX5_pad_39_37_36 : zk_hwsb zcl RX5 mcX5_pad_39_37_36.rm xcX5_pad_39_37_36 [(900, 84, 897, 898, 899), (935, 83, 932, 933, 934)] = true := by decide +kernel
theorem icX5_pad_39_37_36 : zk_idb zcl RX5 5 false mcX5_pad_39_37_36 = true := by decide +kernel
theorem ecX5_pad_39_37_36 : zk_run zcl zft zTT zPF zPB zSUf zLX5 5 false mcX5_pad_39_37_36 ftX5_pad hcX5_pad_39_37_36 zULf xcX5_pad_39_37_36 13 = true := by decide +kernel
theorem gcX5_pad_39_37_36 {D : zD} {l : Launch} (hD : zWD D) : zCs D l xcX5_pad_39_37_36 := ⟨tcX2_put hD, tcX3_nextDraw_37 hD, trivial⟩
theorem tcX5_pad_39_37_36 {D : zD} {l : Launch} (hD : zWD D) : zC D l mcX5_pad_39_37_36 := zk_methC ⟨rfl, rfl⟩ hD poolX5 icX5_pad_39_37_36 jcX5_pad_39_37_36 ftX5_pad_ok (gcX5_pad_39_37_36 hD) wcX5_pad_39_37_36 ecX5_pad_39_37_36
def ftX2_copy : List (Nat × List (Nat × Instr × Nat)) := [(24, [(0, .aload_n 0, 1), (1, .aload_n 1, 1), (2, .getfield 19, 3), (5, .invokevirtual 29, 3), (8, .iconst 0, 1), (9, .istore_n 2, 1), (10, .iload_n 2, 1), (11, .aload_n 1, 1), (12, .getfield 15, 3), (15, .if_icmp .ge 19, 3), (18, .aload_n 0, 1), (19, .aload_n 1, 1), (20, .getfield 9, 3), (23, .iload_n 2, 1)]), (51, [(24, .iaload, 1), (25, .invokevirtual 33, 3), (28, .iinc 2 1, 3), (31, .goto (-21), 3), (34, .aload_n 0, 1), (35, .aload_n 1, 1), (36, .getfield 22, 3), (39, .putfield 22, 3), (42, .aload_n 0, 1), (43, .aload_n 1, 1), (44, .getfield 26, 3), (47, .putfield 26, 3), (50, .return_, 1)])]
theorem ftX2_copy_ok : zk_ftb cX2_copy ftX2_copy = true := by decide +kernel
def qcX2_copy : zQ := ((3, 3), ([(2, 1, 0), (2, 2, 0)], ([(0, 0, 0)], [], [], []), ([(1, 36), (2, 36)], [], [], [], [], [])), [(none, ([(0, 0, 0)], [], [], []), ([], [], [], [], [], []))], ([(36, 1), (36, 2), (36, 3), (36, 4)], [59]), (0, 0))
def mcX2_copy : zM := (yX2_copy, cX2_copy, 3, none, { frames := 2, cells := 0, slots := 0, locals := 33 }, qcX2_copy)
def hcX2_copy : zH := ([(10, [([(0, (2, 1, 0)), (1, (2, 2, 0)), (2, (0, 3, 0))], [], ([(0, 0, 0), (3, 0, 60)], [], [], []), ([(1, 36), (2, 36)], [], [], [], [], []), (4, ([(3, (-1))], 60), 0, 0))])], [], [], [], ([], 0, 0), 121)
theorem jcX2_copy : zk_txok RX2 hcX2_copy.2.2.2.2.1 := zk_txb_ok (p := (0, 0)) (by decide +kernel)
def xcX2_copy : List zX := [(29, 2, 2, mcX2_begin), (33, 2, 2, mcX2_put)]
theorem wcX2_copy : zk_hwsb zcl RX2 mcX2_copy.rm xcX2_copy [(896, 84, 918, 894, 895), (900, 84, 919, 898, 899)] = true := by decide +kernel
theorem icX2_copy : zk_idb zcl RX2 2 false mcX2_copy = true := by decide +kernel
theorem ecX2_copy : zk_run zcl zft zTT zPF zPB zSUf zLX2 2 false mcX2_copy ftX2_copy hcX2_copy zULf xcX2_copy 15 = true := by decide +kernel
theorem gcX2_copy {D : zD} {l : Launch} (hD : zWD D) : zCs D l xcX2_copy := ⟨tcX2_begin hD, tcX2_put hD, trivial⟩
theorem tcX2_copy {D : zD} {l : Launch} (hD : zWD D) : zC D l mcX2_copy := zk_methC ⟨rfl, rfl⟩ hD poolX2 icX2_copy jcX2_copy ftX2_copy_ok (gcX2_copy hD) wcX2_copy ecX2_copy
def ftX3_see : List (Nat × List (Nat × Instr × Nat)) := [(26, [(0, .aload_n 0, 1), (1, .getfield 61, 3), (4, .aload_n 0, 1), (5, .getfield 29, 3), (8, .arraylength, 1), (9, .if_icmp .lt 4, 3), (12, .return_, 1), (13, .aload_n 0, 1), (14, .getfield 32, 3), (17, .ifCond .ne 16, 3), (20, .aload_n 0, 1), (21, .getfield 29, 3), (24, .aload_n 0, 1), (25, .getfield 61, 3)]), (52, [(28, .iload_n 1, 1), (29, .iastore, 1), (30, .goto 21, 3), (33, .aload_n 0, 1), (34, .getfield 29, 3), (37, .aload_n 0, 1), (38, .getfield 61, 3), (41, .iaload, 1), (42, .iload_n 1, 1), (43, .if_icmp .eq 8, 3), (46, .aload_n 0, 1), (47, .iconst 1, 1), (48, .putfield 64, 3), (51, .aload_n 0, 1)]), (62, [(52, .dup, 1), (53, .getfield 61, 3), (56, .iconst 1, 1), (57, .iadd, 1), (58, .putfield 61, 3), (61, .return_, 1)])]
theorem ftX3_see_ok : zk_ftb cX3_see ftX3_see = true := by decide +kernel
def qcX3_see_37_b : zQ := ((5, 5), ([(2, 1, 0), (0, 2, 0)], ([(0, 0, 0), (2, (-2147483648), 2147483647), (3, 1, 60), (4, (-1), 60)], [], [], []), ([(1, 37)], [], [], [], [], [(151, [(2, 1, 0), (0, 3, 0), (0, 4, 0)])])), [(none, ([(0, 0, 0)], [], [], []), ([], [], [], [], [], [(151, [(2, 1, 0), (0, 3, 1), (0, 4, 0)])]))], ([(37, 10)], [63]), (0, 0))
def mcX3_see_37_b : zM := (yX3_see, cX3_see, 2, none, { frames := 1, cells := 0, slots := 0, locals := 12 }, qcX3_see_37_b)
def hcX3_see_37_b : zH := ([], [], [(12, [(9, 51, 0), (9, 52, 0)])], [], ([], 0, 0), 1)
theorem jcX3_see_37_b : zk_txok RX3 hcX3_see_37_b.2.2.2.2.1 := zk_txb_ok (p := (0, 0)) (by decide +kernel)
def xcX3_see_37_b : List zX := []
theorem wcX3_see_37_b : zk_hwsb zcl RX3 mcX3_see_37_b.rm xcX3_see_37_b [] = true := by decide +kernel
theorem icX3_see_37_b : zk_idb zcl RX3 3 false mcX3_see_37_b = true := by decide +kernel
theorem ecX3_see_37_b : zk_run zcl zft zTT zPF zPB zSUf zLX3 3 false mcX3_see_37_b ftX3_see hcX3_see_37_b zULf xcX3_see_37_b 25 = true := by decide +kernel
theorem gcX3_see_37_b {D : zD} {l : Launch} (hD : zWD D) : zCs D l xcX3_see_37_b := trivial
theorem tcX3_see_37_b {D : zD} {l : Launch} (hD : zWD D) : zC D l mcX3_see_37_b := zk_methC ⟨rfl, rfl⟩ hD poolX3 icX3_see_37_b jcX3_see_37_b ftX3_see_ok (gcX3_see_37_b hD) wcX3_see_37_b ecX3_see_37_b
def qcX3_see_37_h : zQ := ((3, 3), ([(2, 1, 0), (0, 2, 0)], ([(0, 0, 0), (2, (-1), 60)], [], [], []), ([(1, 37)], [], [], [], [], [(151, [(2, 1, 0), (0, 0, 0), (0, 0, 0)])])), [(none, ([(0, 0, 0)], [], [], []), ([], [], [], [], [], [(151, [(2, 1, 0), (0, 0, 1), (0, 2, 0)])]))], ([(37, 10)], [63]), (0, 0))
def mcX3_see_37_h : zM := (yX3_see, cX3_see, 2, none, { frames := 1, cells := 0, slots := 0, locals := 12 }, qcX3_see_37_h)
def hcX3_see_37_h : zH := ([], [], [(12, [(9, 51, 0), (9, 52, 0)])], [], ([], 0, 0), 1)
theorem jcX3_see_37_h : zk_txok RX3 hcX3_see_37_h.2.2.2.2.1 := zk_txb_ok (p := (0, 0)) (by decide +kernel)
def xcX3_see_37_h : List zX := []
theorem wcX3_see_37_h : zk_hwsb zcl RX3 mcX3_see_37_h.rm xcX3_see_37_h [] = true := by decide +kernel
theorem icX3_see_37_h : zk_idb zcl RX3 3 false mcX3_see_37_h = true := by decide +kernel
theorem ecX3_see_37_h : zk_run zcl zft zTT zPF zPB zSUf zLX3 3 false mcX3_see_37_h ftX3_see hcX3_see_37_h zULf xcX3_see_37_h 25 = true := by decide +kernel
theorem gcX3_see_37_h {D : zD} {l : Launch} (hD : zWD D) : zCs D l xcX3_see_37_h := trivial
theorem tcX3_see_37_h {D : zD} {l : Launch} (hD : zWD D) : zC D l mcX3_see_37_h := zk_methC ⟨rfl, rfl⟩ hD poolX3 icX3_see_37_h jcX3_see_37_h ftX3_see_ok (gcX3_see_37_h hD) wcX3_see_37_h ecX3_see_37_h
def ftX3_seeBag : List (Nat × List (Nat × Instr × Nat)) := [(24, [(0, .aload_n 1, 1), (1, .getfield 84, 3), (4, .ifCond .eq 17, 3), (7, .aload_n 0, 1), (8, .iconst (-1), 1), (9, .invokevirtual 87, 3), (12, .aload_n 0, 1), (13, .aload_n 1, 1), (14, .getfield 91, 3), (17, .invokevirtual 87, 3), (20, .return_, 1), (21, .aload_n 0, 1), (22, .aload_n 1, 1), (23, .getfield 91, 3)]), (50, [(26, .invokevirtual 87, 3), (29, .iconst 0, 1), (30, .istore_n 2, 1), (31, .iload_n 2, 1), (32, .aload_n 1, 1), (33, .getfield 91, 3), (36, .if_icmp .ge 19, 3), (39, .aload_n 0, 1), (40, .aload_n 1, 1), (41, .getfield 94, 3), (44, .iload_n 2, 1), (45, .iaload, 1), (46, .invokevirtual 87, 3), (49, .iinc 2 1, 3)]), (56, [(52, .goto (-21), 3), (55, .return_, 1)])]
theorem ftX3_seeBag_ok : zk_ftb cX3_seeBag ftX3_seeBag = true := by decide +kernel
def qcX3_seeBag_37_36 : zQ := ((3, 3), ([(2, 1, 0), (2, 2, 0)], ([(0, 0, 0)], [], [], []), ([(1, 37), (2, 36)], [], [], [], [], [(150, [])])), [(none, ([(0, 0, 0)], [], [], []), ([], [], [], [], [], [(150, [])]))], ([(37, 10)], [63]), (0, 0))
def mcX3_seeBag_37_36 : zM := (yX3_seeBag, cX3_seeBag, 3, none, { frames := 2, cells := 0, slots := 0, locals := 33 }, qcX3_seeBag_37_36)
def hcX3_seeBag_37_36 : zH := ([(31, [([(0, (2, 1, 0)), (1, (2, 2, 0)), (2, (0, 3, 0))], [], ([(0, 0, 0), (3, 0, 60), (4, 0, 60), (5, 0, 0)], [(3, 4, 0)], [], []), ([(1, 37), (2, 36)], [(2, 2, 1, (0, 4, 0)), (2, 2, 3, (0, 5, 0))], [], [], [], [(151, [(2, 1, 0), (0, 3, 1), (0, 4, 0)])]), (6, ([(3, (-1))], 60), 0, 0))])], [], [(7, [(9, 50, 0)]), (20, [(9, 53, 0)]), (21, [(9, 50, 0)]), (55, [(9, 54, 0)])], [], ([], 0, 0), 121)
theorem jcX3_seeBag_37_36 : zk_txok RX3 hcX3_seeBag_37_36.2.2.2.2.1 := zk_txb_ok (p := (0, 0)) (by decide +kernel)
def xcX3_seeBag_37_36 : List zX := [(87, 2, 3, mcX3_see_37_b), (87, 2, 3, mcX3_see_37_h)]
theorem wcX3_seeBag_37_36 : zk_hwsb zcl RX3 mcX3_seeBag_37_36.rm xcX3_seeBag_37_36 [(927, 83, 924, 925, 926), (927, 83, 924, 925, 926)] = true := by decide +kernel
theorem icX3_seeBag_37_36 : zk_idb zcl RX3 3 false mcX3_seeBag_37_36 = true := by decide +kernel
theorem ecX3_seeBag_37_36 : zk_run zcl zft zTT zPF zPB zSUf zLX3 3 false mcX3_seeBag_37_36 ftX3_seeBag hcX3_seeBag_37_36 zULf xcX3_seeBag_37_36 14 = true := by decide +kernel
theorem gcX3_seeBag_37_36 {D : zD} {l : Launch} (hD : zWD D) : zCs D l xcX3_seeBag_37_36 := ⟨tcX3_see_37_b hD, tcX3_see_37_h hD, trivial⟩
theorem tcX3_seeBag_37_36 {D : zD} {l : Launch} (hD : zWD D) : zC D l mcX3_seeBag_37_36 := zk_methC ⟨rfl, rfl⟩ hD poolX3 icX3_seeBag_37_36 jcX3_seeBag_37_36 ftX3_seeBag_ok (gcX3_seeBag_37_36 hD) wcX3_seeBag_37_36 ecX3_seeBag_37_36
def ftX5_send : List (Nat × List (Nat × Instr × Nat)) := [(22, [(0, .aload_n 2, 1), (1, .getfield 39, 3), (4, .iload_n 3, 1), (5, .aaload, 1), (6, .aload_n 1, 1), (7, .invokevirtual 111, 3), (10, .aload_n 2, 1), (11, .aload_n 1, 1), (12, .invokevirtual 115, 3), (15, .aload_n 0, 1), (16, .dup, 1), (17, .getfield 24, 3), (20, .aload_n 1, 1), (21, .getfield 66, 3)]), (42, [(24, .ifCond .eq 7, 3), (27, .iconst 4, 1), (28, .goto 9, 3), (31, .iconst 4, 1), (32, .aload_n 1, 1), (33, .getfield 95, 3), (36, .imul, 1), (37, .iadd, 1), (38, .putfield 24, 3), (41, .return_, 1)])]
theorem ftX5_send_ok : zk_ftb cX5_send ftX5_send = true := by decide +kernel
def qcX5_send_39_36_37 : zQ := ((5, 5), ([(2, 1, 0), (2, 2, 0), (2, 3, 0), (0, 4, 0)], ([(0, 0, 0), (4, 0, 7)], [], [], []), ([(1, 39), (2, 36), (3, 37)], [], [], [], [], [(150, [])])), [(none, ([(0, 0, 0)], [], [], []), ([], [], [], [], [], [(150, [])]))], ([(36, 1), (36, 2), (36, 3), (36, 4), (37, 10), (39, 3)], [59, 63]), (0, 0))
def mcX5_send_39_36_37 : zM := (yX5_send, cX5_send, 4, none, { frames := 3, cells := 0, slots := 0, locals := 55 }, qcX5_send_39_36_37)
def hcX5_send_39_36_37 : zH := ([], [], [(38, [(3, 0, 0)])], [], ([], 0, 0), 1)
theorem jcX5_send_39_36_37 : zk_txok RX5 hcX5_send_39_36_37.2.2.2.2.1 := zk_txb_ok (p := (0, 0)) (by decide +kernel)
def xcX5_send_39_36_37 : List zX := [(111, 2, 2, mcX2_copy), (115, 2, 3, mcX3_seeBag_37_36)]
theorem wcX5_send_39_36_37 : zk_hwsb zcl RX5 mcX5_send_39_36_37.rm xcX5_send_39_36_37 [(917, 84, 914, 915, 916), (923, 83, 920, 921, 922)] = true := by decide +kernel
theorem icX5_send_39_36_37 : zk_idb zcl RX5 5 false mcX5_send_39_36_37 = true := by decide +kernel
theorem ecX5_send_39_36_37 : zk_run zcl zft zTT zPF zPB zSUf zLX5 5 false mcX5_send_39_36_37 ftX5_send hcX5_send_39_36_37 zULf xcX5_send_39_36_37 24 = true := by decide +kernel
theorem gcX5_send_39_36_37 {D : zD} {l : Launch} (hD : zWD D) : zCs D l xcX5_send_39_36_37 := ⟨tcX2_copy hD, tcX3_seeBag_37_36 hD, trivial⟩
theorem tcX5_send_39_36_37 {D : zD} {l : Launch} (hD : zWD D) : zC D l mcX5_send_39_36_37 := zk_methC ⟨rfl, rfl⟩ hD poolX5 icX5_send_39_36_37 jcX5_send_39_36_37 ftX5_send_ok (gcX5_send_39_36_37 hD) wcX5_send_39_36_37 ecX5_send_39_36_37
