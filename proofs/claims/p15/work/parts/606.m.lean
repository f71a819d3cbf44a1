/-! METHODS (printed by wip/t3) -/
def ftX11_isSide : List (Nat × List (Nat × Instr × Nat)) := [(15, [(0, .iload_n 0, 1), (1, .ifCond .eq 8, 3), (4, .iload_n 0, 1), (5, .iconst 1, 1), (6, .if_icmp .ne 7, 3), (9, .iconst 1, 1), (10, .goto 4, 3), (13, .iconst 0, 1), (14, .ireturn, 1)])]
theorem ftX11_isSide_ok : zk_ftb cX11_isSide ftX11_isSide = true := by decide +kernel
def qcX11_isSide : zQ := ((2, 2), ([(0, 1, 0)], ([(0, 0, 0), (1, (-2147483648), 2147483647)], [], [], []), ([], [], [], [], [], [])), [(some (0, 0, 0), ([(0, 0, 0)], [], [], []), ([], [], [], [], [], [])), (some (0, 0, 1), ([(0, 0, 0), (1, 0, 1)], [], [], []), ([], [], [], [], [], []))], ([], []), (0, 0))
def mcX11_isSide : zM := (yX11_isSide, cX11_isSide, 1, (some .boolean), { frames := 1, cells := 0, slots := 0, locals := 12 }, qcX11_isSide)
def hcX11_isSide : zH := ([], [], [], [], ([], 0, 0), 1)
theorem jcX11_isSide : zk_txok RX11 hcX11_isSide.2.2.2.2.1 := zk_txb_ok (p := (0, 0)) (by decide +kernel)
def xcX11_isSide : List zX := []
theorem wcX11_isSide : zk_hwsb zcl RX11 mcX11_isSide.rm xcX11_isSide [] = true := by decide +kernel
theorem icX11_isSide : zk_idb zcl RX11 11 false mcX11_isSide = true := by decide +kernel
theorem ecX11_isSide : zk_run zcl zft zTT zPF zPB zSUf zLX11 11 false mcX11_isSide ftX11_isSide hcX11_isSide zULf xcX11_isSide 10 = true := by decide +kernel
theorem gcX11_isSide {D : zD} {l : Launch} (hD : zWD D) : zCs D l xcX11_isSide := trivial
theorem tcX11_isSide {D : zD} {l : Launch} (hD : zWD D) : zC D l mcX11_isSide := zk_methC ⟨rfl, rfl⟩ hD poolX11 icX11_isSide jcX11_isSide ftX11_isSide_ok (gcX11_isSide hD) wcX11_isSide ecX11_isSide
def ftX11_takeSpare : List (Nat × List (Nat × Instr × Nat)) := [(20, [(0, .aload_n 0, 1), (1, .getfield 38, 3), (4, .iload_n 1, 1), (5, .aaload, 1), (6, .astore_n 2, 1), (7, .aload_n 0, 1), (8, .getfield 38, 3), (11, .iload_n 1, 1), (12, .aload_n 0, 1), (13, .getfield 38, 3), (16, .iconst 3, 1), (17, .aaload, 1), (18, .aastore, 1), (19, .aload_n 0, 1)]), (27, [(20, .getfield 38, 3), (23, .iconst 3, 1), (24, .aload_n 2, 1), (25, .aastore, 1), (26, .return_, 1)])]
theorem ftX11_takeSpare_ok : zk_ftb cX11_takeSpare ftX11_takeSpare = true := by decide +kernel
def qcX11_takeSpare : zQ := ((3, 3), ([(2, 1, 0), (0, 2, 0)], ([(0, 0, 0), (2, 0, 2)], [], [], []), ([(1, 42)], [], [], [], [], [])), [(none, ([(0, 0, 0)], [], [], []), ([], [], [], [], [], []))], ([], [68]), (0, 0))
def mcX11_takeSpare : zM := (yX11_takeSpare, cX11_takeSpare, 3, none, { frames := 1, cells := 0, slots := 0, locals := 12 }, qcX11_takeSpare)
def hcX11_takeSpare : zH := ([], [], [], [], ([], 0, 0), 1)
theorem jcX11_takeSpare : zk_txok RX11 hcX11_takeSpare.2.2.2.2.1 := zk_txb_ok (p := (0, 0)) (by decide +kernel)
def xcX11_takeSpare : List zX := []
theorem wcX11_takeSpare : zk_hwsb zcl RX11 mcX11_takeSpare.rm xcX11_takeSpare [] = true := by decide +kernel
theorem icX11_takeSpare : zk_idb zcl RX11 11 false mcX11_takeSpare = true := by decide +kernel
theorem ecX11_takeSpare : zk_run zcl zft zTT zPF zPB zSUf zLX11 11 false mcX11_takeSpare ftX11_takeSpare hcX11_takeSpare zULf xcX11_takeSpare 21 = true := by decide +kernel
theorem gcX11_takeSpare {D : zD} {l : Launch} (hD : zWD D) : zCs D l xcX11_takeSpare := trivial
theorem tcX11_takeSpare {D : zD} {l : Launch} (hD : zWD D) : zC D l mcX11_takeSpare := zk_methC ⟨rfl, rfl⟩ hD poolX11 icX11_takeSpare jcX11_takeSpare ftX11_takeSpare_ok (gcX11_takeSpare hD) wcX11_takeSpare ecX11_takeSpare
def ftX4_add : List (Nat × List (Nat × Instr × Nat)) := [(24, [(0, .aload_n 0, 1), (1, .getfield 32, 3), (4, .aload_n 0, 1), (5, .getfield 9, 3), (8, .arraylength, 1), (9, .if_icmp .lt 4, 3), (12, .return_, 1), (13, .aload_n 0, 1), (14, .getfield 9, 3), (17, .aload_n 0, 1), (18, .getfield 32, 3), (21, .lload_n 1, 1), (22, .lastore, 1), (23, .aload_n 0, 1)]), (49, [(24, .getfield 15, 3), (27, .aload_n 0, 1), (28, .getfield 32, 3), (31, .lload_n 3, 1), (32, .lastore, 1), (33, .aload_n 0, 1), (34, .getfield 18, 3), (37, .aload_n 0, 1), (38, .getfield 32, 3), (41, .iload 5, 2), (43, .iastore, 1), (44, .aload_n 0, 1), (45, .getfield 22, 3), (48, .aload_n 0, 1)]), (74, [(49, .getfield 32, 3), (52, .iload 6, 2), (54, .iastore, 1), (55, .aload_n 0, 1), (56, .getfield 25, 3), (59, .aload_n 0, 1), (60, .getfield 32, 3), (63, .sipush 401, 3), (66, .iastore, 1), (67, .aload_n 0, 1), (68, .dup, 1), (69, .getfield 32, 3), (72, .iconst 1, 1), (73, .iadd, 1)]), (78, [(74, .putfield 32, 3), (77, .return_, 1)])]
theorem ftX4_add_ok : zk_ftb cX4_add ftX4_add = true := by decide +kernel
def qcX4_add : zQ := ((6, 6), ([(2, 1, 0), (1, 2, 0), (1, 3, 0), (0, 4, 0), (0, 5, 0)], ([(0, 0, 0), (2, (-9223372036854775808), 9223372036854775807), (3, (-9223372036854775808), 9223372036854775807), (4, (-2147483648), 2147483647), (5, 0, 400)], [], [], []), ([(1, 31)], [], [], [], [], [])), [(none, ([(0, 0, 0)], [], [], []), ([], [], [], [], [], []))], ([(31, 6)], [47, 48, 49, 50, 51]), (0, 0))
def mcX4_add : zM := (yX4_add, cX4_add, 7, none, { frames := 1, cells := 0, slots := 0, locals := 12 }, qcX4_add)
def hcX4_add : zH := ([], [], [], [], ([], 0, 0), 1)
theorem jcX4_add : zk_txok RX4 hcX4_add.2.2.2.2.1 := zk_txb_ok (p := (0, 0)) (by decide +kernel)
def xcX4_add : List zX := []
theorem wcX4_add : zk_hwsb zcl RX4 mcX4_add.rm xcX4_add [] = true := by decide +kernel
theorem icX4_add : zk_idb zcl RX4 4 false mcX4_add = true := by decide +kernel
theorem ecX4_add : zk_run zcl zft zTT zPF zPB zSUf zLX4 4 false mcX4_add ftX4_add hcX4_add zULf xcX4_add 45 = true := by decide +kernel
theorem gcX4_add {D : zD} {l : Launch} (hD : zWD D) : zCs D l xcX4_add := trivial
theorem tcX4_add {D : zD} {l : Launch} (hD : zWD D) : zC D l mcX4_add := zk_methC ⟨rfl, rfl⟩ hD poolX4 icX4_add jcX4_add ftX4_add_ok (gcX4_add hD) wcX4_add ecX4_add
def ftX4_tell : List (Nat × List (Nat × Instr × Nat)) := [(18, [(0, .aload_n 0, 1), (1, .lload_n 1, 1), (2, .lload_n 3, 1), (3, .iload 5, 2), (5, .iconst 0, 1), (6, .invokevirtual 35, 3), (9, .aload_n 0, 1), (10, .aload_n 0, 1), (11, .getfield 32, 3), (14, .putfield 28, 3), (17, .return_, 1)])]
theorem ftX4_tell_ok : zk_ftb cX4_tell ftX4_tell = true := by decide +kernel
def qcX4_tell : zQ := ((5, 5), ([(2, 1, 0), (1, 2, 0), (1, 3, 0), (0, 4, 0)], ([(0, 0, 0), (2, (-9223372036854775808), 9223372036854775807), (3, (-9223372036854775808), 9223372036854775807), (4, 0, 9999)], [], [], []), ([(1, 31)], [], [], [], [], [])), [(none, ([(0, 0, 0)], [], [], []), ([], [], [], [], [], []))], ([(31, 5), (31, 6)], [47, 48, 49, 50, 51]), (0, 0))
def mcX4_tell : zM := (yX4_tell, cX4_tell, 6, none, { frames := 2, cells := 0, slots := 0, locals := 38 }, qcX4_tell)
def hcX4_tell : zH := ([], [], [], [], ([], 0, 0), 1)
theorem jcX4_tell : zk_txok RX4 hcX4_tell.2.2.2.2.1 := zk_txb_ok (p := (0, 0)) (by decide +kernel)
def xcX4_tell : List zX := [(35, 2, 4, mcX4_add)]
theorem wcX4_tell : zk_hwsb zcl RX4 mcX4_tell.rm xcX4_tell [(709, 79, 706, 707, 708)] = true := by decide +kernel
theorem icX4_tell : zk_idb zcl RX4 4 false mcX4_tell = true := by decide +kernel
theorem ecX4_tell : zk_run zcl zft zTT zPF zPB zSUf zLX4 4 false mcX4_tell ftX4_tell hcX4_tell zULf xcX4_tell 13 = true := by decide +kernel
theorem gcX4_tell {D : zD} {l : Launch} (hD : zWD D) : zCs D l xcX4_tell := ⟨tcX4_add hD, trivial⟩
theorem tcX4_tell {D : zD} {l : Launch} (hD : zWD D) : zC D l mcX4_tell := zk_methC ⟨rfl, rfl⟩ hD poolX4 icX4_tell jcX4_tell ftX4_tell_ok (gcX4_tell hD) wcX4_tell ecX4_tell
def ftX4_isOn : List (Nat × List (Nat × Instr × Nat)) := [(22, [(0, .aload_n 0, 1), (1, .getfield 22, 3), (4, .iload_n 1, 1), (5, .iaload, 1), (6, .iload_n 2, 1), (7, .if_icmp .gt 17, 3), (10, .iload_n 2, 1), (11, .aload_n 0, 1), (12, .getfield 25, 3), (15, .iload_n 1, 1), (16, .iaload, 1), (17, .if_icmp .ge 7, 3), (20, .iconst 1, 1), (21, .goto 4, 3)]), (26, [(24, .iconst 0, 1), (25, .ireturn, 1)])]
theorem ftX4_isOn_ok : zk_ftb cX4_isOn ftX4_isOn = true := by decide +kernel
def qcX4_isOn : zQ := ((4, 4), ([(2, 1, 0), (0, 2, 0), (0, 3, 0)], ([(0, 0, 0), (2, 0, 79), (3, 0, 400)], [], [], []), ([(1, 31)], [], [], [], [], [])), [(some (0, 0, 0), ([(0, 0, 0)], [], [], []), ([], [], [], [], [], [])), (some (0, 0, 1), ([(0, 0, 0)], [], [], []), ([], [], [], [], [], []))], ([], []), (0, 0))
def mcX4_isOn : zM := (yX4_isOn, cX4_isOn, 3, (some .boolean), { frames := 1, cells := 0, slots := 0, locals := 12 }, qcX4_isOn)
def hcX4_isOn : zH := ([], [], [], [], ([], 0, 0), 1)
theorem jcX4_isOn : zk_txok RX4 hcX4_isOn.2.2.2.2.1 := zk_txb_ok (p := (0, 0)) (by decide +kernel)
def xcX4_isOn : List zX := []
theorem wcX4_isOn : zk_hwsb zcl RX4 mcX4_isOn.rm xcX4_isOn [] = true := by decide +kernel
theorem icX4_isOn : zk_idb zcl RX4 4 false mcX4_isOn = true := by decide +kernel
theorem ecX4_isOn : zk_run zcl zft zTT zPF zPB zSUf zLX4 4 false mcX4_isOn ftX4_isOn hcX4_isOn zULf xcX4_isOn 17 = true := by decide +kernel
theorem gcX4_isOn {D : zD} {l : Launch} (hD : zWD D) : zCs D l xcX4_isOn := trivial
theorem tcX4_isOn {D : zD} {l : Launch} (hD : zWD D) : zC D l mcX4_isOn := zk_methC ⟨rfl, rfl⟩ hD poolX4 icX4_isOn jcX4_isOn ftX4_isOn_ok (gcX4_isOn hD) wcX4_isOn ecX4_isOn
def ftX4_find : List (Nat × List (Nat × Instr × Nat)) := [(25, [(0, .iconst 0, 1), (1, .istore 4, 2), (3, .iload 4, 2), (5, .aload_n 0, 1), (6, .getfield 32, 3), (9, .if_icmp .ge 34, 3), (12, .aload_n 0, 1), (13, .getfield 15, 3), (16, .iload 4, 2), (18, .laload, 1), (19, .lload_n 1, 1), (20, .lcmp, 1), (21, .ifCond .ne 16, 3), (24, .aload_n 0, 1)]), (45, [(25, .iload 4, 2), (27, .iload_n 3, 1), (28, .invokevirtual 39, 3), (31, .ifCond .eq 6, 3), (34, .iload 4, 2), (36, .ireturn, 1), (37, .iinc 4 1, 3), (40, .goto (-37), 3), (43, .iconst (-1), 1), (44, .ireturn, 1)])]
theorem ftX4_find_ok : zk_ftb cX4_find ftX4_find = true := by decide +kernel
def qcX4_find : zQ := ((4, 5), ([(2, 1, 0), (1, 2, 0), (0, 3, 0)], ([(0, 0, 0), (2, (-9223372036854775808), 9223372036854775807), (3, 0, 400)], [], [], []), ([(1, 31)], [], [], [], [], [])), [(some (0, 0, (-1)), ([(0, 0, 0)], [], [], []), ([], [], [], [], [], [])), (some (0, 4, 0), ([(0, 0, 0), (4, 0, 79)], [], [], []), ([], [], [], [], [], []))], ([], []), (0, 0))
def mcX4_find : zM := (yX4_find, cX4_find, 5, (some .int), { frames := 2, cells := 0, slots := 0, locals := 34 }, qcX4_find)
def hcX4_find : zH := ([(3, [([(0, (2, 1, 0)), (1, (1, 2, 0)), (3, (0, 3, 0)), (4, (0, 4, 0))], [], ([(0, 0, 0), (4, 0, 80), (2, (-9223372036854775808), 9223372036854775807), (3, 0, 400)], [], [], []), ([(1, 31)], [], [], [], [], []), (5, ([(4, (-1))], 80), 0, 0))])], [], [], [], ([], 0, 0), 161)
theorem jcX4_find : zk_txok RX4 hcX4_find.2.2.2.2.1 := zk_txb_ok (p := (0, 0)) (by decide +kernel)
def xcX4_find : List zX := [(39, 2, 4, mcX4_isOn)]
theorem wcX4_find : zk_hwsb zcl RX4 mcX4_find.rm xcX4_find [(701, 79, 698, 699, 700)] = true := by decide +kernel
theorem icX4_find : zk_idb zcl RX4 4 false mcX4_find = true := by decide +kernel
theorem ecX4_find : zk_run zcl zft zTT zPF zPB zSUf zLX4 4 false mcX4_find ftX4_find hcX4_find zULf xcX4_find 20 = true := by decide +kernel
theorem gcX4_find {D : zD} {l : Launch} (hD : zWD D) : zCs D l xcX4_find := ⟨tcX4_isOn hD, trivial⟩
theorem tcX4_find {D : zD} {l : Launch} (hD : zWD D) : zC D l mcX4_find := zk_methC ⟨rfl, rfl⟩ hD poolX4 icX4_find jcX4_find ftX4_find_ok (gcX4_find hD) wcX4_find ecX4_find
def ftX11_letterAt : List (Nat × List (Nat × Instr × Nat)) := [(8, [(0, .lload_n 0, 1), (1, .iload_n 2, 1), (2, .lushr, 1), (3, .l2i, 1), (4, .bipush 31, 2), (6, .iand, 1), (7, .ireturn, 1)])]
theorem ftX11_letterAt_ok : zk_ftb cX11_letterAt ftX11_letterAt = true := by decide +kernel
def qcX11_letterAt : zQ := ((3, 4), ([(1, 1, 0), (0, 2, 0)], ([(0, 0, 0), (1, (-9223372036854775808), 9223372036854775807), (2, (-2147483648), 2147483647)], [], [], []), ([], [], [], [], [], [])), [(some (0, 3, 0), ([(0, 0, 0), (3, 0, 31)], [], [], []), ([], [], [], [], [], []))], ([], []), (0, 0))
def mcX11_letterAt : zM := (yX11_letterAt, cX11_letterAt, 3, (some .int), { frames := 1, cells := 0, slots := 0, locals := 12 }, qcX11_letterAt)
def hcX11_letterAt : zH := ([], [], [], [], ([], 0, 0), 1)
theorem jcX11_letterAt : zk_txok RX11 hcX11_letterAt.2.2.2.2.1 := zk_txb_ok (p := (0, 0)) (by decide +kernel)
def xcX11_letterAt : List zX := []
theorem wcX11_letterAt : zk_hwsb zcl RX11 mcX11_letterAt.rm xcX11_letterAt [] = true := by decide +kernel
theorem icX11_letterAt : zk_idb zcl RX11 11 false mcX11_letterAt = true := by decide +kernel
theorem ecX11_letterAt : zk_run zcl zft zTT zPF zPB zSUf zLX11 11 false mcX11_letterAt ftX11_letterAt hcX11_letterAt zULf xcX11_letterAt 9 = true := by decide +kernel
theorem gcX11_letterAt {D : zD} {l : Launch} (hD : zWD D) : zCs D l xcX11_letterAt := trivial
theorem tcX11_letterAt {D : zD} {l : Launch} (hD : zWD D) : zC D l mcX11_letterAt := zk_methC ⟨rfl, rfl⟩ hD poolX11 icX11_letterAt jcX11_letterAt ftX11_letterAt_ok (gcX11_letterAt hD) wcX11_letterAt ecX11_letterAt
def ftX7_keyOf : List (Nat × List (Nat × Instr × Nat)) := [(25, [(0, .aload_n 0, 1), (1, .getfield 26, 3), (4, .ifCond .ne 8, 3), (7, .bipush 10, 2), (9, .goto 7, 3), (12, .aload_n 0, 1), (13, .getfield 26, 3), (16, .istore_n 3, 1), (17, .lconst 0, 1), (18, .lstore 4, 2), (20, .iconst 0, 1), (21, .istore 6, 2), (23, .iconst 0, 1), (24, .istore 7, 2)]), (54, [(26, .bipush 45, 2), (28, .istore 8, 2), (30, .iload 8, 2), (32, .ifCond .lt 79, 3), (35, .iload 6, 2), (37, .iload_n 3, 1), (38, .if_icmp .ge 73, 3), (41, .lload_n 1, 1), (42, .iload 8, 2), (44, .invokestatic 33, 3), (47, .istore 9, 2), (49, .iload 9, 2), (51, .bipush 26, 2), (53, .if_icmp .gt 13, 3)]), (84, [(56, .aload_n 0, 1), (57, .getfield 9, 3), (60, .iload 9, 2), (62, .iaload, 1), (63, .goto 4, 3), (66, .iconst 0, 1), (67, .istore 10, 2), (69, .iload 10, 2), (71, .ifCond .eq 34, 3), (74, .aload_n 0, 1), (75, .getfield 22, 3), (78, .ifCond .eq 10, 3), (81, .iload 10, 2), (83, .iload 7, 2)]), (112, [(85, .if_icmp .eq 20, 3), (88, .lload 4, 2), (90, .iconst 5, 1), (91, .lshl, 1), (92, .iload 10, 2), (94, .i2l, 1), (95, .lor, 1), (96, .lstore 4, 2), (98, .iinc 6 1, 3), (101, .iload 10, 2), (103, .istore 7, 2), (105, .iinc 8 (-5), 3), (108, .goto (-78), 3), (111, .lload 4, 2)]), (114, [(113, .lreturn, 1)])]
theorem ftX7_keyOf_ok : zk_ftb cX7_keyOf ftX7_keyOf = true := by decide +kernel
def qcX7_keyOf : zQ := ((3, 4), ([(2, 1, 0), (1, 2, 0)], ([(0, 0, 0), (2, (-9223372036854775808), 9223372036854775807)], [], [], []), ([(1, 32)], [], [], [], [], [])), [(some (1, 3, 0), ([(0, 0, 0), (3, (-9223372036854775808), 9223372036854775807)], [], [], []), ([], [], [], [], [], []))], ([], []), (0, 0))
def mcX7_keyOf : zM := (yX7_keyOf, cX7_keyOf, 11, (some .long), { frames := 2, cells := 0, slots := 0, locals := 34 }, qcX7_keyOf)
def hcX7_keyOf : zH := ([(30, [([(0, (2, 1, 0)), (1, (1, 2, 0)), (3, (0, 3, 0)), (4, (1, 4, 0)), (6, (0, 5, 0)), (7, (0, 6, 0)), (8, (0, 7, 0))], [], ([(0, 0, 0), (3, 1, 10), (4, (-9223372036854775808), 9223372036854775807), (5, 0, 10), (6, (-2147483648), 2147483647), (7, (-5), 45), (8, 0, 10), (2, (-9223372036854775808), 9223372036854775807)], [(5, 3, 0), (8, 3, 0)], [], []), ([(1, 32)], [(1, 7, 3, (0, 8, 0))], [], [], [], []), (9, ([(7, 1)], 5), 0, 0))])], [], [], [], ([], 0, 0), 51)
theorem jcX7_keyOf : zk_txok RX7 hcX7_keyOf.2.2.2.2.1 := zk_txb_ok (p := (0, 0)) (by decide +kernel)
def xcX7_keyOf : List zX := [(33, 1, 0, mcX11_letterAt)]
theorem wcX7_keyOf : zk_hwsb zcl RX7 mcX7_keyOf.rm xcX7_keyOf [(693, 75, 0, 692, 0)] = true := by decide +kernel
theorem icX7_keyOf : zk_idb zcl RX7 7 false mcX7_keyOf = true := by decide +kernel
theorem ecX7_keyOf : zk_run zcl zft zTT zPF zPB zSUf zLX7 7 false mcX7_keyOf ftX7_keyOf hcX7_keyOf zULf xcX7_keyOf 40 = true := by decide +kernel
theorem gcX7_keyOf {D : zD} {l : Launch} (hD : zWD D) : zCs D l xcX7_keyOf := ⟨tcX11_letterAt hD, trivial⟩
theorem tcX7_keyOf {D : zD} {l : Launch} (hD : zWD D) : zC D l mcX7_keyOf := zk_methC ⟨rfl, rfl⟩ hD poolX7 icX7_keyOf jcX7_keyOf ftX7_keyOf_ok (gcX7_keyOf hD) wcX7_keyOf ecX7_keyOf
def ftX6_isNewName : List (Nat × List (Nat × Instr × Nat)) := [(24, [(0, .aload_n 0, 1), (1, .getfield 9, 3), (4, .getfield 33, 3), (7, .iconst 1, 1), (8, .if_icmp .eq 9, 3), (11, .aload_n 0, 1), (12, .iconst 1, 1), (13, .invokevirtual 36, 3), (16, .ireturn, 1), (17, .aload_n 1, 1), (18, .aload_n 2, 1), (19, .aload_n 0, 1), (20, .getfield 9, 3), (23, .getfield 118, 3)]), (52, [(26, .invokevirtual 122, 3), (29, .iconst 0, 1), (30, .invokevirtual 129, 3), (33, .iconst (-1), 1), (34, .if_icmp .eq 9, 3), (37, .aload_n 0, 1), (38, .iconst 3, 1), (39, .invokevirtual 36, 3), (42, .ireturn, 1), (43, .aload_n 1, 1), (44, .getfield 133, 3), (47, .iload_n 3, 1), (48, .if_icmp .lt 11, 3), (51, .aload_n 0, 1)]), (65, [(52, .iconst 4, 1), (53, .invokevirtual 36, 3), (56, .ifCond .eq 7, 3), (59, .iconst 1, 1), (60, .goto 4, 3), (63, .iconst 0, 1), (64, .ireturn, 1)])]
theorem ftX6_isNewName_ok : zk_ftb cX6_isNewName ftX6_isNewName = true := by decide +kernel
def qcX6_isNewName : zQ := ((5, 5), ([(2, 1, 0), (2, 2, 0), (2, 3, 0), (0, 4, 0)], ([(0, 0, 0), (4, 8, 40)], [], [], []), ([(1, 34), (2, 31), (3, 32)], [], [], [], [], [])), [(some (0, 0, 0), ([(0, 0, 0)], [], [], []), ([], [], [], [], [], [])), (some (0, 0, 1), ([(0, 0, 0)], [], [], []), ([], [], [], [], [], []))], ([(34, 1), (34, 2)], []), (0, 0))
def mcX6_isNewName : zM := (yX6_isNewName, cX6_isNewName, 4, (some .boolean), { frames := 3, cells := 0, slots := 0, locals := 64 }, qcX6_isNewName)
def hcX6_isNewName : zH := ([], [], [], [], ([], 0, 0), 1)
theorem jcX6_isNewName : zk_txok RX6 hcX6_isNewName.2.2.2.2.1 := zk_txb_ok (p := (0, 0)) (by decide +kernel)
def xcX6_isNewName : List zX := [(36, 2, 6, mcX6_fail), (122, 2, 7, mcX7_keyOf), (129, 2, 4, mcX4_find)]
theorem wcX6_isNewName : zk_hwsb zcl RX6 mcX6_isNewName.rm xcX6_isNewName [(623, 77, 620, 622, 5), (690, 78, 687, 688, 689), (697, 79, 694, 695, 696)] = true := by decide +kernel
theorem icX6_isNewName : zk_idb zcl RX6 6 false mcX6_isNewName = true := by decide +kernel
theorem ecX6_isNewName : zk_run zcl zft zTT zPF zPB zSUf zLX6 6 false mcX6_isNewName ftX6_isNewName hcX6_isNewName zULf xcX6_isNewName 27 = true := by decide +kernel
theorem gcX6_isNewName {D : zD} {l : Launch} (hD : zWD D) : zCs D l xcX6_isNewName := ⟨tcX6_fail hD, tcX7_keyOf hD, tcX4_find hD, trivial⟩
theorem tcX6_isNewName {D : zD} {l : Launch} (hD : zWD D) : zC D l mcX6_isNewName := zk_methC ⟨rfl, rfl⟩ hD poolX6 icX6_isNewName jcX6_isNewName ftX6_isNewName_ok (gcX6_isNewName hD) wcX6_isNewName ecX6_isNewName
def qcX6_takeNumber_k0_k9999 : zQ := ((2, 4), ([(2, 1, 0), (0, 0, 0), (0, 0, 9999)], ([(0, 0, 0)], [], [], []), ([(1, 34)], [], [], [], [], [])), [(some (0, 0, 0), ([(0, 0, 0)], [], [], []), ([(2, 30)], [(1, 6, 0, (2, 2, 0))], [], [], [], [])), (some (0, 0, 1), ([(0, 0, 0), (3, 0, 9999)], [], [], []), ([(2, 30)], [(1, 6, 0, (2, 2, 0)), (2, 8, 7, (0, 3, 0))], [], [], [], []))], ([(30, 2), (30, 3), (30, 4), (30, 5), (30, 6), (30, 7), (34, 1), (34, 2)], []), (0, 0))
def mcX6_takeNumber_k0_k9999 : zM := (yX6_takeNumber, cX6_takeNumber, 3, (some .boolean), { frames := 4, cells := 0, slots := 0, locals := 72 }, qcX6_takeNumber_k0_k9999)
def hcX6_takeNumber_k0_k9999 : zH := ([], [], [], [], ([], 0, 0), 1)
theorem jcX6_takeNumber_k0_k9999 : zk_txok RX6 hcX6_takeNumber_k0_k9999.2.2.2.2.1 := zk_txb_ok (p := (0, 0)) (by decide +kernel)
def xcX6_takeNumber_k0_k9999 : List zX := [(30, 2, 8, mcX8_step), (36, 2, 6, mcX6_fail)]
theorem wcX6_takeNumber_k0_k9999 : zk_hwsb zcl RX6 mcX6_takeNumber_k0_k9999.rm xcX6_takeNumber_k0_k9999 [(537, 76, 534, 535, 536), (623, 77, 620, 622, 5)] = true := by decide +kernel
theorem icX6_takeNumber_k0_k9999 : zk_idb zcl RX6 6 false mcX6_takeNumber_k0_k9999 = true := by decide +kernel
theorem ecX6_takeNumber_k0_k9999 : zk_run zcl zft zTT zPF zPB zSUf zLX6 6 false mcX6_takeNumber_k0_k9999 ftX6_takeNumber hcX6_takeNumber_k0_k9999 zULf xcX6_takeNumber_k0_k9999 26 = true := by decide +kernel
theorem gcX6_takeNumber_k0_k9999 {D : zD} {l : Launch} (hD : zWD D) : zCs D l xcX6_takeNumber_k0_k9999 := ⟨tcX8_step hD, tcX6_fail hD, trivial⟩
theorem tcX6_takeNumber_k0_k9999 {D : zD} {l : Launch} (hD : zWD D) : zC D l mcX6_takeNumber_k0_k9999 := zk_methC ⟨rfl, rfl⟩ hD poolX6 icX6_takeNumber_k0_k9999 jcX6_takeNumber_k0_k9999 ftX6_takeNumber_ok (gcX6_takeNumber_k0_k9999 hD) wcX6_takeNumber_k0_k9999 ecX6_takeNumber_k0_k9999
def ftX6_readNames : List (Nat × List (Nat × Instr × Nat)) := [(28, [(0, .aload_n 0, 1), (1, .invokevirtual 43, 3), (4, .aload_n 1, 1), (5, .invokevirtual 111, 3), (8, .iconst 0, 1), (9, .istore 5, 2), (11, .iload 5, 2), (13, .sipush 1200, 3), (16, .if_icmp .gt 109, 3), (19, .aload_n 0, 1), (20, .getfield 9, 3), (23, .invokevirtual 30, 3), (26, .aload_n 0, 1), (27, .getfield 9, 3)]), (56, [(30, .getfield 33, 3), (33, .ifCond .ne 6, 3), (36, .goto 89, 3), (39, .aload_n 0, 1), (40, .aload_n 1, 1), (41, .aload_n 2, 1), (42, .iload_n 3, 1), (43, .invokevirtual 114, 3), (46, .ifCond .ne 5, 3), (49, .iconst 0, 1), (50, .ireturn, 1), (51, .aload_n 0, 1), (52, .getfield 9, 3), (55, .getfield 118, 3)]), (85, [(58, .lstore 6, 2), (60, .iload 4, 2), (62, .ifCond .eq 16, 3), (65, .aload_n 0, 1), (66, .iconst 0, 1), (67, .sipush 9999, 3), (70, .invokevirtual 103, 3), (73, .ifCond .ne 5, 3), (76, .iconst 0, 1), (77, .ireturn, 1), (78, .iload 4, 2), (80, .ifCond .eq 13, 3), (83, .aload_n 0, 1), (84, .getfield 9, 3)]), (112, [(87, .getfield 40, 3), (90, .goto 4, 3), (93, .iconst 0, 1), (94, .istore 8, 2), (96, .aload_n 0, 1), (97, .invokevirtual 97, 3), (100, .ifCond .ne 5, 3), (103, .iconst 0, 1), (104, .ireturn, 1), (105, .aload_n 1, 1), (106, .lload 6, 2), (108, .aload_n 2, 1), (109, .lload 6, 2), (111, .invokevirtual 122, 3)]), (127, [(114, .iload 8, 2), (116, .invokevirtual 126, 3), (119, .iinc 5 1, 3), (122, .goto (-111), 3), (125, .iconst 1, 1), (126, .ireturn, 1)])]
theorem ftX6_readNames_ok : zk_ftb cX6_readNames ftX6_readNames = true := by decide +kernel
def qcX6_readNames : zQ := ((6, 6), ([(2, 1, 0), (2, 2, 0), (2, 3, 0), (0, 4, 0), (0, 5, 0)], ([(0, 0, 0), (4, 8, 40), (5, 0, 1)], [], [], []), ([(1, 34), (2, 31), (3, 32)], [], [], [], [], [])), [(some (0, 0, 0), ([(0, 0, 0)], [], [], []), ([], [], [], [], [], [])), (some (0, 0, 1), ([(0, 0, 0)], [], [], []), ([], [], [], [], [], []))], ([(30, 2), (30, 3), (30, 4), (30, 5), (30, 6), (30, 7), (31, 5), (31, 6), (34, 1), (34, 2)], [47, 48, 49, 50, 51]), (0, 0))
def mcX6_readNames : zM := (yX6_readNames, cX6_readNames, 9, (some .boolean), { frames := 5, cells := 0, slots := 0, locals := 94 }, qcX6_readNames)
def hcX6_readNames : zH := ([(11, [([(0, (2, 1, 0)), (1, (2, 2, 0)), (2, (2, 3, 0)), (3, (0, 4, 0)), (4, (0, 5, 0)), (5, (0, 6, 0))], [], ([(0, 0, 0), (6, 0, 1201), (4, 8, 40), (5, 0, 1)], [], [], []), ([(1, 34), (2, 31), (3, 32)], [], [], [], [], []), (7, ([(6, (-1))], 1201), 0, 0))])], [], [], [], ([], 0, 0), 2403)
theorem jcX6_readNames : zk_txok RX6 hcX6_readNames.2.2.2.2.1 := zk_txb_ok (p := (0, 0)) (by decide +kernel)
def xcX6_readNames : List zX := [(30, 2, 8, mcX8_step), (43, 2, 6, mcX6_begin), (97, 2, 6, mcX6_takeSemicolon), (103, 2, 6, mcX6_takeNumber_k0_k9999), (111, 2, 4, mcX4_clear), (114, 2, 6, mcX6_isNewName), (122, 2, 7, mcX7_keyOf), (126, 2, 4, mcX4_tell)]
theorem wcX6_readNames : zk_hwsb zcl RX6 mcX6_readNames.rm xcX6_readNames [(537, 76, 534, 535, 536), (528, 77, 525, 527, 0), (645, 77, 642, 644, 8), (654, 77, 651, 653, 10), (658, 79, 682, 656, 657), (686, 77, 683, 685, 13), (690, 78, 687, 688, 689), (705, 79, 702, 703, 704)] = true := by decide +kernel
theorem icX6_readNames : zk_idb zcl RX6 6 false mcX6_readNames = true := by decide +kernel
theorem ecX6_readNames : zk_run zcl zft zTT zPF zPB zSUf zLX6 6 false mcX6_readNames ftX6_readNames hcX6_readNames zULf xcX6_readNames 48 = true := by decide +kernel
theorem gcX6_readNames {D : zD} {l : Launch} (hD : zWD D) : zCs D l xcX6_readNames := ⟨tcX8_step hD, tcX6_begin hD, tcX6_takeSemicolon hD, tcX6_takeNumber_k0_k9999 hD, tcX4_clear hD, tcX6_isNewName hD, tcX7_keyOf hD, tcX4_tell hD, trivial⟩
theorem tcX6_readNames {D : zD} {l : Launch} (hD : zWD D) : zC D l mcX6_readNames := zk_methC ⟨rfl, rfl⟩ hD poolX6 icX6_readNames jcX6_readNames ftX6_readNames_ok (gcX6_readNames hD) wcX6_readNames ecX6_readNames
def ftX6_readList : List (Nat × List (Nat × Instr × Nat)) := [(10, [(0, .aload_n 0, 1), (1, .aload_n 1, 1), (2, .aload_n 2, 1), (3, .bipush 40, 2), (5, .iconst 1, 1), (6, .invokevirtual 107, 3), (9, .ireturn, 1)])]
theorem ftX6_readList_ok : zk_ftb cX6_readList ftX6_readList = true := by decide +kernel
def qcX6_readList : zQ := ((4, 4), ([(2, 1, 0), (2, 2, 0), (2, 3, 0)], ([(0, 0, 0)], [], [], []), ([(1, 34), (2, 31), (3, 32)], [], [], [], [], [])), [(some (0, 0, 0), ([(0, 0, 0)], [], [], []), ([], [], [], [], [], [])), (some (0, 0, 1), ([(0, 0, 0)], [], [], []), ([], [], [], [], [], []))], ([(30, 2), (30, 3), (30, 4), (30, 5), (30, 6), (30, 7), (31, 5), (31, 6), (34, 1), (34, 2)], [47, 48, 49, 50, 51]), (0, 0))
def mcX6_readList : zM := (yX6_readList, cX6_readList, 3, (some .boolean), { frames := 6, cells := 0, slots := 0, locals := 122 }, qcX6_readList)
def hcX6_readList : zH := ([], [], [], [], ([], 0, 0), 1)
theorem jcX6_readList : zk_txok RX6 hcX6_readList.2.2.2.2.1 := zk_txb_ok (p := (0, 0)) (by decide +kernel)
def xcX6_readList : List zX := [(107, 2, 6, mcX6_readNames)]
theorem wcX6_readList : zk_hwsb zcl RX6 mcX6_readList.rm xcX6_readList [(681, 77, 678, 680, 12)] = true := by decide +kernel
theorem icX6_readList : zk_idb zcl RX6 6 false mcX6_readList = true := by decide +kernel
theorem ecX6_readList : zk_run zcl zft zTT zPF zPB zSUf zLX6 6 false mcX6_readList ftX6_readList hcX6_readList zULf xcX6_readList 9 = true := by decide +kernel
theorem gcX6_readList {D : zD} {l : Launch} (hD : zWD D) : zCs D l xcX6_readList := ⟨tcX6_readNames hD, trivial⟩
theorem tcX6_readList {D : zD} {l : Launch} (hD : zWD D) : zC D l mcX6_readList := zk_methC ⟨rfl, rfl⟩ hD poolX6 icX6_readList jcX6_readList ftX6_readList_ok (gcX6_readList hD) wcX6_readList ecX6_readList
def ftX11_list : List (Nat × List (Nat × Instr × Nat)) := [(27, [(0, .iload_n 1, 1), (1, .invokestatic 123, 3), (4, .ifCond .ne 14, 3), (7, .aload_n 0, 1), (8, .getfield 12, 3), (11, .iconst 0, 1), (12, .putfield 103, 3), (15, .bipush (-2), 2), (17, .ireturn, 1), (18, .aload_n 0, 1), (19, .getfield 21, 3), (22, .aload_n 0, 1), (23, .getfield 38, 3), (26, .iconst 3, 1)]), (51, [(27, .aaload, 1), (28, .aload_n 0, 1), (29, .getfield 28, 3), (32, .invokevirtual 127, 3), (35, .istore_n 2, 1), (36, .aload_n 0, 1), (37, .getfield 12, 3), (40, .iconst 0, 1), (41, .putfield 103, 3), (44, .iload_n 2, 1), (45, .ifCond .ne 5, 3), (48, .iconst (-1), 1), (49, .ireturn, 1), (50, .aload_n 0, 1)]), (74, [(51, .iload_n 1, 1), (52, .invokevirtual 131, 3), (55, .aload_n 0, 1), (56, .invokevirtual 117, 3), (59, .aload_n 0, 1), (60, .iconst 0, 1), (61, .putfield 93, 3), (64, .aload_n 0, 1), (65, .getfield 38, 3), (68, .iload_n 1, 1), (69, .aaload, 1), (70, .getfield 134, 3), (73, .ireturn, 1)])]
theorem ftX11_list_ok : zk_ftb cX11_list ftX11_list = true := by decide +kernel
def qcX11_list : zQ := ((5, 6), ([(2, 1, 0), (0, 2, 0)], ([(0, 0, 0), (2, (-2147483648), 2147483647), (4, 0, 1200)], [], [], []), ([(1, 42), (3, 30)], [(1, 11, 0, (2, 3, 0)), (3, 8, 1, (0, 4, 0))], [], [], [], [])), [(some (0, 0, (-1)), ([(0, 0, 0), (2, 0, 1)], [], [], []), ([], [(1, 11, 0, (2, 3, 0)), (3, 8, 1, (0, 0, 0))], [], [], [], [])), (some (0, 0, (-2)), ([(0, 0, 0)], [], [], []), ([], [(1, 11, 0, (2, 3, 0)), (3, 8, 1, (0, 0, 0))], [], [], [], [])), (some (0, 5, 0), ([(0, 0, 0), (5, 0, 80), (2, 0, 1)], [], [], []), ([], [(1, 11, 0, (2, 3, 0)), (3, 8, 1, (0, 0, 0))], [], [], [], []))], ([(30, 1), (30, 2), (30, 3), (30, 4), (30, 5), (30, 6), (30, 7), (31, 5), (31, 6), (34, 1), (34, 2), (42, 13), (42, 14), (42, 15)], [47, 48, 49, 50, 51, 68]), (0, 0))
def mcX11_list : zM := (yX11_list, cX11_list, 3, (some .int), { frames := 7, cells := 0, slots := 0, locals := 144 }, qcX11_list)
def hcX11_list : zH := ([], [], [], [], ([], 0, 0), 1)
theorem jcX11_list : zk_txok RX11 hcX11_list.2.2.2.2.1 := zk_txb_ok (p := (0, 0)) (by decide +kernel)
def xcX11_list : List zX := [(117, 2, 11, mcX11_forgetChanges), (123, 0, 0, mcX11_isSide), (127, 2, 6, mcX6_readList), (131, 2, 11, mcX11_takeSpare)]
theorem wcX11_list : zk_hwsb zcl RX11 mcX11_list.rm xcX11_list [(662, 75, 659, 661, 11), (673, 75, 671, 672, 0), (677, 77, 674, 675, 676), (713, 75, 710, 712, 14)] = true := by decide +kernel
theorem icX11_list : zk_idb zcl RX11 11 false mcX11_list = true := by decide +kernel
theorem ecX11_list : zk_run zcl zft zTT zPF zPB zSUf zLX11 11 false mcX11_list ftX11_list hcX11_list zULf xcX11_list 35 = true := by decide +kernel
theorem gcX11_list {D : zD} {l : Launch} (hD : zWD D) : zCs D l xcX11_list := ⟨tcX11_forgetChanges hD, tcX11_isSide hD, tcX6_readList hD, tcX11_takeSpare hD, trivial⟩
theorem tcX11_list {D : zD} {l : Launch} (hD : zWD D) : zC D l mcX11_list := zk_methC ⟨rfl, rfl⟩ hD poolX11 icX11_list jcX11_list ftX11_list_ok (gcX11_list hD) wcX11_list ecX11_list
def ftX11_forgetAgreements : List (Nat × List (Nat × Instr × Nat)) := [(24, [(0, .iconst 0, 1), (1, .istore_n 1, 1), (2, .iload_n 1, 1), (3, .iconst 2, 1), (4, .if_icmp .ge 19, 3), (7, .aload_n 0, 1), (8, .getfield 89, 3), (11, .iload_n 1, 1), (12, .aaload, 1), (13, .iconst 0, 1), (14, .putfield 347, 3), (17, .iinc 1 1, 3), (20, .goto (-18), 3), (23, .return_, 1)])]
theorem ftX11_forgetAgreements_ok : zk_ftb cX11_forgetAgreements ftX11_forgetAgreements = true := by decide +kernel
def qcX11_forgetAgreements : zQ := ((2, 2), ([(2, 1, 0)], ([(0, 0, 0)], [], [], []), ([(1, 42)], [], [], [], [], [])), [(none, ([(0, 0, 0)], [], [], []), ([], [], [], [], [], []))], ([(41, 4)], []), (0, 0))
def mcX11_forgetAgreements : zM := (yX11_forgetAgreements, cX11_forgetAgreements, 2, none, { frames := 1, cells := 0, slots := 0, locals := 12 }, qcX11_forgetAgreements)
def hcX11_forgetAgreements : zH := ([(2, [([(0, (2, 1, 0)), (1, (0, 2, 0))], [], ([(0, 0, 0), (2, 0, 2)], [], [], []), ([(1, 42)], [], [], [], [], []), (3, ([(2, (-1))], 2), 0, 0))])], [], [], [], ([], 0, 0), 5)
theorem jcX11_forgetAgreements : zk_txok RX11 hcX11_forgetAgreements.2.2.2.2.1 := zk_txb_ok (p := (0, 0)) (by decide +kernel)
def xcX11_forgetAgreements : List zX := []
theorem wcX11_forgetAgreements : zk_hwsb zcl RX11 mcX11_forgetAgreements.rm xcX11_forgetAgreements [] = true := by decide +kernel
theorem icX11_forgetAgreements : zk_idb zcl RX11 11 false mcX11_forgetAgreements = true := by decide +kernel
theorem ecX11_forgetAgreements : zk_run zcl zft zTT zPF zPB zSUf zLX11 11 false mcX11_forgetAgreements ftX11_forgetAgreements hcX11_forgetAgreements zULf xcX11_forgetAgreements 13 = true := by decide +kernel
theorem gcX11_forgetAgreements {D : zD} {l : Launch} (hD : zWD D) : zCs D l xcX11_forgetAgreements := trivial
theorem tcX11_forgetAgreements {D : zD} {l : Launch} (hD : zWD D) : zC D l mcX11_forgetAgreements := zk_methC ⟨rfl, rfl⟩ hD poolX11 icX11_forgetAgreements jcX11_forgetAgreements ftX11_forgetAgreements_ok (gcX11_forgetAgreements hD) wcX11_forgetAgreements ecX11_forgetAgreements
