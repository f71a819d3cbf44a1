/-! METHODS (printed by wip/t4) -/
def ftX6_readWay : List (Nat × List (Nat × Instr × Nat)) := [(26, [(0, .aload_n 0, 1), (1, .invokevirtual 43, 3), (4, .aload_n 1, 1), (5, .invokevirtual 136, 3), (8, .iconst 0, 1), (9, .istore_n 2, 1), (10, .iload_n 2, 1), (11, .sipush 1200, 3), (14, .if_icmp .gt 39, 3), (17, .aload_n 0, 1), (18, .getfield 9, 3), (21, .invokevirtual 30, 3), (24, .aload_n 0, 1), (25, .getfield 9, 3)]), (55, [(28, .getfield 33, 3), (31, .ifCond .ne 6, 3), (34, .goto 19, 3), (37, .aload_n 0, 1), (38, .aload_n 1, 1), (39, .invokevirtual 139, 3), (42, .ifCond .ne 5, 3), (45, .iconst 0, 1), (46, .ireturn, 1), (47, .iinc 2 1, 3), (50, .goto (-40), 3), (53, .iconst 1, 1), (54, .ireturn, 1)])]
theorem ftX6_readWay_ok : zk_ftb cX6_readWay ftX6_readWay = true := by decide +kernel
def qcX6_readWay : zQ := ((3, 3), ([(2, 1, 0), (2, 2, 0)], ([(0, 0, 0)], [], [], []), ([(1, 34), (2, 33)], [], [], [], [], [(0, []), (100, [])])), [(some (0, 0, 0), ([(0, 0, 0)], [], [], []), ([], [], [], [], [], [(100, [])])), (some (0, 0, 1), ([(0, 0, 0)], [], [], []), ([], [], [], [], [], [(100, [])]))], ([(30, 2), (30, 3), (30, 4), (30, 5), (30, 6), (30, 7), (33, 6), (34, 1), (34, 2), (34, 5), (34, 6)], [52, 53, 54, 55, 56, 57]), (0, 0))
def mcX6_readWay : zM := (yX6_readWay, cX6_readWay, 3, (some .boolean), { frames := 8, cells := 0, slots := 0, locals := 163 }, qcX6_readWay)
def hcX6_readWay : zH := ([(10, [([(0, (2, 1, 0)), (1, (2, 2, 0)), (2, (0, 3, 0))], [], ([(0, 0, 0), (3, 0, 1201)], [], [], []), ([(1, 34), (2, 33)], [], [], [], [], [(0, []), (100, [])]), (4, ([(3, (-1))], 1201), 0, 0))])], [], [], [], ([], 0, 0), 2403)
theorem jcX6_readWay : zk_txok RX6 hcX6_readWay.2.2.2.2.1 := zk_txb_ok (p := (0, 0)) (by decide +kernel)
def xcX6_readWay : List zX := [(30, 2, 8, mcX8_step), (43, 2, 6, mcX6_begin), (136, 2, 10, mcX10_clear), (139, 2, 6, mcX6_readLine)]
theorem wcX6_readWay : zk_hwsb zcl RX6 mcX6_readWay.rm xcX6_readWay [(537, 76, 534, 535, 536), (528, 77, 525, 527, 0), (737, 80, 734, 735, 736), (741, 77, 738, 740, 16)] = true := by decide +kernel
theorem icX6_readWay : zk_idb zcl RX6 6 false mcX6_readWay = true := by decide +kernel
theorem ecX6_readWay : zk_run zcl zft zTT zPF zPB zSUf zLX6 6 false mcX6_readWay ftX6_readWay hcX6_readWay zULf xcX6_readWay 18 = true := by decide +kernel
theorem gcX6_readWay {D : zD} {l : Launch} (hD : zWD D) : zCs D l xcX6_readWay := ⟨tcX8_step hD, tcX6_begin hD, tcX10_clear hD, tcX6_readLine hD, trivial⟩
theorem tcX6_readWay {D : zD} {l : Launch} (hD : zWD D) : zC D l mcX6_readWay := zk_methC ⟨rfl, rfl⟩ hD poolX6 icX6_readWay jcX6_readWay ftX6_readWay_ok (gcX6_readWay hD) wcX6_readWay ecX6_readWay
def ftX11_way : List (Nat × List (Nat × Instr × Nat)) := [(26, [(0, .aload_n 0, 1), (1, .getfield 21, 3), (4, .aload_n 0, 1), (5, .getfield 49, 3), (8, .invokevirtual 143, 3), (11, .istore_n 1, 1), (12, .aload_n 0, 1), (13, .getfield 12, 3), (16, .iconst 0, 1), (17, .putfield 103, 3), (20, .iload_n 1, 1), (21, .ifCond .ne 5, 3), (24, .iconst (-1), 1), (25, .ireturn, 1)]), (50, [(26, .aload_n 0, 1), (27, .getfield 45, 3), (30, .astore_n 2, 1), (31, .aload_n 0, 1), (32, .aload_n 0, 1), (33, .getfield 49, 3), (36, .putfield 45, 3), (39, .aload_n 0, 1), (40, .aload_n 2, 1), (41, .putfield 49, 3), (44, .aload_n 0, 1), (45, .iconst 0, 1), (46, .putfield 93, 3), (49, .aload_n 0, 1)]), (57, [(50, .getfield 45, 3), (53, .getfield 147, 3), (56, .ireturn, 1)])]
theorem ftX11_way_ok : zk_ftb cX11_way ftX11_way = true := by decide +kernel
def qcX11_way : zQ := ((4, 5), ([(2, 1, 0)], ([(0, 0, 0), (3, 0, 1200)], [], [], []), ([(1, 42), (2, 30)], [(1, 11, 0, (2, 2, 0)), (2, 8, 1, (0, 3, 0))], [], [], [], [(0, []), (100, [])])), [(some (0, 0, (-1)), ([(0, 0, 0)], [], [], []), ([], [(1, 11, 0, (2, 2, 0)), (2, 8, 1, (0, 0, 0))], [], [], [], [(100, [])])), (some (0, 4, 0), ([(0, 0, 0), (4, 0, 30)], [], [], []), ([], [(1, 11, 0, (2, 2, 0)), (2, 8, 1, (0, 0, 0))], [], [], [], [(100, [])]))], ([(30, 1), (30, 2), (30, 3), (30, 4), (30, 5), (30, 6), (30, 7), (33, 6), (34, 1), (34, 2), (34, 5), (34, 6), (42, 5), (42, 6), (42, 13)], [52, 53, 54, 55, 56, 57]), (0, 0))
def mcX11_way : zM := (yX11_way, cX11_way, 3, (some .int), { frames := 9, cells := 0, slots := 0, locals := 185 }, qcX11_way)
def hcX11_way : zH := ([], [], [], [], ([], 0, 0), 1)
theorem jcX11_way : zk_txok RX11 hcX11_way.2.2.2.2.1 := zk_txb_ok (p := (0, 0)) (by decide +kernel)
def xcX11_way : List zX := [(143, 2, 6, mcX6_readWay)]
theorem wcX11_way : zk_hwsb zcl RX11 mcX11_way.rm xcX11_way [(733, 77, 730, 731, 732)] = true := by decide +kernel
theorem icX11_way : zk_idb zcl RX11 11 false mcX11_way = true := by decide +kernel
theorem ecX11_way : zk_run zcl zft zTT zPF zPB zSUf zLX11 11 false mcX11_way ftX11_way hcX11_way zULf xcX11_way 31 = true := by decide +kernel
theorem gcX11_way {D : zD} {l : Launch} (hD : zWD D) : zCs D l xcX11_way := ⟨tcX6_readWay hD, trivial⟩
theorem tcX11_way {D : zD} {l : Launch} (hD : zWD D) : zC D l mcX11_way := zk_methC ⟨rfl, rfl⟩ hD poolX11 icX11_way jcX11_way ftX11_way_ok (gcX11_way hD) wcX11_way ecX11_way
def ftX11_fault : List (Nat × List (Nat × Instr × Nat)) := [(28, [(0, .iload_n 1, 1), (1, .ifCond .ne 11, 3), (4, .aload_n 0, 1), (5, .getfield 21, 3), (8, .getfield 150, 3), (11, .ireturn, 1), (12, .iload_n 1, 1), (13, .iconst 1, 1), (14, .if_icmp .ne 13, 3), (17, .aload_n 0, 1), (18, .getfield 21, 3), (21, .getfield 153, 3), (24, .goto 4, 3), (27, .iconst (-1), 1)]), (29, [(28, .ireturn, 1)])]
theorem ftX11_fault_ok : zk_ftb cX11_fault ftX11_fault = true := by decide +kernel
def qcX11_fault : zQ := ((3, 4), ([(2, 1, 0), (0, 2, 0)], ([(0, 0, 0), (2, (-2147483648), 2147483647)], [], [], []), ([(1, 42)], [], [], [], [], [])), [(some (0, 0, (-1)), ([(0, 0, 0)], [], [], []), ([], [], [], [], [], [])), (some (0, 3, 0), ([(0, 0, 0), (3, (-1), 1200), (2, 0, 1)], [(3, 2, 1199)], [], []), ([], [], [], [], [], []))], ([], []), (0, 0))
def mcX11_fault : zM := (yX11_fault, cX11_fault, 2, (some .int), { frames := 1, cells := 0, slots := 0, locals := 12 }, qcX11_fault)
def hcX11_fault : zH := ([], [], [], [], ([], 0, 0), 1)
theorem jcX11_fault : zk_txok RX11 hcX11_fault.2.2.2.2.1 := zk_txb_ok (p := (0, 0)) (by decide +kernel)
def xcX11_fault : List zX := []
theorem wcX11_fault : zk_hwsb zcl RX11 mcX11_fault.rm xcX11_fault [] = true := by decide +kernel
theorem icX11_fault : zk_idb zcl RX11 11 false mcX11_fault = true := by decide +kernel
theorem ecX11_fault : zk_run zcl zft zTT zPF zPB zSUf zLX11 11 false mcX11_fault ftX11_fault hcX11_fault zULf xcX11_fault 12 = true := by decide +kernel
theorem gcX11_fault {D : zD} {l : Launch} (hD : zWD D) : zCs D l xcX11_fault := trivial
theorem tcX11_fault {D : zD} {l : Launch} (hD : zWD D) : zC D l mcX11_fault := zk_methC ⟨rfl, rfl⟩ hD poolX11 icX11_fault jcX11_fault ftX11_fault_ok (gcX11_fault hD) wcX11_fault ecX11_fault
def ftX11_lettersOf : List (Nat × List (Nat × Instr × Nat)) := [(27, [(0, .iconst 0, 1), (1, .istore_n 2, 1), (2, .bipush 45, 2), (4, .istore_n 3, 1), (5, .iload_n 3, 1), (6, .ifCond .lt 20, 3), (9, .lload_n 0, 1), (10, .iload_n 3, 1), (11, .invokestatic 172, 3), (14, .ifCond .eq 6, 3), (17, .iinc 2 1, 3), (20, .iinc 3 (-5), 3), (23, .goto (-18), 3), (26, .iload_n 2, 1)]), (28, [(27, .ireturn, 1)])]
theorem ftX11_lettersOf_ok : zk_ftb cX11_lettersOf ftX11_lettersOf = true := by decide +kernel
def qcX11_lettersOf : zQ := ((2, 3), ([(1, 1, 0)], ([(0, 0, 0), (1, (-9223372036854775808), 9223372036854775807)], [], [], []), ([], [], [], [], [], [])), [(some (0, 2, 0), ([(0, 0, 0), (2, (-2147483648), 2147483647)], [], [], []), ([], [], [], [], [], []))], ([], []), (0, 0))
def mcX11_lettersOf : zM := (yX11_lettersOf, cX11_lettersOf, 4, (some .int), { frames := 2, cells := 0, slots := 0, locals := 34 }, qcX11_lettersOf)
def hcX11_lettersOf : zH := ([(5, [([(0, (1, 1, 0)), (2, (0, 2, 0)), (3, (0, 3, 0))], [], ([(0, 0, 0), (3, (-5), 45), (1, (-9223372036854775808), 9223372036854775807)], [], [], []), ([], [], [], [], [], []), (4, ([(3, 1)], 5), 0, 0))])], [], [(27, [(3, 0, 0)])], [], ([], 0, 0), 51)
theorem jcX11_lettersOf : zk_txok RX11 hcX11_lettersOf.2.2.2.2.1 := zk_txb_ok (p := (0, 0)) (by decide +kernel)
def xcX11_lettersOf : List zX := [(172, 0, 0, mcX11_letterAt)]
theorem wcX11_lettersOf : zk_hwsb zcl RX11 mcX11_lettersOf.rm xcX11_lettersOf [(693, 75, 787, 692, 0)] = true := by decide +kernel
theorem icX11_lettersOf : zk_idb zcl RX11 11 false mcX11_lettersOf = true := by decide +kernel
theorem ecX11_lettersOf : zk_run zcl zft zTT zPF zPB zSUf zLX11 11 false mcX11_lettersOf ftX11_lettersOf hcX11_lettersOf zULf xcX11_lettersOf 11 = true := by decide +kernel
theorem gcX11_lettersOf {D : zD} {l : Launch} (hD : zWD D) : zCs D l xcX11_lettersOf := ⟨tcX11_letterAt hD, trivial⟩
theorem tcX11_lettersOf {D : zD} {l : Launch} (hD : zWD D) : zC D l mcX11_lettersOf := zk_methC ⟨rfl, rfl⟩ hD poolX11 icX11_lettersOf jcX11_lettersOf ftX11_lettersOf_ok (gcX11_lettersOf hD) wcX11_lettersOf ecX11_lettersOf
def ftX6_readWord : List (Nat × List (Nat × Instr × Nat)) := [(30, [(0, .aload_n 0, 1), (1, .getfield 9, 3), (4, .invokevirtual 22, 3), (7, .aload_n 0, 1), (8, .getfield 9, 3), (11, .invokevirtual 30, 3), (14, .aload_n 0, 1), (15, .aload_n 0, 1), (16, .getfield 9, 3), (19, .getfield 118, 3), (22, .putfield 187, 3), (25, .aload_n 0, 1), (26, .getfield 9, 3), (29, .getfield 33, 3)]), (60, [(32, .iconst 1, 1), (33, .if_icmp .eq 5, 3), (36, .iconst 0, 1), (37, .ireturn, 1), (38, .aload_n 0, 1), (39, .getfield 9, 3), (42, .invokevirtual 30, 3), (45, .aload_n 0, 1), (46, .getfield 9, 3), (49, .getfield 33, 3), (52, .ifCond .ne 7, 3), (55, .iconst 1, 1), (56, .goto 4, 3), (59, .iconst 0, 1)]), (61, [(60, .ireturn, 1)])]
theorem ftX6_readWord_ok : zk_ftb cX6_readWord ftX6_readWord = true := by decide +kernel
def qcX6_readWord : zQ := ((2, 2), ([(2, 1, 0)], ([(0, 0, 0)], [], [], []), ([(1, 34)], [], [], [], [], [])), [(some (0, 0, 0), ([(0, 0, 0)], [], [], []), ([], [], [], [], [], [])), (some (0, 0, 1), ([(0, 0, 0)], [], [], []), ([], [], [], [], [], []))], ([(30, 2), (30, 3), (30, 4), (30, 5), (30, 6), (30, 7), (34, 3)], []), (0, 0))
def mcX6_readWord : zM := (yX6_readWord, cX6_readWord, 1, (some .boolean), { frames := 4, cells := 0, slots := 0, locals := 72 }, qcX6_readWord)
def hcX6_readWord : zH := ([], [], [], [], ([], 0, 0), 1)
theorem jcX6_readWord : zk_txok RX6 hcX6_readWord.2.2.2.2.1 := zk_txb_ok (p := (0, 0)) (by decide +kernel)
def xcX6_readWord : List zX := [(22, 2, 8, mcX8_rewind), (30, 2, 8, mcX8_step)]
theorem wcX6_readWord : zk_hwsb zcl RX6 mcX6_readWord.rm xcX6_readWord [(532, 76, 529, 530, 531), (537, 76, 534, 535, 536)] = true := by decide +kernel
theorem icX6_readWord : zk_idb zcl RX6 6 false mcX6_readWord = true := by decide +kernel
theorem ecX6_readWord : zk_run zcl zft zTT zPF zPB zSUf zLX6 6 false mcX6_readWord ftX6_readWord hcX6_readWord zULf xcX6_readWord 28 = true := by decide +kernel
theorem gcX6_readWord {D : zD} {l : Launch} (hD : zWD D) : zCs D l xcX6_readWord := ⟨tcX8_rewind hD, tcX8_step hD, trivial⟩
theorem tcX6_readWord {D : zD} {l : Launch} (hD : zWD D) : zC D l mcX6_readWord := zk_methC ⟨rfl, rfl⟩ hD poolX6 icX6_readWord jcX6_readWord ftX6_readWord_ok (gcX6_readWord hD) wcX6_readWord ecX6_readWord
def ftX11_key : List (Nat × List (Nat × Instr × Nat)) := [(24, [(0, .aload_n 0, 1), (1, .getfield 21, 3), (4, .invokevirtual 156, 3), (7, .istore_n 2, 1), (8, .aload_n 0, 1), (9, .getfield 12, 3), (12, .iconst 0, 1), (13, .putfield 103, 3), (16, .iload_n 2, 1), (17, .ifCond .ne 5, 3), (20, .iconst (-1), 1), (21, .ireturn, 1), (22, .aload_n 0, 1), (23, .getfield 28, 3)]), (52, [(26, .aload_n 0, 1), (27, .getfield 21, 3), (30, .getfield 160, 3), (33, .invokevirtual 164, 3), (36, .lstore_n 3, 1), (37, .lload_n 3, 1), (38, .invokestatic 168, 3), (41, .istore 5, 2), (43, .iload_n 1, 1), (44, .iconst (-1), 1), (45, .if_icmp .ne 6, 3), (48, .iload 5, 2), (50, .ireturn, 1), (51, .iload_n 1, 1)]), (73, [(52, .ifCond .lt 9, 3), (55, .iload_n 1, 1), (56, .iload 5, 2), (58, .if_icmp .lt 5, 3), (61, .iconst (-1), 1), (62, .ireturn, 1), (63, .bipush 96, 2), (65, .lload_n 3, 1), (66, .iconst 5, 1), (67, .iload 5, 2), (69, .iconst 1, 1), (70, .isub, 1), (71, .iload_n 1, 1), (72, .isub, 1)]), (79, [(73, .imul, 1), (74, .invokestatic 172, 3), (77, .iadd, 1), (78, .ireturn, 1)])]
theorem ftX11_key_ok : zk_ftb cX11_key ftX11_key = true := by decide +kernel
def qcX11_key : zQ := ((13, 14), ([(2, 1, 0), (0, 2, 0)], ([(0, 0, 0), (2, (-2147483648), 2147483647), (5, 0, 1200), (11, 0, 1), (12, 0, 10)], [], [], []), ([(1, 42), (3, 30), (4, 44), (6, 34), (7, 32), (8, 45), (9, 46), (10, 74)], [(1, 11, 0, (2, 3, 0)), (3, 8, 0, (2, 4, 0)), (3, 8, 1, (0, 5, 0)), (1, 11, 1, (2, 6, 0)), (6, 6, 0, (2, 3, 0)), (1, 11, 2, (2, 7, 0)), (7, 7, 0, (2, 8, 0)), (7, 7, 1, (2, 9, 0))], [], [], [], [(109, []), (390, [(2, 8, 0), (2, 10, 0)]), (398, [(2, 7, 0), (0, 11, 0), (0, 12, 0)])])), [(some (0, 13, 0), ([(0, 0, 0), (13, (-2147483648), 2147483647)], [], [], []), ([], [(1, 11, 0, (2, 3, 0)), (3, 8, 1, (0, 0, 0))], [], [], [], [(109, [])]))], ([(30, 1), (30, 2), (30, 3), (30, 4), (30, 5), (30, 6), (30, 7), (34, 3)], []), (0, 0))
def mcX11_key : zM := (yX11_key, cX11_key, 6, (some .int), { frames := 5, cells := 0, slots := 0, locals := 92 }, qcX11_key)
def hcX11_key : zH := ([], [], [(20, [(9, 919, 0)]), (22, [(9, 931, 0)]), (45, [(9, 400, 0)]), (50, [(9, 920, 0)]), (61, [(9, 921, 0), (9, 922, 0)]), (72, [(8, 0, 0)]), (73, [(8, 0, 0)]), (77, [(9, 923, 0)])], [], ([], 0, 0), 1)
theorem jcX11_key : zk_txok RX11 hcX11_key.2.2.2.2.1 := zk_txb_ok (p := (0, 0)) (by decide +kernel)
def xcX11_key : List zX := [(156, 2, 6, mcX6_readWord), (164, 2, 7, mcX7_keyOf), (168, 0, 0, mcX11_lettersOf), (172, 0, 0, mcX11_letterAt)]
theorem wcX11_key : zk_hwsb zcl RX11 mcX11_key.rm xcX11_key [(782, 77, 779, 780, 781), (690, 78, 783, 688, 689), (786, 75, 784, 785, 0), (693, 75, 787, 692, 0)] = true := by decide +kernel
theorem icX11_key : zk_idb zcl RX11 11 false mcX11_key = true := by decide +kernel
theorem ecX11_key : zk_run zcl zft zTT zPF zPB zSUf zLX11 11 false mcX11_key ftX11_key hcX11_key zULf xcX11_key 42 = true := by decide +kernel
theorem gcX11_key {D : zD} {l : Launch} (hD : zWD D) : zCs D l xcX11_key := ⟨tcX6_readWord hD, tcX7_keyOf hD, tcX11_lettersOf hD, tcX11_letterAt hD, trivial⟩
theorem tcX11_key {D : zD} {l : Launch} (hD : zWD D) : zC D l mcX11_key := zk_methC ⟨rfl, rfl⟩ hD poolX11 icX11_key jcX11_key ftX11_key_ok (gcX11_key hD) wcX11_key ecX11_key
def ftX1_isPrime : List (Nat × List (Nat × Instr × Nat)) := [(22, [(0, .iload_n 0, 1), (1, .iconst 4, 1), (2, .if_icmp .lt 9, 3), (5, .iload_n 0, 1), (6, .iconst 2, 1), (7, .irem, 1), (8, .ifCond .ne 19, 3), (11, .iload_n 0, 1), (12, .iconst 2, 1), (13, .if_icmp .eq 8, 3), (16, .iload_n 0, 1), (17, .iconst 3, 1), (18, .if_icmp .ne 7, 3), (21, .iconst 1, 1)]), (43, [(22, .goto 4, 3), (25, .iconst 0, 1), (26, .ireturn, 1), (27, .iconst 3, 1), (28, .istore_n 1, 1), (29, .iload_n 1, 1), (30, .ldc 9, 2), (32, .if_icmp .gt 24, 3), (35, .iload_n 1, 1), (36, .iload_n 1, 1), (37, .imul, 1), (38, .iload_n 0, 1), (39, .if_icmp .gt 17, 3), (42, .iload_n 0, 1)]), (58, [(43, .iload_n 1, 1), (44, .irem, 1), (45, .ifCond .ne 5, 3), (48, .iconst 0, 1), (49, .ireturn, 1), (50, .iinc 1 2, 3), (53, .goto (-24), 3), (56, .iconst 1, 1), (57, .ireturn, 1)])]
theorem ftX1_isPrime_ok : zk_ftb cX1_isPrime ftX1_isPrime = true := by decide +kernel
def qcX1_isPrime : zQ := ((2, 2), ([(0, 1, 0)], ([(0, 0, 0), (1, 5, 2147483647)], [], [], []), ([], [], [], [], [], [])), [(some (0, 0, 0), ([(0, 0, 0)], [], [], []), ([], [], [], [], [], [])), (some (0, 0, 1), ([(0, 0, 0)], [], [], []), ([], [], [], [], [], []))], ([], []), (0, 0))
def mcX1_isPrime : zM := (yX1_isPrime, cX1_isPrime, 2, (some .boolean), { frames := 1, cells := 0, slots := 0, locals := 12 }, qcX1_isPrime)
def hcX1_isPrime : zH := ([(29, [([(0, (0, 1, 0)), (1, (0, 2, 0))], [], ([(0, 0, 0), (2, 3, 46342), (1, 5, 2147483647)], [], [], []), ([], [], [], [], [], []), (3, ([(2, (-1))], 46342), 0, 0))])], [], [], [], ([], 0, 0), 92685)
theorem jcX1_isPrime : zk_txok RX1 hcX1_isPrime.2.2.2.2.1 := zk_txb_ok (p := (0, 0)) (by decide +kernel)
def xcX1_isPrime : List zX := []
theorem wcX1_isPrime : zk_hwsb zcl RX1 mcX1_isPrime.rm xcX1_isPrime [] = true := by decide +kernel
theorem icX1_isPrime : zk_idb zcl RX1 0 false mcX1_isPrime = true := by decide +kernel
theorem ecX1_isPrime : zk_run zcl zft zTT zPF zPB zSUf zLX1 0 false mcX1_isPrime ftX1_isPrime hcX1_isPrime zULf xcX1_isPrime 17 = true := by decide +kernel
theorem gcX1_isPrime {D : zD} {l : Launch} (hD : zWD D) : zCs D l xcX1_isPrime := trivial
theorem tcX1_isPrime {D : zD} {l : Launch} (hD : zWD D) : zC D l mcX1_isPrime := zk_methC ⟨rfl, rfl⟩ hD poolX1 icX1_isPrime jcX1_isPrime ftX1_isPrime_ok (gcX1_isPrime hD) wcX1_isPrime ecX1_isPrime
def ftX1_power : List (Nat × List (Nat × Instr × Nat)) := [(21, [(0, .lconst 1, 1), (1, .lstore_n 3, 1), (2, .iload_n 0, 1), (3, .i2l, 1), (4, .lstore 5, 2), (6, .iconst 0, 1), (7, .istore 7, 2), (9, .iload 7, 2), (11, .bipush 31, 2), (13, .if_icmp .ge 48, 3), (16, .iload_n 1, 1), (17, .iload 7, 2), (19, .iushr, 1), (20, .ifCond .eq 41, 3)]), (43, [(23, .iload_n 2, 1), (24, .ifCond .le 37, 3), (27, .iload_n 1, 1), (28, .iload 7, 2), (30, .iushr, 1), (31, .iconst 1, 1), (32, .iand, 1), (33, .iconst 1, 1), (34, .if_icmp .ne 11, 3), (37, .lload_n 3, 1), (38, .lload 5, 2), (40, .lmul, 1), (41, .iload_n 2, 1), (42, .i2l, 1)]), (64, [(43, .lrem, 1), (44, .lstore_n 3, 1), (45, .lload 5, 2), (47, .lload 5, 2), (49, .lmul, 1), (50, .iload_n 2, 1), (51, .i2l, 1), (52, .lrem, 1), (53, .lstore 5, 2), (55, .iinc 7 1, 3), (58, .goto (-49), 3), (61, .lload_n 3, 1), (62, .l2i, 1), (63, .ireturn, 1)])]
theorem ftX1_power_ok : zk_ftb cX1_power ftX1_power = true := by decide +kernel
def qcX1_power : zQ := ((4, 5), ([(0, 1, 0), (0, 2, 0), (0, 3, 0)], ([(0, 0, 0), (1, (-2147483648), 2147483647), (2, (-2147483648), 2147483647), (3, 5, 2147483647)], [], [], []), ([], [], [], [], [], [])), [(some (0, 4, 0), ([(0, 0, 0), (4, (-2147483648), 2147483647)], [], [], []), ([], [], [], [], [], []))], ([], []), (0, 0))
def mcX1_power : zM := (yX1_power, cX1_power, 8, (some .int), { frames := 1, cells := 0, slots := 0, locals := 12 }, qcX1_power)
def hcX1_power : zH := ([(9, [([(1, (0, 2, 0)), (2, (0, 3, 0)), (3, (1, 4, 0)), (5, (1, 5, 0)), (7, (0, 6, 0))], [], ([(0, 0, 0), (4, (-9223372036854775808), 9223372036854775807), (5, (-9223372036854775808), 9223372036854775807), (6, 0, 31), (1, (-2147483648), 2147483647), (2, (-2147483648), 2147483647), (3, 5, 2147483647)], [], [], []), ([], [], [], [], [], []), (7, ([(6, (-1))], 31), 0, 0))])], [], [(63, [(3, 0, 0)])], [], ([], 0, 0), 63)
theorem jcX1_power : zk_txok RX1 hcX1_power.2.2.2.2.1 := zk_txb_ok (p := (0, 0)) (by decide +kernel)
def xcX1_power : List zX := []
theorem wcX1_power : zk_hwsb zcl RX1 mcX1_power.rm xcX1_power [] = true := by decide +kernel
theorem icX1_power : zk_idb zcl RX1 0 false mcX1_power = true := by decide +kernel
theorem ecX1_power : zk_run zcl zft zTT zPF zPB zSUf zLX1 0 false mcX1_power ftX1_power hcX1_power zULf xcX1_power 34 = true := by decide +kernel
theorem gcX1_power {D : zD} {l : Launch} (hD : zWD D) : zCs D l xcX1_power := trivial
theorem tcX1_power {D : zD} {l : Launch} (hD : zWD D) : zC D l mcX1_power := zk_methC ⟨rfl, rfl⟩ hD poolX1 icX1_power jcX1_power ftX1_power_ok (gcX1_power hD) wcX1_power ecX1_power
def ftX1_times : List (Nat × List (Nat × Instr × Nat)) := [(18, [(0, .iload 4, 2), (2, .ifCond .le 14, 3), (5, .lload_n 0, 1), (6, .lload_n 2, 1), (7, .lmul, 1), (8, .iload 4, 2), (10, .i2l, 1), (11, .lrem, 1), (12, .l2i, 1), (13, .goto 4, 3), (16, .iconst 0, 1), (17, .ireturn, 1)])]
theorem ftX1_times_ok : zk_ftb cX1_times ftX1_times = true := by decide +kernel
def qcX1_times : zQ := ((4, 5), ([(1, 1, 0), (1, 2, 0), (0, 3, 0)], ([(0, 0, 0), (1, (-2147483648), 2147483647), (2, (-2147483648), 2147483647), (3, 5, 2147483647)], [], [], []), ([], [], [], [], [], [])), [(some (0, 4, 0), ([(0, 0, 0), (4, (-2147483648), 2147483647)], [], [], []), ([], [], [], [], [], []))], ([], []), (0, 0))
def mcX1_times : zM := (yX1_times, cX1_times, 5, (some .int), { frames := 1, cells := 0, slots := 0, locals := 12 }, qcX1_times)
def hcX1_times : zH := ([], [], [(17, [(3, 0, 0)])], [], ([], 0, 0), 1)
theorem jcX1_times : zk_txok RX1 hcX1_times.2.2.2.2.1 := zk_txb_ok (p := (0, 0)) (by decide +kernel)
def xcX1_times : List zX := []
theorem wcX1_times : zk_hwsb zcl RX1 mcX1_times.rm xcX1_times [] = true := by decide +kernel
theorem icX1_times : zk_idb zcl RX1 0 false mcX1_times = true := by decide +kernel
theorem ecX1_times : zk_run zcl zft zTT zPF zPB zSUf zLX1 0 false mcX1_times ftX1_times hcX1_times zULf xcX1_times 13 = true := by decide +kernel
theorem gcX1_times {D : zD} {l : Launch} (hD : zWD D) : zCs D l xcX1_times := trivial
theorem tcX1_times {D : zD} {l : Launch} (hD : zWD D) : zC D l mcX1_times := zk_methC ⟨rfl, rfl⟩ hD poolX1 icX1_times jcX1_times ftX1_times_ok (gcX1_times hD) wcX1_times ecX1_times
def ftX9_plus : List (Nat × List (Nat × Instr × Nat)) := [(16, [(0, .iload_n 1, 1), (1, .i2l, 1), (2, .iload_n 2, 1), (3, .i2l, 1), (4, .ladd, 1), (5, .lstore_n 3, 1), (6, .lload_n 3, 1), (7, .aload_n 0, 1), (8, .getfield 26, 3), (11, .iconst 1, 1), (12, .isub, 1), (13, .i2l, 1), (14, .lcmp, 1), (15, .ifCond .le 15, 3)]), (33, [(18, .lload_n 3, 1), (19, .aload_n 0, 1), (20, .getfield 26, 3), (23, .iconst 1, 1), (24, .isub, 1), (25, .i2l, 1), (26, .lsub, 1), (27, .goto 4, 3), (30, .lload_n 3, 1), (31, .l2i, 1), (32, .ireturn, 1)])]
theorem ftX9_plus_ok : zk_ftb cX9_plus ftX9_plus = true := by decide +kernel
def qcX9_plus_122 : zQ := ((4, 5), ([(2, 1, 0), (0, 2, 0), (0, 3, 0)], ([(0, 0, 0), (2, (-2147483648), 2147483647), (3, (-2147483643), 2147483647)], [], [], []), ([(1, 122)], [], [], [], [], [])), [(some (0, 4, 0), ([(0, 0, 0), (4, (-2147483648), 2147483647)], [], [], []), ([], [], [], [], [], []))], ([], []), (0, 0))
def mcX9_plus_122 : zM := (yX9_plus, cX9_plus, 5, (some .int), { frames := 1, cells := 0, slots := 0, locals := 12 }, qcX9_plus_122)
def hcX9_plus_122 : zH := ([], [], [(32, [(3, 0, 0)])], [], ([], 0, 0), 1)
theorem jcX9_plus_122 : zk_txok RX9 hcX9_plus_122.2.2.2.2.1 := zk_txb_ok (p := (0, 0)) (by decide +kernel)
def xcX9_plus_122 : List zX := []
theorem wcX9_plus_122 : zk_hwsb zcl RX9 mcX9_plus_122.rm xcX9_plus_122 [] = true := by decide +kernel
theorem icX9_plus_122 : zk_idb zcl RX9 9 false mcX9_plus_122 = true := by decide +kernel
theorem ecX9_plus_122 : zk_run zcl zft zTT zPF zPB zSUf zLX9 9 false mcX9_plus_122 ftX9_plus hcX9_plus_122 zULf xcX9_plus_122 26 = true := by decide +kernel
theorem gcX9_plus_122 {D : zD} {l : Launch} (hD : zWD D) : zCs D l xcX9_plus_122 := trivial
theorem tcX9_plus_122 {D : zD} {l : Launch} (hD : zWD D) : zC D l mcX9_plus_122 := zk_methC ⟨rfl, rfl⟩ hD poolX9 icX9_plus_122 jcX9_plus_122 ftX9_plus_ok (gcX9_plus_122 hD) wcX9_plus_122 ecX9_plus_122
def ftX9_apply : List (Nat × List (Nat × Instr × Nat)) := [(26, [(0, .aload_n 0, 1), (1, .getfield 15, 3), (4, .ifCond .eq 23, 3), (7, .iload_n 1, 1), (8, .ifCond .lt 19, 3), (11, .iload_n 1, 1), (12, .aload_n 0, 1), (13, .getfield 9, 3), (16, .arraylength, 1), (17, .if_icmp .ge 10, 3), (20, .aload_n 0, 1), (21, .getfield 9, 3), (24, .iload_n 1, 1), (25, .iaload, 1)]), (52, [(26, .ireturn, 1), (27, .aload_n 0, 1), (28, .getfield 19, 3), (31, .ifCond .ne 16, 3), (34, .iload_n 1, 1), (35, .aload_n 0, 1), (36, .getfield 23, 3), (39, .aload_n 0, 1), (40, .getfield 26, 3), (43, .invokestatic 39, 3), (46, .ireturn, 1), (47, .aload_n 0, 1), (48, .getfield 19, 3), (51, .iconst 1, 1)]), (74, [(52, .if_icmp .ne 18, 3), (55, .iload_n 1, 1), (56, .i2l, 1), (57, .aload_n 0, 1), (58, .getfield 23, 3), (61, .i2l, 1), (62, .aload_n 0, 1), (63, .getfield 26, 3), (66, .invokestatic 43, 3), (69, .ireturn, 1), (70, .aload_n 0, 1), (71, .iload_n 1, 1), (72, .aload_n 0, 1), (73, .getfield 23, 3)]), (80, [(76, .invokevirtual 47, 3), (79, .ireturn, 1)])]
theorem ftX9_apply_ok : zk_ftb cX9_apply ftX9_apply = true := by decide +kernel
def qcX9_apply_122 : zQ := ((3, 4), ([(2, 1, 0), (0, 2, 0)], ([(0, 0, 0), (2, (-2147483648), 2147483647)], [], [], []), ([(1, 122)], [], [], [], [], [])), [(some (0, 3, 0), ([(0, 0, 0), (3, (-2147483648), 2147483647)], [], [], []), ([], [], [], [], [], []))], ([], []), (0, 0))
def mcX9_apply_122 : zM := (yX9_apply, cX9_apply, 2, (some .int), { frames := 2, cells := 0, slots := 0, locals := 39 }, qcX9_apply_122)
def hcX9_apply_122 : zH := ([], [], [], [], ([], 0, 0), 1)
theorem jcX9_apply_122 : zk_txok RX9 hcX9_apply_122.2.2.2.2.1 := zk_txb_ok (p := (0, 0)) (by decide +kernel)
def xcX9_apply_122 : List zX := [(39, 0, 0, mcX1_power), (43, 0, 0, mcX1_times), (47, 2, 9, mcX9_plus_122)]
theorem wcX9_apply_122 : zk_hwsb zcl RX9 mcX9_apply_122.rm xcX9_apply_122 [(806, 91, 804, 805, 0), (809, 91, 807, 808, 0), (813, 81, 810, 812, 19)] = true := by decide +kernel
theorem icX9_apply_122 : zk_idb zcl RX9 9 false mcX9_apply_122 = true := by decide +kernel
theorem ecX9_apply_122 : zk_run zcl zft zTT zPF zPB zSUf zLX9 9 false mcX9_apply_122 ftX9_apply hcX9_apply_122 zULf xcX9_apply_122 28 = true := by decide +kernel
theorem gcX9_apply_122 {D : zD} {l : Launch} (hD : zWD D) : zCs D l xcX9_apply_122 := ⟨tcX1_power hD, tcX1_times hD, tcX9_plus_122 hD, trivial⟩
theorem tcX9_apply_122 {D : zD} {l : Launch} (hD : zWD D) : zC D l mcX9_apply_122 := zk_methC ⟨rfl, rfl⟩ hD poolX9 icX9_apply_122 jcX9_apply_122 ftX9_apply_ok (gcX9_apply_122 hD) wcX9_apply_122 ecX9_apply_122
def ftX9_become : List (Nat × List (Nat × Instr × Nat)) := [(22, [(0, .aload_n 0, 1), (1, .iload_n 1, 1), (2, .putfield 19, 3), (5, .aload_n 0, 1), (6, .iload_n 2, 1), (7, .putfield 23, 3), (10, .aload_n 0, 1), (11, .iload_n 3, 1), (12, .putfield 26, 3), (15, .aload_n 0, 1), (16, .iconst 0, 1), (17, .putfield 15, 3), (20, .iconst 1, 1), (21, .istore 4, 2)]), (51, [(23, .iload 4, 2), (25, .aload_n 0, 1), (26, .getfield 26, 3), (29, .if_icmp .ge 31, 3), (32, .aload_n 0, 1), (33, .getfield 26, 3), (36, .bipush 60, 2), (38, .if_icmp .gt 22, 3), (41, .aload_n 0, 1), (42, .getfield 9, 3), (45, .iload 4, 2), (47, .aload_n 0, 1), (48, .iload 4, 2), (50, .invokevirtual 35, 3)]), (79, [(53, .iastore, 1), (54, .iinc 4 1, 3), (57, .goto (-34), 3), (60, .aload_n 0, 1), (61, .aload_n 0, 1), (62, .getfield 26, 3), (65, .bipush 60, 2), (67, .if_icmp .gt 7, 3), (70, .iconst 1, 1), (71, .goto 4, 3), (74, .iconst 0, 1), (75, .putfield 15, 3), (78, .return_, 1)])]
theorem ftX9_become_ok : zk_ftb cX9_become ftX9_become = true := by decide +kernel
def qcX9_become_122 : zQ := ((5, 5), ([(2, 1, 0), (0, 2, 0), (0, 3, 0), (0, 4, 0)], ([(0, 0, 0), (2, 0, 2), (3, 0, 2147483646), (4, 5, 2147483647)], [], [], []), ([(1, 122)], [], [], [], [], [])), [(none, ([(0, 0, 0)], [], [], []), ([], [], [], [], [], []))], ([(122, 1), (122, 2), (122, 3), (122, 4)], [124]), (0, 0))
def mcX9_become_122 : zM := (yX9_become, cX9_become, 5, none, { frames := 3, cells := 0, slots := 0, locals := 60 }, qcX9_become_122)
def hcX9_become_122 : zH := ([(23, [([(0, (2, 1, 0)), (4, (0, 5, 0))], [], ([(0, 0, 0), (5, 1, 60), (2, 0, 2), (3, 0, 2147483646), (4, 5, 2147483647)], [], [], []), ([(1, 122)], [(1, 9, 1, (0, 0, 0)), (1, 9, 4, (0, 4, 0)), (1, 9, 3, (0, 3, 0)), (1, 9, 2, (0, 2, 0))], [], [], [], []), (6, ([(5, (-1))], 60), 0, 0))])], [], [(53, [(4, 1, 0)])], [], ([], 0, 0), 121)
theorem jcX9_become_122 : zk_txok RX9 hcX9_become_122.2.2.2.2.1 := zk_txb_ok (p := (0, 0)) (by decide +kernel)
def xcX9_become_122 : List zX := [(35, 2, 9, mcX9_apply_122)]
theorem wcX9_become_122 : zk_hwsb zcl RX9 mcX9_become_122.rm xcX9_become_122 [(803, 81, 800, 801, 802)] = true := by decide +kernel
theorem icX9_become_122 : zk_idb zcl RX9 9 false mcX9_become_122 = true := by decide +kernel
theorem ecX9_become_122 : zk_run zcl zft zTT zPF zPB zSUf zLX9 9 false mcX9_become_122 ftX9_become hcX9_become_122 zULf xcX9_become_122 19 = true := by decide +kernel
theorem gcX9_become_122 {D : zD} {l : Launch} (hD : zWD D) : zCs D l xcX9_become_122 := ⟨tcX9_apply_122 hD, trivial⟩
theorem tcX9_become_122 {D : zD} {l : Launch} (hD : zWD D) : zC D l mcX9_become_122 := zk_methC ⟨rfl, rfl⟩ hD poolX9 icX9_become_122 jcX9_become_122 ftX9_become_ok (gcX9_become_122 hD) wcX9_become_122 ecX9_become_122
