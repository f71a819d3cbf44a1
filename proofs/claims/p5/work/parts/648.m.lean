/-! METHODS (printed by wip/t4) -/
def qcX12_readList_k1 : zQ := ((2, 4), ([(2, 1, 0), (0, 0, 1)], ([(0, 0, 0)], [], [], []), ([(1, 43)], [], [], [], [], [(0, []), (110, [])])), [(some (0, 0, 0), ([(0, 0, 0), (3, 0, 8)], [], [], []), ([(2, 77)], [(1, 12, 17, (2, 2, 0))], [(2, 77, (0, 0, 3), (0, 3, 0))], [], [], [(110, [])])), (some (0, 0, 1), ([(0, 0, 0), (3, 0, 8)], [], [], []), ([(2, 77)], [(1, 12, 17, (2, 2, 0))], [(2, 77, (0, 0, 3), (0, 3, 0))], [], [], [(110, [])]))], ([(43, 3), (43, 4), (43, 5), (43, 6), (43, 7), (43, 8), (43, 9), (43, 10)], [77, 78, 79, 80]), (0, 0))
def mcX12_readList_k1 : zM := (yX12_readList, cX12_readList, 5, (some .boolean), { frames := 8, cells := 0, slots := 0, locals := 167 }, qcX12_readList_k1)
def hcX12_readList_k1 : zH := ([(7, [([(0, (2, 1, 0)), (1, (0, 0, 1))], [], ([(0, 0, 0), (3, 0, 8)], [], [], []), ([(2, 77), (1, 43)], [(1, 12, 17, (2, 2, 0))], [(2, 77, (0, 0, 3), (0, 3, 0))], [], [], [(110, []), (0, [])]), (4, ([(3, (-1))], 8), 0, 0))])], [], [], [], ([], 0, 0), 17)
theorem jcX12_readList_k1 : zk_txok RX12 hcX12_readList_k1.2.2.2.2.1 := zk_txb_ok (p := (0, 0)) (by decide +kernel)
def xcX12_readList_k1 : List zX := [(226, 2, 12, mcX12_scan), (232, 2, 12, mcX12_fails), (256, 2, 12, mcX12_readSemi_m), (284, 2, 12, mcX12_keyOf), (288, 2, 12, mcX12_isName_k3)]
theorem wcX12_readList_k1 : zk_hwsb zcl RX12 mcX12_readList_k1.rm xcX12_readList_k1 [(1392, 86, 1389, 1391, 38), (1427, 86, 1424, 1426, 43), (1440, 86, 1437, 1439, 46), (1455, 86, 1452, 1454, 48), (1460, 86, 1457, 1459, 49)] = true := by decide +kernel
theorem icX12_readList_k1 : zk_idb zcl RX12 12 false mcX12_readList_k1 = true := by decide +kernel
theorem ecX12_readList_k1 : zk_run zcl zft zTT zPF zPB zSUf zLX12 12 false mcX12_readList_k1 ftX12_readList hcX12_readList_k1 zULf xcX12_readList_k1 68 = true := by decide +kernel
theorem gcX12_readList_k1 {D : zD} {l : Launch} (hD : zWD D) : zCs D l xcX12_readList_k1 := ⟨tcX12_scan hD, tcX12_fails hD, tcX12_readSemi_m hD, tcX12_keyOf hD, tcX12_isName_k3 hD, trivial⟩
theorem tcX12_readList_k1 {D : zD} {l : Launch} (hD : zWD D) : zC D l mcX12_readList_k1 := zk_methC ⟨rfl, rfl⟩ hD poolX12 icX12_readList_k1 jcX12_readList_k1 ftX12_readList_ok (gcX12_readList_k1 hD) wcX12_readList_k1 ecX12_readList_k1
def qcX12_settle_k2 : zQ := ((4, 4), ([(2, 1, 0), (0, 0, 2)], ([(0, 0, 0), (3, 0, 8)], [], [], []), ([(1, 43), (2, 77)], [(1, 12, 17, (2, 2, 0))], [(2, 77, (0, 0, 3), (0, 3, 0))], [], [], [(110, [])])), [(some (0, 3, 0), ([(0, 0, 0)], [], [], []), ([], [], [], [], [], [(110, [])]))], ([], [77, 78, 79, 80]), (0, 0))
def mcX12_settle_k2 : zM := (yX12_settle, cX12_settle, 3, (some .int), { frames := 1, cells := 0, slots := 0, locals := 12 }, qcX12_settle_k2)
def hcX12_settle_k2 : zH := ([(14, [([(0, (2, 1, 0)), (1, (0, 0, 2)), (2, (0, 4, 0))], [], ([(0, 0, 0), (4, 0, 8), (3, 0, 8)], [(4, 3, 0)], [], []), ([(1, 43), (2, 77)], [(1, 12, 17, (2, 2, 0))], [(2, 77, (0, 0, 2), (0, 3, 0)), (2, 77, (0, 0, 3), (0, 3, 0))], [], [], [(110, [])]), (5, ([(4, (-1))], 8), 0, 0))])], [], [], [], ([], 0, 0), 17)
theorem jcX12_settle_k2 : zk_txok RX12 hcX12_settle_k2.2.2.2.2.1 := zk_txb_ok (p := (0, 0)) (by decide +kernel)
def xcX12_settle_k2 : List zX := []
theorem wcX12_settle_k2 : zk_hwsb zcl RX12 mcX12_settle_k2.rm xcX12_settle_k2 [] = true := by decide +kernel
theorem icX12_settle_k2 : zk_idb zcl RX12 12 false mcX12_settle_k2 = true := by decide +kernel
theorem ecX12_settle_k2 : zk_run zcl zft zTT zPF zPB zSUf zLX12 12 false mcX12_settle_k2 ftX12_settle hcX12_settle_k2 zULf xcX12_settle_k2 52 = true := by decide +kernel
theorem gcX12_settle_k2 {D : zD} {l : Launch} (hD : zWD D) : zCs D l xcX12_settle_k2 := trivial
theorem tcX12_settle_k2 {D : zD} {l : Launch} (hD : zWD D) : zC D l mcX12_settle_k2 := zk_methC ⟨rfl, rfl⟩ hD poolX12 icX12_settle_k2 jcX12_settle_k2 ftX12_settle_ok (gcX12_settle_k2 hD) wcX12_settle_k2 ecX12_settle_k2
def qcX12_take : zQ := ((2, 4), ([(2, 1, 0)], ([(0, 0, 0)], [], [], []), ([(1, 43)], [], [], [], [], [(0, [])])), [(none, ([(0, 0, 0), (2, 0, 1200)], [], [], []), ([], [(1, 12, 1, (0, 0, 0)), (1, 12, 6, (0, 2, 0)), (1, 12, 3, (0, 0, 4))], [], [], [], [])), (none, ([(0, 0, 0), (2, 1, 1200), (3, 0, 3)], [], [], []), ([], [(1, 12, 1, (0, 0, 0)), (1, 12, 6, (0, 2, 0)), (1, 12, 3, (0, 3, 0))], [], [], [], []))], ([(43, 1), (43, 2), (43, 3), (43, 4), (43, 5), (43, 6), (43, 7), (43, 10)], []), (0, 0))
def mcX12_take : zM := (yX12_take, cX12_take, 1, none, { frames := 7, cells := 0, slots := 0, locals := 147 }, qcX12_take)
def hcX12_take : zH := ([], [], [], [], ([], 0, 0), 1)
theorem jcX12_take : zk_txok RX12 hcX12_take.2.2.2.2.1 := zk_txb_ok (p := (0, 0)) (by decide +kernel)
def xcX12_take : List zX := [(226, 2, 12, mcX12_scan_m)]
theorem wcX12_take : zk_hwsb zcl RX12 mcX12_take.rm xcX12_take [(1392, 86, 1389, 1391, 38)] = true := by decide +kernel
theorem icX12_take : zk_idb zcl RX12 12 false mcX12_take = true := by decide +kernel
theorem ecX12_take : zk_run zcl zft zTT zPF zPB zSUf zLX12 12 false mcX12_take ftX12_take hcX12_take zULf xcX12_take 15 = true := by decide +kernel
theorem gcX12_take {D : zD} {l : Launch} (hD : zWD D) : zCs D l xcX12_take := ⟨tcX12_scan_m hD, trivial⟩
theorem tcX12_take {D : zD} {l : Launch} (hD : zWD D) : zC D l mcX12_take := zk_methC ⟨rfl, rfl⟩ hD poolX12 icX12_take jcX12_take ftX12_take_ok (gcX12_take hD) wcX12_take ecX12_take
def ftX12_known : List (Nat × List (Nat × Instr × Nat)) := [(26, [(0, .aload_n 0, 1), (1, .invokevirtual 260, 3), (4, .aload_n 0, 1), (5, .invokevirtual 263, 3), (8, .aload_n 0, 1), (9, .iconst 1, 1), (10, .invokevirtual 297, 3), (13, .ifCond .eq 11, 3), (16, .aload_n 0, 1), (17, .iconst 2, 1), (18, .invokevirtual 300, 3), (21, .goto 4, 3), (24, .iconst (-1), 1), (25, .ireturn, 1)])]
theorem ftX12_known_ok : zk_ftb cX12_known ftX12_known = true := by decide +kernel
def qcX12_known : zQ := ((14, 15), ([(2, 1, 0)], ([(0, 0, 0), (3, 0, 1200), (11, 0, 1), (12, 0, 10)], [], [], []), ([(1, 43), (2, 73), (4, 74), (5, 75), (6, 76), (7, 78), (8, 79), (9, 80), (10, 77), (13, 45)], [(1, 12, 0, (2, 2, 0)), (1, 12, 1, (0, 3, 0)), (1, 12, 12, (2, 4, 0)), (1, 12, 13, (2, 5, 0)), (1, 12, 14, (2, 6, 0)), (1, 12, 18, (2, 7, 0)), (1, 12, 19, (2, 8, 0)), (1, 12, 20, (2, 9, 0)), (1, 12, 17, (2, 10, 0))], [(5, 75, (0, 0, 0), (0, 11, 0)), (6, 76, (0, 0, 0), (0, 12, 0))], [], [], [(0, []), (110, []), (109, []), (390, [(2, 13, 0), (2, 4, 0)])])), [(some (0, 0, (-1)), ([(0, 0, 0)], [], [], []), ([], [(1, 12, 1, (0, 0, 0)), (1, 12, 13, (2, 5, 0)), (1, 12, 14, (2, 6, 0))], [(5, 75, (0, 0, 0), (0, 11, 0)), (6, 76, (0, 0, 0), (0, 12, 0))], [], [], [(110, []), (109, [])])), (some (0, 14, 0), ([(0, 0, 0), (14, 0, 8)], [], [], []), ([], [(1, 12, 1, (0, 0, 0)), (1, 12, 13, (2, 5, 0)), (1, 12, 14, (2, 6, 0))], [(5, 75, (0, 0, 0), (0, 11, 0)), (6, 76, (0, 0, 0), (0, 12, 0))], [], [], [(110, []), (109, [])]))], ([(43, 1), (43, 2), (43, 3), (43, 4), (43, 5), (43, 6), (43, 7), (43, 8), (43, 9), (43, 10)], [77, 78, 79, 80]), (0, 0))
def mcX12_known : zM := (yX12_known, cX12_known, 1, (some .int), { frames := 9, cells := 0, slots := 0, locals := 191 }, qcX12_known)
def hcX12_known : zH := ([], [], [(4, [(9, 932, 0)]), (16, [(9, 862, 0)]), (24, [(9, 843, 0)])], [], ([], 0, 0), 1)
theorem jcX12_known : zk_txok RX12 hcX12_known.2.2.2.2.1 := zk_txb_ok (p := (0, 0)) (by decide +kernel)
def xcX12_known : List zX := [(260, 2, 12, mcX12_take), (263, 2, 12, mcX12_fresh), (297, 2, 12, mcX12_readList_k1), (300, 2, 12, mcX12_settle_k2)]
theorem wcX12_known : zk_hwsb zcl RX12 mcX12_known.rm xcX12_known [(1388, 86, 1385, 1387, 37), (1415, 86, 1412, 1414, 41), (1451, 86, 1448, 1450, 47), (1465, 86, 1462, 1464, 50)] = true := by decide +kernel
theorem icX12_known : zk_idb zcl RX12 12 false mcX12_known = true := by decide +kernel
theorem ecX12_known : zk_run zcl zft zTT zPF zPB zSUf zLX12 12 false mcX12_known ftX12_known hcX12_known zULf xcX12_known 15 = true := by decide +kernel
theorem gcX12_known {D : zD} {l : Launch} (hD : zWD D) : zCs D l xcX12_known := ⟨tcX12_take hD, tcX12_fresh hD, tcX12_readList_k1 hD, tcX12_settle_k2 hD, trivial⟩
theorem tcX12_known {D : zD} {l : Launch} (hD : zWD D) : zC D l mcX12_known := zk_methC ⟨rfl, rfl⟩ hD poolX12 icX12_known jcX12_known ftX12_known_ok (gcX12_known hD) wcX12_known ecX12_known
def qcX12_in : zQ := ((4, 4), ([(1, 1, 0), (1, 2, 0), (1, 3, 0)], ([(0, 0, 0), (1, (-2147483648), 2147483647), (2, 0, 400), (3, (-9223372036854775808), 9223372036854775807)], [], [], []), ([], [], [], [], [], [])), [(some (0, 0, 0), ([(0, 0, 0)], [], [], []), ([], [], [], [], [], [])), (some (0, 0, 1), ([(0, 0, 0), (1, 0, 2147483647), (3, 0, 9223372036854775807)], [(1, 3, 0), (2, 1, 0)], [], []), ([], [], [], [], [], []))], ([], []), (0, 0))
def mcX12_in : zM := (yX12_in, cX12_in, 6, (some .boolean), { frames := 1, cells := 0, slots := 0, locals := 12 }, qcX12_in)
def hcX12_in : zH := ([], [], [], [], ([], 0, 0), 1)
theorem jcX12_in : zk_txok RX12 hcX12_in.2.2.2.2.1 := zk_txb_ok (p := (0, 0)) (by decide +kernel)
def xcX12_in : List zX := []
theorem wcX12_in : zk_hwsb zcl RX12 mcX12_in.rm xcX12_in [] = true := by decide +kernel
theorem icX12_in : zk_idb zcl RX12 12 false mcX12_in = true := by decide +kernel
theorem ecX12_in : zk_run zcl zft zTT zPF zPB zSUf zLX12 12 false mcX12_in ftX12_in hcX12_in zULf xcX12_in 13 = true := by decide +kernel
theorem gcX12_in {D : zD} {l : Launch} (hD : zWD D) : zCs D l xcX12_in := trivial
theorem tcX12_in {D : zD} {l : Launch} (hD : zWD D) : zC D l mcX12_in := zk_methC ⟨rfl, rfl⟩ hD poolX12 icX12_in jcX12_in ftX12_in_ok (gcX12_in hD) wcX12_in ecX12_in
def qcX12_letter : zQ := ((2, 3), ([(2, 1, 0)], ([(0, 0, 0)], [], [], []), ([(1, 43)], [], [], [], [], [])), [(some (0, 0, (-1)), ([(0, 0, 0)], [], [], []), ([], [], [], [], [], [])), (some (0, 2, 0), ([(0, 0, 0), (2, (-1), 25)], [], [], []), ([], [], [], [], [], []))], ([], []), (0, 0))
def mcX12_letter : zM := (yX12_letter, cX12_letter, 1, (some .int), { frames := 1, cells := 0, slots := 0, locals := 12 }, qcX12_letter)
def hcX12_letter : zH := ([], [], [], [], ([], 0, 0), 1)
theorem jcX12_letter : zk_txok RX12 hcX12_letter.2.2.2.2.1 := zk_txb_ok (p := (0, 0)) (by decide +kernel)
def xcX12_letter : List zX := []
theorem wcX12_letter : zk_hwsb zcl RX12 mcX12_letter.rm xcX12_letter [] = true := by decide +kernel
theorem icX12_letter : zk_idb zcl RX12 12 false mcX12_letter = true := by decide +kernel
theorem ecX12_letter : zk_run zcl zft zTT zPF zPB zSUf zLX12 12 false mcX12_letter ftX12_letter hcX12_letter zULf xcX12_letter 18 = true := by decide +kernel
theorem gcX12_letter {D : zD} {l : Launch} (hD : zWD D) : zCs D l xcX12_letter := trivial
theorem tcX12_letter {D : zD} {l : Launch} (hD : zWD D) : zC D l mcX12_letter := zk_methC ⟨rfl, rfl⟩ hD poolX12 icX12_letter jcX12_letter ftX12_letter_ok (gcX12_letter hD) wcX12_letter ecX12_letter
def ftX12_readBag : List (Nat × List (Nat × Instr × Nat)) := [(26, [(0, .aload_n 0, 1), (1, .invokevirtual 235, 3), (4, .istore_n 3, 1), (5, .iload_n 3, 1), (6, .i2l, 1), (7, .lconst 0, 1), (8, .ldc2_w 307, 3), (11, .invokestatic 243, 3), (14, .ifCond .ne 17, 3), (17, .aload_n 0, 1), (18, .iconst 1, 1), (19, .invokevirtual 232, 3), (22, .ifCond .eq 7, 3), (25, .iconst 0, 1)]), (46, [(26, .goto 4, 3), (29, .iconst (-1), 1), (30, .ireturn, 1), (31, .aload_n 0, 1), (32, .getfield 68, 3), (35, .bipush 8, 2), (37, .iload_n 1, 1), (38, .imul, 1), (39, .iload_n 3, 1), (40, .iadd, 1), (41, .baload, 1), (42, .istore 4, 2), (44, .iload_n 2, 1), (45, .bipush 6, 2)]), (73, [(47, .if_icmp .ne 22, 3), (50, .iload 4, 2), (52, .ifCond .eq 17, 3), (55, .aload_n 0, 1), (56, .iconst 3, 1), (57, .invokevirtual 232, 3), (60, .ifCond .eq 7, 3), (63, .iconst 0, 1), (64, .goto 4, 3), (67, .iconst (-1), 1), (68, .ireturn, 1), (69, .iload_n 2, 1), (70, .bipush 6, 2), (72, .if_icmp .eq 22, 3)]), (101, [(75, .iload 4, 2), (77, .ifCond .ne 17, 3), (80, .aload_n 0, 1), (81, .iconst 5, 1), (82, .invokevirtual 232, 3), (85, .ifCond .eq 7, 3), (88, .iconst 0, 1), (89, .goto 4, 3), (92, .iconst (-1), 1), (93, .ireturn, 1), (94, .iload_n 2, 1), (95, .bipush 6, 2), (97, .if_icmp .eq 38, 3), (100, .iload_n 2, 1)]), (124, [(101, .bipush 9, 2), (103, .if_icmp .eq 32, 3), (106, .aload_n 0, 1), (107, .getfield 71, 3), (110, .bipush 8, 2), (112, .iload_n 1, 1), (113, .imul, 1), (114, .iload_n 3, 1), (115, .iadd, 1), (116, .baload, 1), (117, .ifCond .eq 18, 3), (120, .aload_n 0, 1), (121, .bipush 6, 2), (123, .invokevirtual 232, 3)]), (141, [(126, .ifCond .eq 7, 3), (129, .iconst 0, 1), (130, .goto 4, 3), (133, .iconst (-1), 1), (134, .ireturn, 1), (135, .aload_n 0, 1), (136, .invokevirtual 226, 3), (139, .iload_n 3, 1), (140, .ireturn, 1)])]
theorem ftX12_readBag_ok : zk_ftb cX12_readBag ftX12_readBag = true := by decide +kernel
def qcX12_readBag : zQ := ((4, 5), ([(2, 1, 0), (0, 2, 0), (0, 3, 0)], ([(0, 0, 0), (2, 0, 1), (3, 6, 13)], [], [], []), ([(1, 43)], [], [], [], [], [(0, [])])), [(some (0, 0, (-1)), ([(0, 0, 0)], [], [], []), ([], [], [], [], [], [])), (some (0, 4, 0), ([(0, 0, 0), (4, 0, 7)], [], [], []), ([], [], [], [], [], []))], ([(43, 3), (43, 4), (43, 5), (43, 6), (43, 7), (43, 8), (43, 9), (43, 10)], []), (0, 0))
def mcX12_readBag : zM := (yX12_readBag, cX12_readBag, 5, (some .int), { frames := 7, cells := 0, slots := 0, locals := 147 }, qcX12_readBag)
def hcX12_readBag : zH := ([], [], [], [], ([], 0, 0), 1)
theorem jcX12_readBag : zk_txok RX12 hcX12_readBag.2.2.2.2.1 := zk_txb_ok (p := (0, 0)) (by decide +kernel)
def xcX12_readBag : List zX := [(226, 2, 12, mcX12_scan), (232, 2, 12, mcX12_fails), (235, 2, 12, mcX12_letter), (243, 0, 0, mcX12_in)]
theorem wcX12_readBag : zk_hwsb zcl RX12 mcX12_readBag.rm xcX12_readBag [(1392, 86, 1389, 1391, 38), (1427, 86, 1424, 1426, 43), (1436, 86, 1433, 1435, 45), (1423, 86, 1421, 1422, 0)] = true := by decide +kernel
theorem icX12_readBag : zk_idb zcl RX12 12 false mcX12_readBag = true := by decide +kernel
theorem ecX12_readBag : zk_run zcl zft zTT zPF zPB zSUf zLX12 12 false mcX12_readBag ftX12_readBag hcX12_readBag zULf xcX12_readBag 49 = true := by decide +kernel
theorem gcX12_readBag {D : zD} {l : Launch} (hD : zWD D) : zCs D l xcX12_readBag := ⟨tcX12_scan hD, tcX12_fails hD, tcX12_letter hD, tcX12_in hD, trivial⟩
theorem tcX12_readBag {D : zD} {l : Launch} (hD : zWD D) : zC D l mcX12_readBag := zk_methC ⟨rfl, rfl⟩ hD poolX12 icX12_readBag jcX12_readBag ftX12_readBag_ok (gcX12_readBag hD) wcX12_readBag ecX12_readBag
def qcX12_readSemi : zQ := ((2, 4), ([(2, 1, 0)], ([(0, 0, 0)], [], [], []), ([(1, 43)], [], [], [], [], [(0, [])])), [(some (0, 0, 0), ([(0, 0, 0), (2, 0, 4)], [], [], []), ([], [(1, 12, 3, (0, 2, 0))], [], [], [], [])), (some (0, 0, 1), ([(0, 0, 0), (2, 0, 1200)], [], [], []), ([], [(1, 12, 6, (0, 2, 0)), (1, 12, 3, (0, 0, 4))], [], [], [], [])), (some (0, 0, 1), ([(0, 0, 0), (2, 1, 1200), (3, 0, 3)], [], [], []), ([], [(1, 12, 6, (0, 2, 0)), (1, 12, 3, (0, 3, 0))], [], [], [], []))], ([(43, 3), (43, 4), (43, 5), (43, 6), (43, 7), (43, 8), (43, 9), (43, 10)], []), (0, 0))
def mcX12_readSemi : zM := (yX12_readSemi, cX12_readSemi, 1, (some .boolean), { frames := 7, cells := 0, slots := 0, locals := 147 }, qcX12_readSemi)
def hcX12_readSemi : zH := ([], [], [], [], ([], 0, 0), 1)
theorem jcX12_readSemi : zk_txok RX12 hcX12_readSemi.2.2.2.2.1 := zk_txb_ok (p := (0, 0)) (by decide +kernel)
def xcX12_readSemi : List zX := [(226, 2, 12, mcX12_scan), (232, 2, 12, mcX12_fails)]
theorem wcX12_readSemi : zk_hwsb zcl RX12 mcX12_readSemi.rm xcX12_readSemi [(1392, 86, 1389, 1391, 38), (1427, 86, 1424, 1426, 43)] = true := by decide +kernel
theorem icX12_readSemi : zk_idb zcl RX12 12 false mcX12_readSemi = true := by decide +kernel
theorem ecX12_readSemi : zk_run zcl zft zTT zPF zPB zSUf zLX12 12 false mcX12_readSemi ftX12_readSemi hcX12_readSemi zULf xcX12_readSemi 10 = true := by decide +kernel
theorem gcX12_readSemi {D : zD} {l : Launch} (hD : zWD D) : zCs D l xcX12_readSemi := ⟨tcX12_scan hD, tcX12_fails hD, trivial⟩
theorem tcX12_readSemi {D : zD} {l : Launch} (hD : zWD D) : zC D l mcX12_readSemi := zk_methC ⟨rfl, rfl⟩ hD poolX12 icX12_readSemi jcX12_readSemi ftX12_readSemi_ok (gcX12_readSemi hD) wcX12_readSemi ecX12_readSemi
