/-! METHODS (printed by wip/tools) -/
def ftX3_start : List (Nat × List (Nat × Instr × Nat)) := [(22, [(0, .aload_n 0, 1), (1, .aload_n 0, 1), (2, .getfield 54, 3), (5, .i2l, 1), (6, .putfield 57, 3), (9, .aload_n 0, 1), (10, .iconst 0, 1), (11, .putfield 61, 3), (14, .aload_n 0, 1), (15, .iconst 0, 1), (16, .putfield 64, 3), (19, .aload_n 0, 1), (20, .iconst (-1), 1), (21, .putfield 67, 3)]), (35, [(24, .aload_n 0, 1), (25, .iconst 0, 1), (26, .putfield 70, 3), (29, .aload_n 0, 1), (30, .lconst 0, 1), (31, .putfield 73, 3), (34, .return_, 1)])]
theorem ftX3_start_ok : zk_ftb cX3_start ftX3_start = true := by decide +kernel
def qcX3_start_37 : zQ := ((2, 2), ([(2, 1, 0)], ([(0, 0, 0)], [], [], []), ([(1, 37)], [], [], [], [], [])), [(none, ([(0, 0, 0)], [], [], []), ([], [], [], [], [], []))], ([(37, 5), (37, 9), (37, 10), (37, 11), (37, 12), (37, 13)], []), (0, 0))
def mcX3_start_37 : zM := (yX3_start, cX3_start, 1, none, { frames := 1, cells := 0, slots := 0, locals := 12 }, qcX3_start_37)
def hcX3_start_37 : zH := ([], [], [], [], ([], 0, 0), 1)
theorem jcX3_start_37 : zk_txok RX3 hcX3_start_37.2.2.2.2.1 := zk_txb_ok (p := (0, 0)) (by decide +kernel)
def xcX3_start_37 : List zX := []
theorem wcX3_start_37 : zk_hwsb zcl RX3 mcX3_start_37.rm xcX3_start_37 [] = true := by decide +kernel
theorem icX3_start_37 : zk_idb zcl RX3 3 false mcX3_start_37 = true := by decide +kernel
theorem ecX3_start_37 : zk_run zcl zft zTT zPF zPB zSUf zLX3 3 false mcX3_start_37 ftX3_start hcX3_start_37 zULf xcX3_start_37 23 = true := by decide +kernel
theorem gcX3_start_37 {D : zD} {l : Launch} (hD : zk_wd D zcl zft zTT zPF zPB zSUf zULf) : zCs D l xcX3_start_37 := trivial
theorem tcX3_start_37 {D : zD} {l : Launch} (hD : zk_wd D zcl zft zTT zPF zPB zSUf zULf) : zC D l mcX3_start_37 := zk_methC hD poolX3 icX3_start_37 jcX3_start_37 ftX3_start_ok (gcX3_start_37 hD) wcX3_start_37 ecX3_start_37
def ftX5_start : List (Nat × List (Nat × Instr × Nat)) := [(22, [(0, .aload_n 0, 1), (1, .iload_n 1, 1), (2, .putfield 17, 3), (5, .aload_n 0, 1), (6, .iconst 0, 1), (7, .putfield 21, 3), (10, .aload_n 0, 1), (11, .iconst 0, 1), (12, .putfield 24, 3), (15, .aload_n 0, 1), (16, .getfield 11, 3), (19, .iconst 0, 1), (20, .aaload, 1), (21, .invokevirtual 27, 3)]), (34, [(24, .aload_n 0, 1), (25, .getfield 11, 3), (28, .iconst 1, 1), (29, .aaload, 1), (30, .invokevirtual 27, 3), (33, .return_, 1)])]
theorem ftX5_start_ok : zk_ftb cX5_start ftX5_start = true := by decide +kernel
def qcX5_start_39 : zQ := ((3, 3), ([(2, 1, 0), (0, 2, 0)], ([(0, 0, 0), (2, 5, 2147483647)], [], [], []), ([(1, 39)], [], [], [], [], [])), [(none, ([(0, 0, 0)], [], [], []), ([], [], [], [], [], []))], ([(37, 5), (37, 9), (37, 10), (37, 11), (37, 12), (37, 13), (39, 1), (39, 2), (39, 3)], []), (0, 0))
def mcX5_start_39 : zM := (yX5_start, cX5_start, 2, none, { frames := 2, cells := 0, slots := 0, locals := 32 }, qcX5_start_39)
def hcX5_start_39 : zH := ([], [], [], [], ([], 0, 0), 1)
theorem jcX5_start_39 : zk_txok RX5 hcX5_start_39.2.2.2.2.1 := zk_txb_ok (p := (0, 0)) (by decide +kernel)
def xcX5_start_39 : List zX := [(27, 2, 3, mcX3_start_37)]
theorem wcX5_start_39 : zk_hwsb zcl RX5 mcX5_start_39.rm xcX5_start_39 [(884, 83, 881, 882, 883)] = true := by decide +kernel
theorem icX5_start_39 : zk_idb zcl RX5 5 false mcX5_start_39 = true := by decide +kernel
theorem ecX5_start_39 : zk_run zcl zft zTT zPF zPB zSUf zLX5 5 false mcX5_start_39 ftX5_start hcX5_start_39 zULf xcX5_start_39 22 = true := by decide +kernel
theorem gcX5_start_39 {D : zD} {l : Launch} (hD : zk_wd D zcl zft zTT zPF zPB zSUf zULf) : zCs D l xcX5_start_39 := ⟨tcX3_start_37 hD, trivial⟩
theorem tcX5_start_39 {D : zD} {l : Launch} (hD : zk_wd D zcl zft zTT zPF zPB zSUf zULf) : zC D l mcX5_start_39 := zk_methC hD poolX5 icX5_start_39 jcX5_start_39 ftX5_start_ok (gcX5_start_39 hD) wcX5_start_39 ecX5_start_39
def ftX3_loadLike : List (Nat × List (Nat × Instr × Nat)) := [(24, [(0, .aload_n 0, 1), (1, .aload_n 1, 1), (2, .getfield 36, 3), (5, .putfield 36, 3), (8, .iconst 0, 1), (9, .istore_n 2, 1), (10, .iload_n 2, 1), (11, .aload_n 0, 1), (12, .getfield 36, 3), (15, .if_icmp .ge 21, 3), (18, .aload_n 0, 1), (19, .getfield 9, 3), (22, .iload_n 2, 1), (23, .aload_n 1, 1)]), (50, [(24, .getfield 9, 3), (27, .iload_n 2, 1), (28, .iaload, 1), (29, .iastore, 1), (30, .iinc 2 1, 3), (33, .goto (-23), 3), (36, .aload_n 0, 1), (37, .aload_n 1, 1), (38, .getfield 25, 3), (41, .putfield 25, 3), (44, .aload_n 0, 1), (45, .aload_n 1, 1), (46, .getfield 54, 3), (49, .putfield 54, 3)]), (53, [(52, .return_, 1)])]
theorem ftX3_loadLike_ok : zk_ftb cX3_loadLike ftX3_loadLike = true := by decide +kernel
def qcX3_loadLike_38_37 : zQ := ((3, 3), ([(2, 1, 0), (2, 2, 0)], ([(0, 0, 0)], [], [], []), ([(1, 38), (2, 37)], [], [], [], [], [])), [(none, ([(0, 0, 0)], [], [], []), ([], [], [], [], [], []))], ([(38, 6), (38, 7), (38, 8)], [60]), (0, 0))
def mcX3_loadLike_38_37 : zM := (yX3_loadLike, cX3_loadLike, 3, none, { frames := 1, cells := 0, slots := 0, locals := 12 }, qcX3_loadLike_38_37)
def hcX3_loadLike_38_37 : zH := ([(10, [([(0, (2, 1, 0)), (1, (2, 2, 0)), (2, (0, 3, 0))], [], ([(0, 0, 0), (3, 0, 40), (4, 0, 40)], [(3, 4, 0)], [], []), ([(1, 38), (2, 37)], [(1, 3, 6, (0, 4, 0)), (2, 3, 6, (0, 4, 0))], [], [], [], []), (5, ([(3, (-1))], 40), 0, 0))])], [], [], [], ([], 0, 0), 81)
theorem jcX3_loadLike_38_37 : zk_txok RX3 hcX3_loadLike_38_37.2.2.2.2.1 := zk_txb_ok (p := (0, 0)) (by decide +kernel)
def xcX3_loadLike_38_37 : List zX := []
theorem wcX3_loadLike_38_37 : zk_hwsb zcl RX3 mcX3_loadLike_38_37.rm xcX3_loadLike_38_37 [] = true := by decide +kernel
theorem icX3_loadLike_38_37 : zk_idb zcl RX3 3 false mcX3_loadLike_38_37 = true := by decide +kernel
theorem ecX3_loadLike_38_37 : zk_run zcl zft zTT zPF zPB zSUf zLX3 3 false mcX3_loadLike_38_37 ftX3_loadLike hcX3_loadLike_38_37 zULf xcX3_loadLike_38_37 16 = true := by decide +kernel
theorem gcX3_loadLike_38_37 {D : zD} {l : Launch} (hD : zk_wd D zcl zft zTT zPF zPB zSUf zULf) : zCs D l xcX3_loadLike_38_37 := trivial
theorem tcX3_loadLike_38_37 {D : zD} {l : Launch} (hD : zk_wd D zcl zft zTT zPF zPB zSUf zULf) : zC D l mcX3_loadLike_38_37 := zk_methC hD poolX3 icX3_loadLike_38_37 jcX3_loadLike_38_37 ftX3_loadLike_ok (gcX3_loadLike_38_37 hD) wcX3_loadLike_38_37 ecX3_loadLike_38_37
def ftX12_placeOf : List (Nat × List (Nat × Instr × Nat)) := [(22, [(0, .iconst 0, 1), (1, .istore_n 3, 1), (2, .iload_n 3, 1), (3, .aload_n 0, 1), (4, .getfield 423, 3), (7, .if_icmp .ge 22, 3), (10, .aload_n 0, 1), (11, .getfield 155, 3), (14, .iload_n 3, 1), (15, .laload, 1), (16, .lload_n 1, 1), (17, .lcmp, 1), (18, .ifCond .ne 5, 3), (21, .iload_n 3, 1)]), (31, [(22, .ireturn, 1), (23, .iinc 3 1, 3), (26, .goto (-24), 3), (29, .iconst (-1), 1), (30, .ireturn, 1)])]
theorem ftX12_placeOf_ok : zk_ftb cX12_placeOf ftX12_placeOf = true := by decide +kernel
def qcX12_placeOf : zQ := ((3, 4), ([(2, 1, 0), (1, 2, 0)], ([(0, 0, 0), (2, (-9223372036854775808), 9223372036854775807)], [], [], []), ([(1, 43)], [], [], [], [], [])), [(some (0, 0, (-1)), ([(0, 0, 0)], [], [], []), ([], [], [], [], [], [])), (some (0, 3, 0), ([(0, 0, 0), (3, 0, 79)], [], [], []), ([], [], [], [], [], []))], ([], []), (0, 0))
def mcX12_placeOf : zM := (yX12_placeOf, cX12_placeOf, 4, (some .int), { frames := 1, cells := 0, slots := 0, locals := 12 }, qcX12_placeOf)
def hcX12_placeOf : zH := ([(2, [([(0, (2, 1, 0)), (1, (1, 2, 0)), (3, (0, 3, 0))], [], ([(0, 0, 0), (3, 0, 80), (2, (-9223372036854775808), 9223372036854775807)], [], [], []), ([(1, 43)], [], [], [], [], []), (4, ([(3, (-1))], 80), 0, 0))])], [], [], [], ([], 0, 0), 161)
theorem jcX12_placeOf : zk_txok RX12 hcX12_placeOf.2.2.2.2.1 := zk_txb_ok (p := (0, 0)) (by decide +kernel)
def xcX12_placeOf : List zX := []
theorem wcX12_placeOf : zk_hwsb zcl RX12 mcX12_placeOf.rm xcX12_placeOf [] = true := by decide +kernel
theorem icX12_placeOf : zk_idb zcl RX12 12 false mcX12_placeOf = true := by decide +kernel
theorem ecX12_placeOf : zk_run zcl zft zTT zPF zPB zSUf zLX12 12 false mcX12_placeOf ftX12_placeOf hcX12_placeOf zULf xcX12_placeOf 15 = true := by decide +kernel
theorem gcX12_placeOf {D : zD} {l : Launch} (hD : zk_wd D zcl zft zTT zPF zPB zSUf zULf) : zCs D l xcX12_placeOf := trivial
theorem tcX12_placeOf {D : zD} {l : Launch} (hD : zk_wd D zcl zft zTT zPF zPB zSUf zULf) : zC D l mcX12_placeOf := zk_methC hD poolX12 icX12_placeOf jcX12_placeOf ftX12_placeOf_ok (gcX12_placeOf hD) wcX12_placeOf ecX12_placeOf
def ftX0_agreeingLists : List (Nat × List (Nat × Instr × Nat)) := [(22, [(0, .iconst 0, 1), (1, .istore_n 1, 1), (2, .iconst 0, 1), (3, .istore_n 2, 1), (4, .iload_n 2, 1), (5, .aload_n 0, 1), (6, .getfield 75, 3), (9, .if_icmp .ge 21, 3), (12, .aload_n 0, 1), (13, .getfield 9, 3), (16, .iload_n 2, 1), (17, .iaload, 1), (18, .ifCond .le 6, 3), (21, .iinc 1 1, 3)]), (32, [(24, .iinc 2 1, 3), (27, .goto (-23), 3), (30, .iload_n 1, 1), (31, .ireturn, 1)])]
theorem ftX0_agreeingLists_ok : zk_ftb cX0_agreeingLists ftX0_agreeingLists = true := by decide +kernel
def qcX0_agreeingLists : zQ := ((2, 3), ([(2, 1, 0)], ([(0, 0, 0)], [], [], []), ([(1, 41)], [], [], [], [], [])), [(some (0, 2, 0), ([(0, 0, 0), (2, (-2147483648), 2147483647)], [], [], []), ([], [], [], [], [], []))], ([], []), (0, 0))
def mcX0_agreeingLists : zM := (yX0_agreeingLists, cX0_agreeingLists, 3, (some .int), { frames := 1, cells := 0, slots := 0, locals := 12 }, qcX0_agreeingLists)
def hcX0_agreeingLists : zH := ([(4, [([(0, (2, 1, 0)), (1, (0, 2, 0)), (2, (0, 3, 0))], [], ([(0, 0, 0), (3, 0, 256)], [], [], []), ([(1, 41)], [], [], [], [], []), (4, ([(3, (-1))], 256), 0, 0))])], [], [(31, [(3, 0, 0)])], [], ([], 0, 0), 513)
theorem jcX0_agreeingLists : zk_txok RX0 hcX0_agreeingLists.2.2.2.2.1 := zk_txb_ok (p := (0, 0)) (by decide +kernel)
def xcX0_agreeingLists : List zX := []
theorem wcX0_agreeingLists : zk_hwsb zcl RX0 mcX0_agreeingLists.rm xcX0_agreeingLists [] = true := by decide +kernel
theorem icX0_agreeingLists : zk_idb zcl RX0 0 false mcX0_agreeingLists = true := by decide +kernel
theorem ecX0_agreeingLists : zk_run zcl zft zTT zPF zPB zSUf zLX0 0 false mcX0_agreeingLists ftX0_agreeingLists hcX0_agreeingLists zULf xcX0_agreeingLists 14 = true := by decide +kernel
theorem gcX0_agreeingLists {D : zD} {l : Launch} (hD : zk_wd D zcl zft zTT zPF zPB zSUf zULf) : zCs D l xcX0_agreeingLists := trivial
theorem tcX0_agreeingLists {D : zD} {l : Launch} (hD : zk_wd D zcl zft zTT zPF zPB zSUf zULf) : zC D l mcX0_agreeingLists := zk_methC hD poolX0 icX0_agreeingLists jcX0_agreeingLists ftX0_agreeingLists_ok (gcX0_agreeingLists hD) wcX0_agreeingLists ecX0_agreeingLists
def ftX0_leastList : List (Nat × List (Nat × Instr × Nat)) := [(22, [(0, .iconst 0, 1), (1, .istore_n 1, 1), (2, .iload_n 1, 1), (3, .aload_n 0, 1), (4, .getfield 75, 3), (7, .if_icmp .ge 20, 3), (10, .aload_n 0, 1), (11, .getfield 9, 3), (14, .iload_n 1, 1), (15, .iaload, 1), (16, .ifCond .le 5, 3), (19, .iload_n 1, 1), (20, .ireturn, 1), (21, .iinc 1 1, 3)]), (29, [(24, .goto (-22), 3), (27, .iconst (-1), 1), (28, .ireturn, 1)])]
theorem ftX0_leastList_ok : zk_ftb cX0_leastList ftX0_leastList = true := by decide +kernel
def qcX0_leastList : zQ := ((2, 3), ([(2, 1, 0)], ([(0, 0, 0)], [], [], []), ([(1, 41)], [], [], [], [], [])), [(some (0, 0, (-1)), ([(0, 0, 0)], [], [], []), ([], [], [], [], [], [])), (some (0, 2, 0), ([(0, 0, 0), (2, 0, 255)], [], [], []), ([], [], [], [], [], []))], ([], []), (0, 0))
def mcX0_leastList : zM := (yX0_leastList, cX0_leastList, 2, (some .int), { frames := 1, cells := 0, slots := 0, locals := 12 }, qcX0_leastList)
def hcX0_leastList : zH := ([(2, [([(0, (2, 1, 0)), (1, (0, 2, 0))], [], ([(0, 0, 0), (2, 0, 256)], [], [], []), ([(1, 41)], [], [], [], [], []), (3, ([(2, (-1))], 256), 0, 0))])], [], [], [], ([], 0, 0), 513)
theorem jcX0_leastList : zk_txok RX0 hcX0_leastList.2.2.2.2.1 := zk_txb_ok (p := (0, 0)) (by decide +kernel)
def xcX0_leastList : List zX := []
theorem wcX0_leastList : zk_hwsb zcl RX0 mcX0_leastList.rm xcX0_leastList [] = true := by decide +kernel
theorem icX0_leastList : zk_idb zcl RX0 0 false mcX0_leastList = true := by decide +kernel
theorem ecX0_leastList : zk_run zcl zft zTT zPF zPB zSUf zLX0 0 false mcX0_leastList ftX0_leastList hcX0_leastList zULf xcX0_leastList 13 = true := by decide +kernel
theorem gcX0_leastList {D : zD} {l : Launch} (hD : zk_wd D zcl zft zTT zPF zPB zSUf zULf) : zCs D l xcX0_leastList := trivial
theorem tcX0_leastList {D : zD} {l : Launch} (hD : zk_wd D zcl zft zTT zPF zPB zSUf zULf) : zC D l mcX0_leastList := zk_methC hD poolX0 icX0_leastList jcX0_leastList ftX0_leastList_ok (gcX0_leastList hD) wcX0_leastList ecX0_leastList
def ftX0_isEven : List (Nat × List (Nat × Instr × Nat)) := [(22, [(0, .aload_n 0, 1), (1, .invokevirtual 123, 3), (4, .istore_n 1, 1), (5, .iconst 0, 1), (6, .istore_n 2, 1), (7, .iload_n 2, 1), (8, .aload_n 0, 1), (9, .getfield 75, 3), (12, .if_icmp .ge 40, 3), (15, .iload_n 1, 1), (16, .iconst (-1), 1), (17, .if_icmp .eq 35, 3), (20, .aload_n 0, 1), (21, .getfield 9, 3)]), (46, [(24, .iload_n 2, 1), (25, .iaload, 1), (26, .ifCond .le 20, 3), (29, .aload_n 0, 1), (30, .getfield 9, 3), (33, .iload_n 2, 1), (34, .iaload, 1), (35, .aload_n 0, 1), (36, .getfield 9, 3), (39, .iload_n 1, 1), (40, .iaload, 1), (41, .if_icmp .eq 5, 3), (44, .iconst 0, 1), (45, .ireturn, 1)]), (54, [(46, .iinc 2 1, 3), (49, .goto (-42), 3), (52, .iconst 1, 1), (53, .ireturn, 1)])]
theorem ftX0_isEven_ok : zk_ftb cX0_isEven ftX0_isEven = true := by decide +kernel
def qcX0_isEven : zQ := ((2, 2), ([(2, 1, 0)], ([(0, 0, 0)], [], [], []), ([(1, 41)], [], [], [], [], [])), [(some (0, 0, 0), ([(0, 0, 0)], [], [], []), ([], [], [], [], [], [])), (some (0, 0, 1), ([(0, 0, 0)], [], [], []), ([], [], [], [], [], []))], ([], []), (0, 0))
def mcX0_isEven : zM := (yX0_isEven, cX0_isEven, 3, (some .boolean), { frames := 2, cells := 0, slots := 0, locals := 33 }, qcX0_isEven)
def hcX0_isEven : zH := ([(7, [([(0, (2, 1, 0)), (1, (0, 2, 0)), (2, (0, 3, 0))], [], ([(0, 0, 0), (2, (-1), 255), (3, 0, 256)], [], [], []), ([(1, 41)], [], [], [], [], []), (4, ([(3, (-1))], 256), 0, 0))])], [], [], [], ([], 0, 0), 513)
theorem jcX0_isEven : zk_txok RX0 hcX0_isEven.2.2.2.2.1 := zk_txb_ok (p := (0, 0)) (by decide +kernel)
def xcX0_isEven : List zX := [(123, 2, 0, mcX0_leastList)]
theorem wcX0_isEven : zk_hwsb zcl RX0 mcX0_isEven.rm xcX0_isEven [(1016, 85, 1013, 1014, 1015)] = true := by decide +kernel
theorem icX0_isEven : zk_idb zcl RX0 0 false mcX0_isEven = true := by decide +kernel
theorem ecX0_isEven : zk_run zcl zft zTT zPF zPB zSUf zLX0 0 false mcX0_isEven ftX0_isEven hcX0_isEven zULf xcX0_isEven 25 = true := by decide +kernel
theorem gcX0_isEven {D : zD} {l : Launch} (hD : zk_wd D zcl zft zTT zPF zPB zSUf zULf) : zCs D l xcX0_isEven := ⟨tcX0_leastList hD, trivial⟩
theorem tcX0_isEven {D : zD} {l : Launch} (hD : zk_wd D zcl zft zTT zPF zPB zSUf zULf) : zC D l mcX0_isEven := zk_methC hD poolX0 icX0_isEven jcX0_isEven ftX0_isEven_ok (gcX0_isEven hD) wcX0_isEven ecX0_isEven
def ftX0_pairs : List (Nat × List (Nat × Instr × Nat)) := [(20, [(0, .iconst 0, 1), (1, .istore_n 1, 1), (2, .iconst 0, 1), (3, .istore_n 2, 1), (4, .iload_n 2, 1), (5, .aload_n 0, 1), (6, .getfield 75, 3), (9, .if_icmp .ge 18, 3), (12, .iload_n 1, 1), (13, .aload_n 0, 1), (14, .getfield 9, 3), (17, .iload_n 2, 1), (18, .iaload, 1), (19, .iadd, 1)]), (29, [(20, .istore_n 1, 1), (21, .iinc 2 1, 3), (24, .goto (-20), 3), (27, .iload_n 1, 1), (28, .ireturn, 1)])]
theorem ftX0_pairs_ok : zk_ftb cX0_pairs ftX0_pairs = true := by decide +kernel
def qcX0_pairs : zQ := ((2, 3), ([(2, 1, 0)], ([(0, 0, 0)], [], [], []), ([(1, 41)], [], [], [], [], [])), [(some (0, 2, 0), ([(0, 0, 0), (2, (-2147483648), 2147483647)], [], [], []), ([], [], [], [], [], []))], ([], []), (0, 0))
def mcX0_pairs : zM := (yX0_pairs, cX0_pairs, 3, (some .int), { frames := 1, cells := 0, slots := 0, locals := 12 }, qcX0_pairs)
def hcX0_pairs : zH := ([(4, [([(0, (2, 1, 0)), (1, (0, 2, 0)), (2, (0, 3, 0))], [], ([(0, 0, 0), (2, (-2147483648), 2147483647), (3, 0, 256)], [], [], []), ([(1, 41)], [], [], [], [], []), (4, ([(3, (-1))], 256), 0, 0))])], [], [], [], ([], 0, 0), 513)
theorem jcX0_pairs : zk_txok RX0 hcX0_pairs.2.2.2.2.1 := zk_txb_ok (p := (0, 0)) (by decide +kernel)
def xcX0_pairs : List zX := []
theorem wcX0_pairs : zk_hwsb zcl RX0 mcX0_pairs.rm xcX0_pairs [] = true := by decide +kernel
theorem icX0_pairs : zk_idb zcl RX0 0 false mcX0_pairs = true := by decide +kernel
theorem ecX0_pairs : zk_run zcl zft zTT zPF zPB zSUf zLX0 0 false mcX0_pairs ftX0_pairs hcX0_pairs zULf xcX0_pairs 15 = true := by decide +kernel
theorem gcX0_pairs {D : zD} {l : Launch} (hD : zk_wd D zcl zft zTT zPF zPB zSUf zULf) : zCs D l xcX0_pairs := trivial
theorem tcX0_pairs {D : zD} {l : Launch} (hD : zk_wd D zcl zft zTT zPF zPB zSUf zULf) : zC D l mcX0_pairs := zk_methC hD poolX0 icX0_pairs jcX0_pairs ftX0_pairs_ok (gcX0_pairs hD) wcX0_pairs ecX0_pairs
def ftX12_mix : List (Nat × List (Nat × Instr × Nat)) := [(21, [(0, .iconst 1, 1), (1, .istore_n 2, 1), (2, .iload_n 2, 1), (3, .aload_n 0, 1), (4, .getfield 92, 3), (7, .iload_n 1, 1), (8, .iaload, 1), (9, .if_icmp .ge 92, 3), (12, .aload_n 0, 1), (13, .getfield 89, 3), (16, .bipush 64, 2), (18, .iload_n 1, 1), (19, .imul, 1), (20, .iload_n 2, 1)]), (43, [(21, .iadd, 1), (22, .iaload, 1), (23, .istore_n 3, 1), (24, .iload_n 2, 1), (25, .istore 4, 2), (27, .iload 4, 2), (29, .ifCond .le 53, 3), (32, .aload_n 0, 1), (33, .getfield 89, 3), (36, .bipush 64, 2), (38, .iload_n 1, 1), (39, .imul, 1), (40, .iload 4, 2), (42, .iadd, 1)]), (63, [(43, .iconst 1, 1), (44, .isub, 1), (45, .iaload, 1), (46, .iload_n 3, 1), (47, .if_icmp .le 35, 3), (50, .aload_n 0, 1), (51, .getfield 89, 3), (54, .bipush 64, 2), (56, .iload_n 1, 1), (57, .imul, 1), (58, .iload 4, 2), (60, .iadd, 1), (61, .aload_n 0, 1), (62, .getfield 89, 3)]), (87, [(65, .bipush 64, 2), (67, .iload_n 1, 1), (68, .imul, 1), (69, .iload 4, 2), (71, .iadd, 1), (72, .iconst 1, 1), (73, .isub, 1), (74, .iaload, 1), (75, .iastore, 1), (76, .iinc 4 (-1), 3), (79, .goto (-52), 3), (82, .aload_n 0, 1), (83, .getfield 89, 3), (86, .bipush 64, 2)]), (102, [(88, .iload_n 1, 1), (89, .imul, 1), (90, .iload 4, 2), (92, .iadd, 1), (93, .iload_n 3, 1), (94, .iastore, 1), (95, .iinc 2 1, 3), (98, .goto (-96), 3), (101, .return_, 1)])]
theorem ftX12_mix_ok : zk_ftb cX12_mix ftX12_mix = true := by decide +kernel
def qcX12_mix : zQ := ((3, 3), ([(2, 1, 0), (0, 2, 0)], ([(0, 0, 0), (2, 0, 15)], [], [], []), ([(1, 43)], [], [], [], [], [])), [(none, ([(0, 0, 0)], [], [], []), ([], [], [], [], [], []))], ([], [97]), (0, 0))
def mcX12_mix : zM := (yX12_mix, cX12_mix, 5, none, { frames := 1, cells := 0, slots := 0, locals := 12 }, qcX12_mix)
def hcX12_mix : zH := ([(2, [([(0, (2, 1, 0)), (1, (0, 2, 0)), (2, (0, 3, 0))], [], ([(0, 0, 0), (3, 1, 60), (2, 0, 15)], [], [], []), ([(1, 43)], [], [], [], [], []), (4, ([(3, (-120))], 7260), 0, 0))]), (27, [([(0, (2, 1, 0)), (1, (0, 2, 0)), (2, (0, 3, 0)), (3, (0, 4, 0)), (4, (0, 5, 0))], [], ([(0, 0, 0), (3, 1, 59), (4, (-2147483648), 2147483647), (5, 0, 59), (2, 0, 15)], [(5, 3, 0)], [], []), ([(6, 97), (7, 98), (1, 43)], [(1, 12, 38, (2, 6, 0)), (1, 12, 39, (2, 7, 0))], [], [], [], []), (8, ([(3, (-120)), (5, 1)], 7200), 0, 0))])], [], [], [], ([], 0, 0), 14461)
theorem jcX12_mix : zk_txok RX12 hcX12_mix.2.2.2.2.1 := zk_txb_ok (p := (0, 0)) (by decide +kernel)
def xcX12_mix : List zX := []
theorem wcX12_mix : zk_hwsb zcl RX12 mcX12_mix.rm xcX12_mix [] = true := by decide +kernel
theorem icX12_mix : zk_idb zcl RX12 12 false mcX12_mix = true := by decide +kernel
theorem ecX12_mix : zk_run zcl zft zTT zPF zPB zSUf zLX12 12 false mcX12_mix ftX12_mix hcX12_mix zULf xcX12_mix 36 = true := by decide +kernel
theorem gcX12_mix {D : zD} {l : Launch} (hD : zk_wd D zcl zft zTT zPF zPB zSUf zULf) : zCs D l xcX12_mix := trivial
theorem tcX12_mix {D : zD} {l : Launch} (hD : zk_wd D zcl zft zTT zPF zPB zSUf zULf) : zC D l mcX12_mix := zk_methC hD poolX12 icX12_mix jcX12_mix ftX12_mix_ok (gcX12_mix hD) wcX12_mix ecX12_mix
def ftX10_linesToLastSentBy : List (Nat × List (Nat × Instr × Nat)) := [(22, [(0, .aload_n 0, 1), (1, .getfield 31, 3), (4, .istore_n 2, 1), (5, .iload_n 2, 1), (6, .ifCond .le 33, 3), (9, .aload_n 0, 1), (10, .getfield 9, 3), (13, .iload_n 2, 1), (14, .iconst 1, 1), (15, .isub, 1), (16, .iaload, 1), (17, .iload_n 1, 1), (18, .if_icmp .ne 15, 3), (21, .aload_n 0, 1)]), (41, [(22, .getfield 15, 3), (25, .iload_n 2, 1), (26, .iconst 1, 1), (27, .isub, 1), (28, .iaload, 1), (29, .iconst 3, 1), (30, .if_icmp .eq 9, 3), (33, .iinc 2 (-1), 3), (36, .goto (-31), 3), (39, .iload_n 2, 1), (40, .ireturn, 1)])]
theorem ftX10_linesToLastSentBy_ok : zk_ftb cX10_linesToLastSentBy ftX10_linesToLastSentBy = true := by decide +kernel
def qcX10_linesToLastSentBy : zQ := ((3, 4), ([(2, 1, 0), (0, 2, 0)], ([(0, 0, 0), (2, 0, 1)], [], [], []), ([(1, 33)], [], [], [], [], [])), [(some (0, 3, 0), ([(0, 0, 0), (3, 0, 30)], [], [], []), ([], [], [], [], [], []))], ([], []), (0, 0))
def mcX10_linesToLastSentBy : zM := (yX10_linesToLastSentBy, cX10_linesToLastSentBy, 3, (some .int), { frames := 1, cells := 0, slots := 0, locals := 12 }, qcX10_linesToLastSentBy)
def hcX10_linesToLastSentBy : zH := ([(5, [([(0, (2, 1, 0)), (1, (0, 2, 0)), (2, (0, 3, 0))], [], ([(0, 0, 0), (3, 0, 30), (4, 0, 30), (2, 0, 1)], [(3, 4, 0)], [], []), ([(1, 33)], [(1, 10, 6, (0, 4, 0))], [], [], [], []), (5, ([(3, 1)], 0), 0, 0))])], [], [], [], ([], 0, 0), 31)
theorem jcX10_linesToLastSentBy : zk_txok RX10 hcX10_linesToLastSentBy.2.2.2.2.1 := zk_txb_ok (p := (0, 0)) (by decide +kernel)
def xcX10_linesToLastSentBy : List zX := []
theorem wcX10_linesToLastSentBy : zk_hwsb zcl RX10 mcX10_linesToLastSentBy.rm xcX10_linesToLastSentBy [] = true := by decide +kernel
theorem icX10_linesToLastSentBy : zk_idb zcl RX10 10 false mcX10_linesToLastSentBy = true := by decide +kernel
theorem ecX10_linesToLastSentBy : zk_run zcl zft zTT zPF zPB zSUf zLX10 10 false mcX10_linesToLastSentBy ftX10_linesToLastSentBy hcX10_linesToLastSentBy zULf xcX10_linesToLastSentBy 22 = true := by decide +kernel
theorem gcX10_linesToLastSentBy {D : zD} {l : Launch} (hD : zk_wd D zcl zft zTT zPF zPB zSUf zULf) : zCs D l xcX10_linesToLastSentBy := trivial
theorem tcX10_linesToLastSentBy {D : zD} {l : Launch} (hD : zk_wd D zcl zft zTT zPF zPB zSUf zULf) : zC D l mcX10_linesToLastSentBy := zk_methC hD poolX10 icX10_linesToLastSentBy jcX10_linesToLastSentBy ftX10_linesToLastSentBy_ok (gcX10_linesToLastSentBy hD) wcX10_linesToLastSentBy ecX10_linesToLastSentBy
def ftX0_agreeingListsWith : List (Nat × List (Nat × Instr × Nat)) := [(22, [(0, .iconst 0, 1), (1, .istore_n 2, 1), (2, .iconst 0, 1), (3, .istore_n 3, 1), (4, .iload_n 3, 1), (5, .aload_n 0, 1), (6, .getfield 75, 3), (9, .if_icmp .ge 30, 3), (12, .aload_n 0, 1), (13, .getfield 9, 3), (16, .iload_n 3, 1), (17, .iaload, 1), (18, .ifCond .le 15, 3), (21, .iload_n 3, 1)]), (41, [(22, .iload_n 1, 1), (23, .iushr, 1), (24, .iconst 1, 1), (25, .iand, 1), (26, .iconst 1, 1), (27, .if_icmp .ne 6, 3), (30, .iinc 2 1, 3), (33, .iinc 3 1, 3), (36, .goto (-32), 3), (39, .iload_n 2, 1), (40, .ireturn, 1)])]
theorem ftX0_agreeingListsWith_ok : zk_ftb cX0_agreeingListsWith ftX0_agreeingListsWith = true := by decide +kernel
def qcX0_agreeingListsWith : zQ := ((3, 4), ([(2, 1, 0), (0, 2, 0)], ([(0, 0, 0), (2, 0, 79)], [], [], []), ([(1, 41)], [], [], [], [], [])), [(some (0, 3, 0), ([(0, 0, 0), (3, (-2147483648), 2147483647)], [], [], []), ([], [], [], [], [], []))], ([], []), (0, 0))
def mcX0_agreeingListsWith : zM := (yX0_agreeingListsWith, cX0_agreeingListsWith, 4, (some .int), { frames := 1, cells := 0, slots := 0, locals := 12 }, qcX0_agreeingListsWith)
def hcX0_agreeingListsWith : zH := ([(4, [([(0, (2, 1, 0)), (1, (0, 2, 0)), (2, (0, 3, 0)), (3, (0, 4, 0))], [], ([(0, 0, 0), (4, 0, 256), (2, 0, 79)], [], [], []), ([(1, 41)], [], [], [], [], []), (5, ([(4, (-1))], 256), 0, 0))])], [], [(40, [(3, 0, 0)])], [], ([], 0, 0), 513)
theorem jcX0_agreeingListsWith : zk_txok RX0 hcX0_agreeingListsWith.2.2.2.2.1 := zk_txb_ok (p := (0, 0)) (by decide +kernel)
def xcX0_agreeingListsWith : List zX := []
theorem wcX0_agreeingListsWith : zk_hwsb zcl RX0 mcX0_agreeingListsWith.rm xcX0_agreeingListsWith [] = true := by decide +kernel
theorem icX0_agreeingListsWith : zk_idb zcl RX0 0 false mcX0_agreeingListsWith = true := by decide +kernel
theorem ecX0_agreeingListsWith : zk_run zcl zft zTT zPF zPB zSUf zLX0 0 false mcX0_agreeingListsWith ftX0_agreeingListsWith hcX0_agreeingListsWith zULf xcX0_agreeingListsWith 21 = true := by decide +kernel
theorem gcX0_agreeingListsWith {D : zD} {l : Launch} (hD : zk_wd D zcl zft zTT zPF zPB zSUf zULf) : zCs D l xcX0_agreeingListsWith := trivial
theorem tcX0_agreeingListsWith {D : zD} {l : Launch} (hD : zk_wd D zcl zft zTT zPF zPB zSUf zULf) : zC D l mcX0_agreeingListsWith := zk_methC hD poolX0 icX0_agreeingListsWith jcX0_agreeingListsWith ftX0_agreeingListsWith_ok (gcX0_agreeingListsWith hD) wcX0_agreeingListsWith ecX0_agreeingListsWith
def ftX0_loadKnown : List (Nat × List (Nat × Instr × Nat)) := [(23, [(0, .aload_n 0, 1), (1, .iconst 1, 1), (2, .putfield 75, 3), (5, .iconst 0, 1), (6, .istore_n 3, 1), (7, .iload_n 3, 1), (8, .aload_n 1, 1), (9, .getfield 86, 3), (12, .if_icmp .ge 41, 3), (15, .iload_n 3, 1), (16, .bipush 8, 2), (18, .if_icmp .ge 35, 3), (21, .aload_n 0, 1), (22, .getfield 15, 3)]), (45, [(25, .iload_n 3, 1), (26, .aload_n 1, 1), (27, .getfield 91, 3), (30, .iload_n 3, 1), (31, .laload, 1), (32, .iload_n 2, 1), (33, .invokestatic 95, 3), (36, .iastore, 1), (37, .aload_n 0, 1), (38, .dup, 1), (39, .getfield 75, 3), (42, .iconst 2, 1), (43, .imul, 1), (44, .putfield 75, 3)]), (71, [(47, .iinc 3 1, 3), (50, .goto (-43), 3), (53, .iconst 0, 1), (54, .istore_n 3, 1), (55, .iload_n 3, 1), (56, .aload_n 0, 1), (57, .getfield 75, 3), (60, .if_icmp .ge 16, 3), (63, .aload_n 0, 1), (64, .getfield 9, 3), (67, .iload_n 3, 1), (68, .iconst 0, 1), (69, .iastore, 1), (70, .iinc 3 1, 3)]), (77, [(73, .goto (-18), 3), (76, .return_, 1)])]
theorem ftX0_loadKnown_ok : zk_ftb cX0_loadKnown ftX0_loadKnown = true := by decide +kernel
def qcX0_loadKnown : zQ := ((4, 4), ([(2, 1, 0), (2, 2, 0), (0, 3, 0)], ([(0, 0, 0), (3, 0, 2147483647)], [], [], []), ([(1, 41), (2, 31)], [], [], [], [], [])), [(none, ([(0, 0, 0)], [], [], []), ([], [], [], [], [], []))], ([(41, 5)], [66, 67]), (0, 0))
def mcX0_loadKnown : zM := (yX0_loadKnown, cX0_loadKnown, 4, none, { frames := 3, cells := 0, slots := 0, locals := 60 }, qcX0_loadKnown)
def hcX0_loadKnown : zH := ([(55, [([(0, (2, 1, 0)), (3, (0, 4, 0))], [], ([(0, 0, 0), (4, 0, 256), (5, 1, 256), (6, 0, 80), (3, 0, 2147483647)], [(4, 5, 0), (5, 6, 248), (6, 5, (-1))], [], []), ([(1, 41), (2, 31)], [(1, 0, 5, (0, 5, 0)), (2, 4, 5, (0, 6, 0))], [], [], [], []), (7, ([(4, (-1))], 256), 0, 0))])], [], [], [], ([], 0, 0), 513)
theorem jcX0_loadKnown : zk_txok RX0 hcX0_loadKnown.2.2.2.2.1 := zk_txb_ok (p := (0, 0)) (by decide +kernel)
def xcX0_loadKnown : List zX := [(95, 1, 0, mcX11_numberOf)]
theorem wcX0_loadKnown : zk_hwsb zcl RX0 mcX0_loadKnown.rm xcX0_loadKnown [(820, 75, 0, 819, 0)] = true := by decide +kernel
theorem icX0_loadKnown : zk_idb zcl RX0 0 false mcX0_loadKnown = true := by decide +kernel
theorem ecX0_loadKnown : zk_run zcl zft zTT zPF zPB zSUf zLX0 0 false mcX0_loadKnown ftX0_loadKnown hcX0_loadKnown zULf xcX0_loadKnown 216 = true := by decide +kernel
theorem gcX0_loadKnown {D : zD} {l : Launch} (hD : zk_wd D zcl zft zTT zPF zPB zSUf zULf) : zCs D l xcX0_loadKnown := ⟨tcX11_numberOf hD, trivial⟩
theorem tcX0_loadKnown {D : zD} {l : Launch} (hD : zk_wd D zcl zft zTT zPF zPB zSUf zULf) : zC D l mcX0_loadKnown := zk_methC hD poolX0 icX0_loadKnown jcX0_loadKnown ftX0_loadKnown_ok (gcX0_loadKnown hD) wcX0_loadKnown ecX0_loadKnown
