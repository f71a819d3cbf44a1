/-! METHODS (printed by wip/t6) -/
def ftX0_pairs : List (Nat × List (Nat × Instr × Nat)) := [(20, [(0, .iconst 0, 1), (1, .istore_n 1, 1), (2, .iconst 0, 1), (3, .istore_n 2, 1), (4, .iload_n 2, 1), (5, .aload_n 0, 1), (6, .getfield 75, 3), (9, .if_icmp .ge 18, 3), (12, .iload_n 1, 1), (13, .aload_n 0, 1), (14, .getfield 9, 3), (17, .iload_n 2, 1), (18, .iaload, 1), (19, .iadd, 1)]), (29, [(20, .istore_n 1, 1), (21, .iinc 2 1, 3), (24, .goto (-20), 3), (27, .iload_n 1, 1), (28, .ireturn, 1)])]
theorem ftX0_pairs_ok : zk_ftb cX0_pairs ftX0_pairs = true := by decide +kernel
def qcX0_pairs : zQ := ((2, 3), ([(2, 1, 0)], ([(0, 0, 0)], [], [], []), ([(1, 41)], [], [], [], [], [])), [(some (0, 2, 0), ([(0, 0, 0), (2, (-2147483648), 2147483647)], [], [], []), ([], [], [], [], [], []))], ([], []), (0, 0))
def mcX0_pairs : zM := (yX0_pairs, cX0_pairs, 3, (some .int), { frames := 1, cells := 0, slots := 0, locals := 12 }, qcX0_pairs)
def hcX0_pairs : zH := ([(4, [([(0, (2, 1, 0)), (1, (0, 2, 0)), (2, (0, 3, 0))], [], ([(0, 0, 0), (2, (-2147483648), 2147483647), (3, 0, 256)], [], [], []), ([(1, 41)], [], [], [], [], []), (4, ([(3, (-1))], 256), 0, 0))])], [], [], [], ([], 0, 0), 513)
theorem jcX0_pairs : zk_txok RX0 hcX0_pairs.2.2.2.2.1 := zk_txb_ok (p := (0, 0)) (by decide +kernel)
def xcX0_pairs : List zX := []
theorem wcX0_pairs : zk_hwsb zcl RX0 mcX0_pairs.rm xcX0_pairs [] = true := by decide +kernel
theorem icX0_pairs : zk_idb zcl RX0 0 false mcX0_pairs = true := by decide +kernel
theorem ecX0_pairs : zk_run zcl zft zTT zPF zPB zSUf zLX0 0 false mcX0_pairs ftX0_pairs hcX0_pairs zULf xcX0_pairs 15 = true := by decide +kernel
theorem gcX0_pairs {D : zD} {l : Launch} (hD : zWD D) : zCs D l xcX0_pairs := trivial
theorem tcX0_pairs {D : zD} {l : Launch} (hD : zWD D) : zC D l mcX0_pairs := zk_methC ⟨rfl, rfl⟩ hD poolX0 icX0_pairs jcX0_pairs ftX0_pairs_ok (gcX0_pairs hD) wcX0_pairs ecX0_pairs
def ftX10_onlyTells : List (Nat × List (Nat × Instr × Nat)) := [(24, [(0, .aload_n 0, 1), (1, .getfield 15, 3), (4, .iload_n 1, 1), (5, .iaload, 1), (6, .bipush 6, 2), (8, .if_icmp .eq 14, 3), (11, .aload_n 0, 1), (12, .getfield 15, 3), (15, .iload_n 1, 1), (16, .iaload, 1), (17, .bipush 7, 2), (19, .if_icmp .ne 7, 3), (22, .iconst 1, 1), (23, .goto 4, 3)]), (28, [(26, .iconst 0, 1), (27, .ireturn, 1)])]
theorem ftX10_onlyTells_ok : zk_ftb cX10_onlyTells ftX10_onlyTells = true := by decide +kernel
def qcX10_onlyTells : zQ := ((3, 3), ([(2, 1, 0), (0, 2, 0)], ([(0, 0, 0), (2, 0, 29)], [], [], []), ([(1, 33)], [], [], [], [], [])), [(some (0, 0, 0), ([(0, 0, 0)], [], [], []), ([], [], [], [], [], [])), (some (0, 0, 1), ([(0, 0, 0)], [], [], []), ([], [], [], [], [], []))], ([], []), (0, 0))
def mcX10_onlyTells : zM := (yX10_onlyTells, cX10_onlyTells, 2, (some .boolean), { frames := 1, cells := 0, slots := 0, locals := 12 }, qcX10_onlyTells)
def hcX10_onlyTells : zH := ([], [], [], [], ([], 0, 0), 1)
theorem jcX10_onlyTells : zk_txok RX10 hcX10_onlyTells.2.2.2.2.1 := zk_txb_ok (p := (0, 0)) (by decide +kernel)
def xcX10_onlyTells : List zX := []
theorem wcX10_onlyTells : zk_hwsb zcl RX10 mcX10_onlyTells.rm xcX10_onlyTells [] = true := by decide +kernel
theorem icX10_onlyTells : zk_idb zcl RX10 10 false mcX10_onlyTells = true := by decide +kernel
theorem ecX10_onlyTells : zk_run zcl zft zTT zPF zPB zSUf zLX10 10 false mcX10_onlyTells ftX10_onlyTells hcX10_onlyTells zULf xcX10_onlyTells 17 = true := by decide +kernel
theorem gcX10_onlyTells {D : zD} {l : Launch} (hD : zWD D) : zCs D l xcX10_onlyTells := trivial
theorem tcX10_onlyTells {D : zD} {l : Launch} (hD : zWD D) : zC D l mcX10_onlyTells := zk_methC ⟨rfl, rfl⟩ hD poolX10 icX10_onlyTells jcX10_onlyTells ftX10_onlyTells_ok (gcX10_onlyTells hD) wcX10_onlyTells ecX10_onlyTells
def qcX5_make_40_36 : zQ := ((4, 4), ([(2, 1, 0), (0, 2, 0), (2, 3, 0)], ([(0, 0, 0), (2, 0, 1)], [], [], []), ([(1, 40), (3, 36)], [], [], [], [], [])), [(none, ([(0, 0, 0)], [], [], []), ([], [], [], [], [], []))], ([(36, 1), (36, 2), (36, 3), (36, 4)], [59]), (0, 0))
def mcX5_make_40_36 : zM := (yX5_make, cX5_make, 5, none, { frames := 2, cells := 0, slots := 0, locals := 33 }, qcX5_make_40_36)
def hcX5_make_40_36 : zH := ([(15, [([(2, (2, 3, 0)), (3, (2, 4, 0)), (4, (0, 5, 0))], [], ([(0, 0, 0), (5, 0, 40), (2, 0, 1)], [], [], []), ([(4, 38), (6, 65), (1, 40), (3, 36)], [(1, 5, 0, (2, 6, 0))], [], [], [], []), (7, ([(5, (-1))], 40), 0, 0))])], [], [], [], ([], 0, 0), 81)
theorem jcX5_make_40_36 : zk_txok RX5 hcX5_make_40_36.2.2.2.2.1 := zk_txb_ok (p := (0, 0)) (by decide +kernel)
def xcX5_make_40_36 : List zX := [(82, 2, 2, mcX2_begin), (92, 2, 2, mcX2_put)]
theorem wcX5_make_40_36 : zk_hwsb zcl RX5 mcX5_make_40_36.rm xcX5_make_40_36 [(896, 84, 893, 894, 895), (900, 84, 897, 898, 899)] = true := by decide +kernel
theorem icX5_make_40_36 : zk_idb zcl RX5 5 false mcX5_make_40_36 = true := by decide +kernel
theorem ecX5_make_40_36 : zk_run zcl zft zTT zPF zPB zSUf zLX5 5 false mcX5_make_40_36 ftX5_make hcX5_make_40_36 zULf xcX5_make_40_36 14 = true := by decide +kernel
theorem gcX5_make_40_36 {D : zD} {l : Launch} (hD : zWD D) : zCs D l xcX5_make_40_36 := ⟨tcX2_begin hD, tcX2_put hD, trivial⟩
theorem tcX5_make_40_36 {D : zD} {l : Launch} (hD : zWD D) : zC D l mcX5_make_40_36 := zk_methC ⟨rfl, rfl⟩ hD poolX5 icX5_make_40_36 jcX5_make_40_36 ftX5_make_ok (gcX5_make_40_36 hD) wcX5_make_40_36 ecX5_make_40_36
def qcX5_meet_40_36_36 : zQ := ((5, 5), ([(2, 1, 0), (0, 2, 0), (2, 3, 0), (2, 4, 0)], ([(0, 0, 0), (2, 0, 1)], [], [], []), ([(1, 40), (3, 36), (4, 36)], [], [], [], [], [])), [(none, ([(0, 0, 0)], [], [], []), ([], [], [], [], [], []))], ([(38, 11), (38, 12), (38, 13)], []), (0, 0))
def mcX5_meet_40_36_36 : zM := (yX5_meet, cX5_meet, 7, none, { frames := 2, cells := 0, slots := 0, locals := 34 }, qcX5_meet_40_36_36)
def hcX5_meet_40_36_36 : zH := ([(60, [([(2, (2, 3, 0)), (3, (2, 4, 0)), (4, (2, 5, 0)), (5, (0, 6, 0)), (6, (0, 7, 0))], [], ([(0, 0, 0), (6, 0, 1), (7, 0, 60), (8, (-9223372036854775808), 9223372036854775807), (9, (-2147483648), 2147483647), (10, 0, 1), (2, 0, 1)], [], [], []), ([(5, 38), (11, 65), (1, 40), (3, 36), (4, 36)], [(5, 3, 13, (1, 8, 0)), (5, 3, 12, (0, 9, 0)), (5, 3, 11, (0, 6, 0)), (3, 2, 2, (0, 10, 0)), (1, 5, 0, (2, 11, 0))], [], [], [], []), (12, ([(7, (-1))], 60), 0, 0))])], [], [(91, [(3, 0, 0)])], [], ([], 0, 0), 121)
theorem jcX5_meet_40_36_36 : zk_txok RX5 hcX5_meet_40_36_36.2.2.2.2.1 := zk_txb_ok (p := (0, 0)) (by decide +kernel)
def xcX5_meet_40_36_36 : List zX := [(137, 2, 2, mcX2_has)]
theorem wcX5_meet_40_36_36 : zk_hwsb zcl RX5 mcX5_meet_40_36_36.rm xcX5_meet_40_36_36 [(947, 84, 944, 945, 946)] = true := by decide +kernel
theorem icX5_meet_40_36_36 : zk_idb zcl RX5 5 false mcX5_meet_40_36_36 = true := by decide +kernel
theorem ecX5_meet_40_36_36 : zk_run zcl zft zTT zPF zPB zSUf zLX5 5 false mcX5_meet_40_36_36 ftX5_meet hcX5_meet_40_36_36 zULf xcX5_meet_40_36_36 35 = true := by decide +kernel
theorem gcX5_meet_40_36_36 {D : zD} {l : Launch} (hD : zWD D) : zCs D l xcX5_meet_40_36_36 := ⟨tcX2_has hD, trivial⟩
theorem tcX5_meet_40_36_36 {D : zD} {l : Launch} (hD : zWD D) : zC D l mcX5_meet_40_36_36 := zk_methC ⟨rfl, rfl⟩ hD poolX5 icX5_meet_40_36_36 jcX5_meet_40_36_36 ftX5_meet_ok (gcX5_meet_40_36_36 hD) wcX5_meet_40_36_36 ecX5_meet_40_36_36
def qcX3_nextDraw_38 : zQ := ((3, 4), ([(2, 1, 0), (0, 2, 0)], ([(0, 0, 0), (2, (-2147483648), 2147483647)], [], [], []), ([(1, 38)], [], [], [], [], [])), [(some (0, 3, 0), ([(0, 0, 0), (3, (-2147483648), 2147483647)], [], [], []), ([], [], [], [], [], []))], ([(38, 9)], []), (0, 0))
def mcX3_nextDraw_38 : zM := (yX3_nextDraw, cX3_nextDraw, 2, (some .int), { frames := 1, cells := 0, slots := 0, locals := 12 }, qcX3_nextDraw_38)
def hcX3_nextDraw_38 : zH := ([], [], [(45, [(3, 0, 0)])], [], ([], 0, 0), 1)
theorem jcX3_nextDraw_38 : zk_txok RX3 hcX3_nextDraw_38.2.2.2.2.1 := zk_txb_ok (p := (0, 0)) (by decide +kernel)
def xcX3_nextDraw_38 : List zX := []
theorem wcX3_nextDraw_38 : zk_hwsb zcl RX3 mcX3_nextDraw_38.rm xcX3_nextDraw_38 [] = true := by decide +kernel
theorem icX3_nextDraw_38 : zk_idb zcl RX3 3 false mcX3_nextDraw_38 = true := by decide +kernel
theorem ecX3_nextDraw_38 : zk_run zcl zft zTT zPF zPB zSUf zLX3 3 false mcX3_nextDraw_38 ftX3_nextDraw hcX3_nextDraw_38 zULf xcX3_nextDraw_38 29 = true := by decide +kernel
theorem gcX3_nextDraw_38 {D : zD} {l : Launch} (hD : zWD D) : zCs D l xcX3_nextDraw_38 := trivial
theorem tcX3_nextDraw_38 {D : zD} {l : Launch} (hD : zWD D) : zC D l mcX3_nextDraw_38 := zk_methC ⟨rfl, rfl⟩ hD poolX3 icX3_nextDraw_38 jcX3_nextDraw_38 ftX3_nextDraw_ok (gcX3_nextDraw_38 hD) wcX3_nextDraw_38 ecX3_nextDraw_38
def qcX5_pad_40_38_36 : zQ := ((5, 5), ([(2, 1, 0), (2, 2, 0), (2, 3, 0), (0, 4, 0)], ([(0, 0, 0), (4, 0, 60)], [], [], []), ([(1, 40), (2, 38), (3, 36)], [], [], [], [], [])), [(none, ([(0, 0, 0)], [], [], []), ([], [], [], [], [], []))], ([(36, 1), (38, 9)], [59]), (0, 0))
def mcX5_pad_40_38_36 : zM := (yX5_pad, cX5_pad, 5, none, { frames := 2, cells := 0, slots := 0, locals := 33 }, qcX5_pad_40_38_36)
def hcX5_pad_40_38_36 : zH := ([(6, [([(0, (2, 1, 0)), (1, (2, 2, 0)), (2, (2, 3, 0)), (3, (0, 4, 0)), (4, (0, 5, 0))], [], ([(0, 0, 0), (5, 0, 60), (4, 0, 60)], [], [], []), ([(1, 40), (2, 38), (3, 36)], [], [], [], [], []), (6, ([(5, (-1))], 60), 0, 0))])], [], [], [], ([], 0, 0), 121)
theorem jcX5_pad_40_38_36 : zk_txok RX5 hcX5_pad_40_38_36.2.2.2.2.1 := zk_txb_ok (p := (0, 0)) (by decide +kernel)
def xcX5_pad_40_38_36 : List zX := [(92, 2, 2, mcX2_put), (118, 2, 3, mcX3_nextDraw_38)]
theorem wcX5_pad_40_38_36 : zk_hwsb zcl RX5 mcX5_pad_40_38_36.rm xcX5_pad_40_38_36 [(900, 84, 897, 898, 899), (935, 83, 932, 933, 934)] = true := by decide +kernel
theorem icX5_pad_40_38_36 : zk_idb zcl RX5 5 false mcX5_pad_40_38_36 = true := by decide +kernel
theorem ecX5_pad_40_38_36 : zk_run zcl zft zTT zPF zPB zSUf zLX5 5 false mcX5_pad_40_38_36 ftX5_pad hcX5_pad_40_38_36 zULf xcX5_pad_40_38_36 13 = true := by decide +kernel
theorem gcX5_pad_40_38_36 {D : zD} {l : Launch} (hD : zWD D) : zCs D l xcX5_pad_40_38_36 := ⟨tcX2_put hD, tcX3_nextDraw_38 hD, trivial⟩
theorem tcX5_pad_40_38_36 {D : zD} {l : Launch} (hD : zWD D) : zC D l mcX5_pad_40_38_36 := zk_methC ⟨rfl, rfl⟩ hD poolX5 icX5_pad_40_38_36 jcX5_pad_40_38_36 ftX5_pad_ok (gcX5_pad_40_38_36 hD) wcX5_pad_40_38_36 ecX5_pad_40_38_36
def qcX3_see_38 : zQ := ((3, 3), ([(2, 1, 0), (0, 2, 0)], ([(0, 0, 0), (2, (-2147483648), 2147483647)], [], [], []), ([(1, 38)], [], [], [], [], [])), [(none, ([(0, 0, 0)], [], [], []), ([], [], [], [], [], []))], ([(38, 5), (38, 10)], []), (0, 0))
def mcX3_see_38 : zM := (yX3_see, cX3_see, 2, none, { frames := 1, cells := 0, slots := 0, locals := 12 }, qcX3_see_38)
def hcX3_see_38 : zH := ([], [], [], [], ([], 0, 0), 1)
theorem jcX3_see_38 : zk_txok RX3 hcX3_see_38.2.2.2.2.1 := zk_txb_ok (p := (0, 0)) (by decide +kernel)
def xcX3_see_38 : List zX := []
theorem wcX3_see_38 : zk_hwsb zcl RX3 mcX3_see_38.rm xcX3_see_38 [] = true := by decide +kernel
theorem icX3_see_38 : zk_idb zcl RX3 3 false mcX3_see_38 = true := by decide +kernel
theorem ecX3_see_38 : zk_run zcl zft zTT zPF zPB zSUf zLX3 3 false mcX3_see_38 ftX3_see hcX3_see_38 zULf xcX3_see_38 28 = true := by decide +kernel
theorem gcX3_see_38 {D : zD} {l : Launch} (hD : zWD D) : zCs D l xcX3_see_38 := trivial
theorem tcX3_see_38 {D : zD} {l : Launch} (hD : zWD D) : zC D l mcX3_see_38 := zk_methC ⟨rfl, rfl⟩ hD poolX3 icX3_see_38 jcX3_see_38 ftX3_see_ok (gcX3_see_38 hD) wcX3_see_38 ecX3_see_38
def qcX3_seeBag_38_36 : zQ := ((3, 3), ([(2, 1, 0), (2, 2, 0)], ([(0, 0, 0)], [], [], []), ([(1, 38), (2, 36)], [], [], [], [], [(150, [])])), [(none, ([(0, 0, 0)], [], [], []), ([], [], [], [], [], [(150, [])]))], ([(38, 5), (38, 10)], []), (0, 0))
def mcX3_seeBag_38_36 : zM := (yX3_seeBag, cX3_seeBag, 3, none, { frames := 2, cells := 0, slots := 0, locals := 33 }, qcX3_seeBag_38_36)
def hcX3_seeBag_38_36 : zH := ([(31, [([(0, (2, 1, 0)), (1, (2, 2, 0)), (2, (0, 3, 0))], [], ([(0, 0, 0), (3, 0, 60), (4, 0, 60), (5, 0, 0)], [(3, 4, 0)], [], []), ([(1, 38), (2, 36)], [(2, 2, 1, (0, 4, 0)), (2, 2, 3, (0, 5, 0))], [], [], [], [(150, []), (151, [(2, 1, 0), (0, 0, 0), (0, 0, 0)])]), (6, ([(3, (-1))], 60), 0, 0))])], [], [(7, [(9, 50, 0)]), (20, [(9, 53, 0)]), (21, [(9, 50, 0)]), (55, [(9, 54, 0)])], [], ([], 0, 0), 121)
theorem jcX3_seeBag_38_36 : zk_txok RX3 hcX3_seeBag_38_36.2.2.2.2.1 := zk_txb_ok (p := (0, 0)) (by decide +kernel)
def xcX3_seeBag_38_36 : List zX := [(87, 2, 3, mcX3_see_38)]
theorem wcX3_seeBag_38_36 : zk_hwsb zcl RX3 mcX3_seeBag_38_36.rm xcX3_seeBag_38_36 [(927, 83, 924, 925, 926)] = true := by decide +kernel
theorem icX3_seeBag_38_36 : zk_idb zcl RX3 3 false mcX3_seeBag_38_36 = true := by decide +kernel
theorem ecX3_seeBag_38_36 : zk_run zcl zft zTT zPF zPB zSUf zLX3 3 false mcX3_seeBag_38_36 ftX3_seeBag hcX3_seeBag_38_36 zULf xcX3_seeBag_38_36 14 = true := by decide +kernel
theorem gcX3_seeBag_38_36 {D : zD} {l : Launch} (hD : zWD D) : zCs D l xcX3_seeBag_38_36 := ⟨tcX3_see_38 hD, trivial⟩
theorem tcX3_seeBag_38_36 {D : zD} {l : Launch} (hD : zWD D) : zC D l mcX3_seeBag_38_36 := zk_methC ⟨rfl, rfl⟩ hD poolX3 icX3_seeBag_38_36 jcX3_seeBag_38_36 ftX3_seeBag_ok (gcX3_seeBag_38_36 hD) wcX3_seeBag_38_36 ecX3_seeBag_38_36
def qcX5_send_40_36_38 : zQ := ((5, 5), ([(2, 1, 0), (2, 2, 0), (2, 3, 0), (0, 4, 0)], ([(0, 0, 0), (4, 0, 7)], [], [], []), ([(1, 40), (2, 36), (3, 38)], [], [], [], [], [(150, [])])), [(none, ([(0, 0, 0)], [], [], []), ([], [], [], [], [], [(150, [])]))], ([(36, 1), (36, 2), (36, 3), (36, 4), (38, 5), (38, 10), (40, 3)], [59]), (0, 0))
def mcX5_send_40_36_38 : zM := (yX5_send, cX5_send, 4, none, { frames := 3, cells := 0, slots := 0, locals := 55 }, qcX5_send_40_36_38)
def hcX5_send_40_36_38 : zH := ([], [], [(38, [(3, 0, 0)])], [], ([], 0, 0), 1)
theorem jcX5_send_40_36_38 : zk_txok RX5 hcX5_send_40_36_38.2.2.2.2.1 := zk_txb_ok (p := (0, 0)) (by decide +kernel)
def xcX5_send_40_36_38 : List zX := [(111, 2, 2, mcX2_copy), (115, 2, 3, mcX3_seeBag_38_36)]
theorem wcX5_send_40_36_38 : zk_hwsb zcl RX5 mcX5_send_40_36_38.rm xcX5_send_40_36_38 [(917, 84, 914, 915, 916), (923, 83, 920, 921, 922)] = true := by decide +kernel
theorem icX5_send_40_36_38 : zk_idb zcl RX5 5 false mcX5_send_40_36_38 = true := by decide +kernel
theorem ecX5_send_40_36_38 : zk_run zcl zft zTT zPF zPB zSUf zLX5 5 false mcX5_send_40_36_38 ftX5_send hcX5_send_40_36_38 zULf xcX5_send_40_36_38 24 = true := by decide +kernel
theorem gcX5_send_40_36_38 {D : zD} {l : Launch} (hD : zWD D) : zCs D l xcX5_send_40_36_38 := ⟨tcX2_copy hD, tcX3_seeBag_38_36 hD, trivial⟩
theorem tcX5_send_40_36_38 {D : zD} {l : Launch} (hD : zWD D) : zC D l mcX5_send_40_36_38 := zk_methC ⟨rfl, rfl⟩ hD poolX5 icX5_send_40_36_38 jcX5_send_40_36_38 ftX5_send_ok (gcX5_send_40_36_38 hD) wcX5_send_40_36_38 ecX5_send_40_36_38
def qcX5_sum_40_38 : zQ := ((3, 3), ([(2, 1, 0), (2, 2, 0)], ([(0, 0, 0)], [], [], []), ([(1, 40), (2, 38)], [], [], [], [], [])), [(none, ([(0, 0, 0)], [], [], []), ([], [], [], [], [], []))], ([(38, 11), (38, 12), (38, 13)], []), (0, 0))
def mcX5_sum_40_38 : zM := (yX5_sum, cX5_sum, 4, none, { frames := 1, cells := 0, slots := 0, locals := 12 }, qcX5_sum_40_38)
def hcX5_sum_40_38 : zH := ([(4, [([(1, (2, 2, 0)), (2, (0, 3, 0)), (3, (0, 4, 0))], [], ([(0, 0, 0), (3, (-2147483648), 2147483647), (4, 0, 40)], [], [], []), ([(1, 40), (2, 38)], [], [], [], [], []), (5, ([(4, (-1))], 40), 0, 0))])], [], [], [], ([], 0, 0), 81)
theorem jcX5_sum_40_38 : zk_txok RX5 hcX5_sum_40_38.2.2.2.2.1 := zk_txb_ok (p := (0, 0)) (by decide +kernel)
def xcX5_sum_40_38 : List zX := []
theorem wcX5_sum_40_38 : zk_hwsb zcl RX5 mcX5_sum_40_38.rm xcX5_sum_40_38 [] = true := by decide +kernel
theorem icX5_sum_40_38 : zk_idb zcl RX5 5 false mcX5_sum_40_38 = true := by decide +kernel
theorem ecX5_sum_40_38 : zk_run zcl zft zTT zPF zPB zSUf zLX5 5 false mcX5_sum_40_38 ftX5_sum hcX5_sum_40_38 zULf xcX5_sum_40_38 24 = true := by decide +kernel
theorem gcX5_sum_40_38 {D : zD} {l : Launch} (hD : zWD D) : zCs D l xcX5_sum_40_38 := trivial
theorem tcX5_sum_40_38 {D : zD} {l : Launch} (hD : zWD D) : zC D l mcX5_sum_40_38 := zk_methC ⟨rfl, rfl⟩ hD poolX5 icX5_sum_40_38 jcX5_sum_40_38 ftX5_sum_ok (gcX5_sum_40_38 hD) wcX5_sum_40_38 ecX5_sum_40_38
def qcX9_plus_35 : zQ := ((4, 5), ([(2, 1, 0), (0, 2, 0), (0, 3, 0)], ([(0, 0, 0), (2, (-2147483648), 2147483647), (3, 0, 2147483647)], [], [], []), ([(1, 35)], [], [], [], [], [])), [(some (0, 4, 0), ([(0, 0, 0), (4, (-2147483648), 2147483647)], [], [], []), ([], [], [], [], [], []))], ([], []), (0, 0))
def mcX9_plus_35 : zM := (yX9_plus, cX9_plus, 5, (some .int), { frames := 1, cells := 0, slots := 0, locals := 12 }, qcX9_plus_35)
def hcX9_plus_35 : zH := ([], [], [(32, [(3, 0, 0)])], [], ([], 0, 0), 1)
theorem jcX9_plus_35 : zk_txok RX9 hcX9_plus_35.2.2.2.2.1 := zk_txb_ok (p := (0, 0)) (by decide +kernel)
def xcX9_plus_35 : List zX := []
theorem wcX9_plus_35 : zk_hwsb zcl RX9 mcX9_plus_35.rm xcX9_plus_35 [] = true := by decide +kernel
theorem icX9_plus_35 : zk_idb zcl RX9 9 false mcX9_plus_35 = true := by decide +kernel
theorem ecX9_plus_35 : zk_run zcl zft zTT zPF zPB zSUf zLX9 9 false mcX9_plus_35 ftX9_plus hcX9_plus_35 zULf xcX9_plus_35 26 = true := by decide +kernel
theorem gcX9_plus_35 {D : zD} {l : Launch} (hD : zWD D) : zCs D l xcX9_plus_35 := trivial
theorem tcX9_plus_35 {D : zD} {l : Launch} (hD : zWD D) : zC D l mcX9_plus_35 := zk_methC ⟨rfl, rfl⟩ hD poolX9 icX9_plus_35 jcX9_plus_35 ftX9_plus_ok (gcX9_plus_35 hD) wcX9_plus_35 ecX9_plus_35
def qcX9_apply_35 : zQ := ((3, 4), ([(2, 1, 0), (0, 2, 0)], ([(0, 0, 0), (2, (-2147483648), 2147483647)], [], [], []), ([(1, 35)], [], [], [], [], [])), [(some (0, 3, 0), ([(0, 0, 0), (3, (-2147483648), 2147483647)], [], [], []), ([], [], [], [], [], []))], ([], []), (0, 0))
def mcX9_apply_35 : zM := (yX9_apply, cX9_apply, 2, (some .int), { frames := 2, cells := 0, slots := 0, locals := 39 }, qcX9_apply_35)
def hcX9_apply_35 : zH := ([], [], [], [], ([], 0, 0), 1)
theorem jcX9_apply_35 : zk_txok RX9 hcX9_apply_35.2.2.2.2.1 := zk_txb_ok (p := (0, 0)) (by decide +kernel)
def xcX9_apply_35 : List zX := [(39, 0, 0, mcX1_power), (43, 0, 0, mcX1_times), (47, 2, 9, mcX9_plus_35)]
theorem wcX9_apply_35 : zk_hwsb zcl RX9 mcX9_apply_35.rm xcX9_apply_35 [(806, 91, 804, 805, 0), (809, 91, 807, 808, 0), (813, 81, 810, 812, 19)] = true := by decide +kernel
theorem icX9_apply_35 : zk_idb zcl RX9 9 false mcX9_apply_35 = true := by decide +kernel
theorem ecX9_apply_35 : zk_run zcl zft zTT zPF zPB zSUf zLX9 9 false mcX9_apply_35 ftX9_apply hcX9_apply_35 zULf xcX9_apply_35 28 = true := by decide +kernel
theorem gcX9_apply_35 {D : zD} {l : Launch} (hD : zWD D) : zCs D l xcX9_apply_35 := ⟨tcX1_power hD, tcX1_times hD, tcX9_plus_35 hD, trivial⟩
theorem tcX9_apply_35 {D : zD} {l : Launch} (hD : zWD D) : zC D l mcX9_apply_35 := zk_methC ⟨rfl, rfl⟩ hD poolX9 icX9_apply_35 jcX9_apply_35 ftX9_apply_ok (gcX9_apply_35 hD) wcX9_apply_35 ecX9_apply_35
