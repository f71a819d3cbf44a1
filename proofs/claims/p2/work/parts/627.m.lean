/-! METHODS (printed by wip/tools) -/
def ftX12_isAsSeen : List (Nat × List (Nat × Instr × Nat)) := [(22, [(0, .aload_n 0, 1), (1, .getfield 104, 3), (4, .iload_n 1, 1), (5, .iaload, 1), (6, .aload_n 0, 1), (7, .getfield 119, 3), (10, .iload_n 1, 1), (11, .iaload, 1), (12, .if_icmp .ne 53, 3), (15, .aload_n 0, 1), (16, .getfield 107, 3), (19, .iload_n 1, 1), (20, .iaload, 1), (21, .aload_n 0, 1)]), (44, [(22, .getfield 122, 3), (25, .iload_n 1, 1), (26, .iaload, 1), (27, .if_icmp .ne 38, 3), (30, .aload_n 0, 1), (31, .getfield 110, 3), (34, .iload_n 1, 1), (35, .laload, 1), (36, .aload_n 0, 1), (37, .getfield 125, 3), (40, .iload_n 1, 1), (41, .laload, 1), (42, .lcmp, 1), (43, .ifCond .ne 22, 3)]), (68, [(46, .aload_n 0, 1), (47, .getfield 116, 3), (50, .iload_n 1, 1), (51, .iaload, 1), (52, .aload_n 0, 1), (53, .getfield 134, 3), (56, .iload_n 1, 1), (57, .iaload, 1), (58, .if_icmp .ne 7, 3), (61, .iconst 1, 1), (62, .goto 4, 3), (65, .iconst 0, 1), (66, .istore_n 2, 1), (67, .iconst 0, 1)]), (92, [(68, .istore_n 3, 1), (69, .iload_n 3, 1), (70, .aload_n 0, 1), (71, .getfield 116, 3), (74, .iload_n 1, 1), (75, .iaload, 1), (76, .if_icmp .ge 46, 3), (79, .iload_n 2, 1), (80, .ifCond .eq 42, 3), (83, .aload_n 0, 1), (84, .getfield 113, 3), (87, .sipush 2000, 3), (90, .iload_n 1, 1), (91, .imul, 1)]), (112, [(92, .iload_n 3, 1), (93, .iadd, 1), (94, .iaload, 1), (95, .aload_n 0, 1), (96, .getfield 131, 3), (99, .sipush 2000, 3), (102, .iload_n 1, 1), (103, .imul, 1), (104, .iload_n 3, 1), (105, .iadd, 1), (106, .iaload, 1), (107, .if_icmp .ne 7, 3), (110, .iconst 1, 1), (111, .goto 4, 3)]), (124, [(114, .iconst 0, 1), (115, .istore_n 2, 1), (116, .iinc 3 1, 3), (119, .goto (-50), 3), (122, .iload_n 2, 1), (123, .ireturn, 1)])]
theorem ftX12_isAsSeen_ok : zk_ftb cX12_isAsSeen ftX12_isAsSeen = true := by decide +kernel
def qcX12_isAsSeen : zQ := ((3, 4), ([(2, 1, 0), (0, 2, 0)], ([(0, 0, 0), (2, 0, 1)], [], [], []), ([(1, 43)], [], [], [], [], [])), [(some (0, 3, 0), ([(0, 0, 0), (3, 0, 1)], [], [], []), ([], [], [], [], [], []))], ([], []), (0, 0))
def mcX12_isAsSeen : zM := (yX12_isAsSeen, cX12_isAsSeen, 4, (some .boolean), { frames := 1, cells := 0, slots := 0, locals := 12 }, qcX12_isAsSeen)
def hcX12_isAsSeen : zH := ([(69, [([(0, (2, 1, 0)), (1, (0, 2, 0)), (2, (0, 3, 0)), (3, (0, 4, 0))], [], ([(0, 0, 0), (3, 0, 1), (4, 0, 2000), (2, 0, 1)], [], [], []), ([(5, 107), (6, 102), (1, 43)], [(1, 12, 51, (2, 5, 0)), (1, 12, 43, (2, 6, 0))], [], [], [], []), (7, ([(4, (-1))], 2000), 0, 0))])], [], [], [], ([], 0, 0), 4001)
theorem jcX12_isAsSeen : zk_txok RX12 hcX12_isAsSeen.2.2.2.2.1 := zk_txb_ok (p := (0, 0)) (by decide +kernel)
def xcX12_isAsSeen : List zX := []
theorem wcX12_isAsSeen : zk_hwsb zcl RX12 mcX12_isAsSeen.rm xcX12_isAsSeen [] = true := by decide +kernel
theorem icX12_isAsSeen : zk_idb zcl RX12 12 false mcX12_isAsSeen = true := by decide +kernel
theorem ecX12_isAsSeen : zk_run zcl zft zTT zPF zPB zSUf zLX12 12 false mcX12_isAsSeen ftX12_isAsSeen hcX12_isAsSeen zULf xcX12_isAsSeen 44 = true := by decide +kernel
theorem gcX12_isAsSeen {D : zD} {l : Launch} (hD : zk_wd D zcl zft zTT zPF zPB zSUf zULf) : zCs D l xcX12_isAsSeen := trivial
theorem tcX12_isAsSeen {D : zD} {l : Launch} (hD : zk_wd D zcl zft zTT zPF zPB zSUf zULf) : zC D l mcX12_isAsSeen := zk_methC hD poolX12 icX12_isAsSeen jcX12_isAsSeen ftX12_isAsSeen_ok (gcX12_isAsSeen hD) wcX12_isAsSeen ecX12_isAsSeen
def ftX0_loadChosen : List (Nat × List (Nat × Instr × Nat)) := [(19, [(0, .aload_n 1, 1), (1, .iconst 0, 1), (2, .putfield 99, 3), (5, .iconst 0, 1), (6, .istore_n 3, 1), (7, .iload_n 3, 1), (8, .bipush 8, 2), (10, .if_icmp .ge 43, 3), (13, .iload_n 2, 1), (14, .iload_n 3, 1), (15, .iushr, 1), (16, .iconst 1, 1), (17, .iand, 1), (18, .iconst 1, 1)]), (43, [(19, .if_icmp .ne 28, 3), (22, .aload_n 1, 1), (23, .getfield 102, 3), (26, .aload_n 1, 1), (27, .getfield 99, 3), (30, .aload_n 0, 1), (31, .getfield 15, 3), (34, .iload_n 3, 1), (35, .iaload, 1), (36, .iastore, 1), (37, .aload_n 1, 1), (38, .dup, 1), (39, .getfield 99, 3), (42, .iconst 1, 1)]), (54, [(43, .iadd, 1), (44, .putfield 99, 3), (47, .iinc 3 1, 3), (50, .goto (-43), 3), (53, .return_, 1)])]
theorem ftX0_loadChosen_ok : zk_ftb cX0_loadChosen ftX0_loadChosen = true := by decide +kernel
def qcX0_loadChosen_41_38 : zQ := ((4, 4), ([(2, 1, 0), (2, 2, 0), (0, 3, 0)], ([(0, 0, 0), (3, 0, 255)], [], [], []), ([(1, 41), (2, 38)], [], [], [], [], [])), [(none, ([(0, 0, 0)], [], [], []), ([], [], [], [], [], []))], ([(38, 6)], [60]), (0, 0))
def mcX0_loadChosen_41_38 : zM := (yX0_loadChosen, cX0_loadChosen, 4, none, { frames := 1, cells := 0, slots := 0, locals := 12 }, qcX0_loadChosen_41_38)
def hcX0_loadChosen_41_38 : zH := ([(7, [([(0, (2, 1, 0)), (1, (2, 2, 0)), (2, (0, 3, 0)), (3, (0, 4, 0))], [], ([(0, 0, 0), (4, 0, 8), (5, 0, 40), (3, 0, 255)], [(5, 4, 0)], [], []), ([(1, 41), (2, 38)], [(2, 3, 6, (0, 5, 0))], [], [], [], []), (6, ([(4, (-1))], 8), 0, 0))])], [], [(36, [(4, 1, 0)])], [], ([], 0, 0), 17)
theorem jcX0_loadChosen_41_38 : zk_txok RX0 hcX0_loadChosen_41_38.2.2.2.2.1 := zk_txb_ok (p := (0, 0)) (by decide +kernel)
def xcX0_loadChosen_41_38 : List zX := []
theorem wcX0_loadChosen_41_38 : zk_hwsb zcl RX0 mcX0_loadChosen_41_38.rm xcX0_loadChosen_41_38 [] = true := by decide +kernel
theorem icX0_loadChosen_41_38 : zk_idb zcl RX0 0 false mcX0_loadChosen_41_38 = true := by decide +kernel
theorem ecX0_loadChosen_41_38 : zk_run zcl zft zTT zPF zPB zSUf zLX0 0 false mcX0_loadChosen_41_38 ftX0_loadChosen hcX0_loadChosen_41_38 zULf xcX0_loadChosen_41_38 29 = true := by decide +kernel
theorem gcX0_loadChosen_41_38 {D : zD} {l : Launch} (hD : zk_wd D zcl zft zTT zPF zPB zSUf zULf) : zCs D l xcX0_loadChosen_41_38 := trivial
theorem tcX0_loadChosen_41_38 {D : zD} {l : Launch} (hD : zk_wd D zcl zft zTT zPF zPB zSUf zULf) : zC D l mcX0_loadChosen_41_38 := zk_methC hD poolX0 icX0_loadChosen_41_38 jcX0_loadChosen_41_38 ftX0_loadChosen_ok (gcX0_loadChosen_41_38 hD) wcX0_loadChosen_41_38 ecX0_loadChosen_41_38
def qcX3_start_38 : zQ := ((2, 2), ([(2, 1, 0)], ([(0, 0, 0)], [], [], []), ([(1, 38)], [], [], [], [], [])), [(none, ([(0, 0, 0)], [], [], []), ([], [], [], [], [], []))], ([(38, 5), (38, 9), (38, 10), (38, 11), (38, 12), (38, 13)], []), (0, 0))
def mcX3_start_38 : zM := (yX3_start, cX3_start, 1, none, { frames := 1, cells := 0, slots := 0, locals := 12 }, qcX3_start_38)
def hcX3_start_38 : zH := ([], [], [], [], ([], 0, 0), 1)
theorem jcX3_start_38 : zk_txok RX3 hcX3_start_38.2.2.2.2.1 := zk_txb_ok (p := (0, 0)) (by decide +kernel)
def xcX3_start_38 : List zX := []
theorem wcX3_start_38 : zk_hwsb zcl RX3 mcX3_start_38.rm xcX3_start_38 [] = true := by decide +kernel
theorem icX3_start_38 : zk_idb zcl RX3 3 false mcX3_start_38 = true := by decide +kernel
theorem ecX3_start_38 : zk_run zcl zft zTT zPF zPB zSUf zLX3 3 false mcX3_start_38 ftX3_start hcX3_start_38 zULf xcX3_start_38 23 = true := by decide +kernel
theorem gcX3_start_38 {D : zD} {l : Launch} (hD : zk_wd D zcl zft zTT zPF zPB zSUf zULf) : zCs D l xcX3_start_38 := trivial
theorem tcX3_start_38 {D : zD} {l : Launch} (hD : zk_wd D zcl zft zTT zPF zPB zSUf zULf) : zC D l mcX3_start_38 := zk_methC hD poolX3 icX3_start_38 jcX3_start_38 ftX3_start_ok (gcX3_start_38 hD) wcX3_start_38 ecX3_start_38
def qcX5_start_40 : zQ := ((3, 3), ([(2, 1, 0), (0, 2, 0)], ([(0, 0, 0), (2, 0, 2147483647)], [], [], []), ([(1, 40)], [], [], [], [], [])), [(none, ([(0, 0, 0)], [], [], []), ([], [], [], [], [], []))], ([(38, 5), (38, 9), (38, 10), (38, 11), (38, 12), (38, 13), (40, 1), (40, 2), (40, 3)], []), (0, 0))
def mcX5_start_40 : zM := (yX5_start, cX5_start, 2, none, { frames := 2, cells := 0, slots := 0, locals := 32 }, qcX5_start_40)
def hcX5_start_40 : zH := ([], [], [], [], ([], 0, 0), 1)
theorem jcX5_start_40 : zk_txok RX5 hcX5_start_40.2.2.2.2.1 := zk_txb_ok (p := (0, 0)) (by decide +kernel)
def xcX5_start_40 : List zX := [(27, 2, 3, mcX3_start_38)]
theorem wcX5_start_40 : zk_hwsb zcl RX5 mcX5_start_40.rm xcX5_start_40 [(884, 83, 881, 882, 883)] = true := by decide +kernel
theorem icX5_start_40 : zk_idb zcl RX5 5 false mcX5_start_40 = true := by decide +kernel
theorem ecX5_start_40 : zk_run zcl zft zTT zPF zPB zSUf zLX5 5 false mcX5_start_40 ftX5_start hcX5_start_40 zULf xcX5_start_40 22 = true := by decide +kernel
theorem gcX5_start_40 {D : zD} {l : Launch} (hD : zk_wd D zcl zft zTT zPF zPB zSUf zULf) : zCs D l xcX5_start_40 := ⟨tcX3_start_38 hD, trivial⟩
theorem tcX5_start_40 {D : zD} {l : Launch} (hD : zk_wd D zcl zft zTT zPF zPB zSUf zULf) : zC D l mcX5_start_40 := zk_methC hD poolX5 icX5_start_40 jcX5_start_40 ftX5_start_ok (gcX5_start_40 hD) wcX5_start_40 ecX5_start_40
def ftX10_onlyTells : List (Nat × List (Nat × Instr × Nat)) := [(24, [(0, .aload_n 0, 1), (1, .getfield 15, 3), (4, .iload_n 1, 1), (5, .iaload, 1), (6, .bipush 6, 2), (8, .if_icmp .eq 14, 3), (11, .aload_n 0, 1), (12, .getfield 15, 3), (15, .iload_n 1, 1), (16, .iaload, 1), (17, .bipush 7, 2), (19, .if_icmp .ne 7, 3), (22, .iconst 1, 1), (23, .goto 4, 3)]), (28, [(26, .iconst 0, 1), (27, .ireturn, 1)])]
theorem ftX10_onlyTells_ok : zk_ftb cX10_onlyTells ftX10_onlyTells = true := by decide +kernel
def qcX10_onlyTells : zQ := ((3, 3), ([(2, 1, 0), (0, 2, 0)], ([(0, 0, 0), (2, 0, 29)], [], [], []), ([(1, 33)], [], [], [], [], [])), [(some (0, 0, 0), ([(0, 0, 0)], [], [], []), ([], [], [], [], [], [])), (some (0, 0, 1), ([(0, 0, 0)], [], [], []), ([], [], [], [], [], []))], ([], []), (0, 0))
def mcX10_onlyTells : zM := (yX10_onlyTells, cX10_onlyTells, 2, (some .boolean), { frames := 1, cells := 0, slots := 0, locals := 12 }, qcX10_onlyTells)
def hcX10_onlyTells : zH := ([], [], [], [], ([], 0, 0), 1)
theorem jcX10_onlyTells : zk_txok RX10 hcX10_onlyTells.2.2.2.2.1 := zk_txb_ok (p := (0, 0)) (by decide +kernel)
def xcX10_onlyTells : List zX := []
theorem wcX10_onlyTells : zk_hwsb zcl RX10 mcX10_onlyTells.rm xcX10_onlyTells [] = true := by decide +kernel
theorem icX10_onlyTells : zk_idb zcl RX10 10 false mcX10_onlyTells = true := by decide +kernel
theorem ecX10_onlyTells : zk_run zcl zft zTT zPF zPB zSUf zLX10 10 false mcX10_onlyTells ftX10_onlyTells hcX10_onlyTells zULf xcX10_onlyTells 17 = true := by decide +kernel
theorem gcX10_onlyTells {D : zD} {l : Launch} (hD : zk_wd D zcl zft zTT zPF zPB zSUf zULf) : zCs D l xcX10_onlyTells := trivial
theorem tcX10_onlyTells {D : zD} {l : Launch} (hD : zk_wd D zcl zft zTT zPF zPB zSUf zULf) : zC D l mcX10_onlyTells := zk_methC hD poolX10 icX10_onlyTells jcX10_onlyTells ftX10_onlyTells_ok (gcX10_onlyTells hD) wcX10_onlyTells ecX10_onlyTells
