/-! METHODS (printed by wip/tools) -/
def ftX12_near : List (Nat × List (Nat × Instr × Nat)) := [(18, [(0, .iconst 0, 1), (1, .istore_n 1, 1), (2, .iconst 0, 1), (3, .istore_n 2, 1), (4, .iload_n 2, 1), (5, .aload_n 0, 1), (6, .getfield 28, 3), (9, .iconst 0, 1), (10, .iaload, 1), (11, .if_icmp .ge 73, 3), (14, .iconst 0, 1), (15, .istore_n 3, 1), (16, .iload_n 3, 1), (17, .aload_n 0, 1)]), (41, [(18, .getfield 28, 3), (21, .iconst 1, 1), (22, .iaload, 1), (23, .if_icmp .ge 55, 3), (26, .iload_n 1, 1), (27, .aload_n 0, 1), (28, .getfield 35, 3), (31, .iload_n 2, 1), (32, .laload, 1), (33, .aload_n 0, 1), (34, .getfield 35, 3), (37, .bipush 40, 2), (39, .iload_n 3, 1), (40, .iadd, 1)]), (62, [(41, .laload, 1), (42, .lcmp, 1), (43, .ifCond .ne 26, 3), (46, .aload_n 0, 1), (47, .getfield 31, 3), (50, .iload_n 2, 1), (51, .laload, 1), (52, .aload_n 0, 1), (53, .getfield 31, 3), (56, .bipush 40, 2), (58, .iload_n 3, 1), (59, .iadd, 1), (60, .laload, 1), (61, .lcmp, 1)]), (86, [(62, .ifCond .eq 7, 3), (65, .iconst 1, 1), (66, .goto 4, 3), (69, .iconst 0, 1), (70, .iadd, 1), (71, .istore_n 1, 1), (72, .iinc 3 1, 3), (75, .goto (-59), 3), (78, .iinc 2 1, 3), (81, .goto (-77), 3), (84, .iload_n 1, 1), (85, .ireturn, 1)])]
theorem ftX12_near_ok : zk_ftb cX12_near ftX12_near = true := by decide +kernel
def qcX12_near : zQ := ((2, 3), ([(2, 1, 0)], ([(0, 0, 0)], [], [], []), ([(1, 43)], [], [], [], [], [])), [(some (0, 2, 0), ([(0, 0, 0), (2, (-2147483648), 2147483647)], [], [], []), ([], [], [], [], [], []))], ([], []), (0, 0))
def mcX12_near : zM := (yX12_near, cX12_near, 4, (some .int), { frames := 1, cells := 0, slots := 0, locals := 12 }, qcX12_near)
def hcX12_near : zH := ([(4, [([(0, (2, 1, 0)), (1, (0, 2, 0)), (2, (0, 3, 0))], [], ([(0, 0, 0), (3, 0, 40)], [], [], []), ([(1, 43)], [], [], [], [], []), (4, ([(3, (-82))], 3321), 0, 0))]), (16, [([(0, (2, 1, 0)), (1, (0, 2, 0)), (2, (0, 3, 0)), (3, (0, 4, 0))], [], ([(0, 0, 0), (3, 0, 39), (4, 0, 40)], [], [], []), ([(5, 77), (1, 43)], [(1, 12, 17, (2, 5, 0))], [], [], [], []), (6, ([(3, (-82)), (4, (-1))], 3320), 0, 0))])], [], [(85, [(3, 0, 0)])], [], ([], 0, 0), 6602)
theorem jcX12_near : zk_txok RX12 hcX12_near.2.2.2.2.1 := zk_txb_ok (p := (0, 0)) (by decide +kernel)
def xcX12_near : List zX := []
theorem wcX12_near : zk_hwsb zcl RX12 mcX12_near.rm xcX12_near [] = true := by decide +kernel
theorem icX12_near : zk_idb zcl RX12 12 false mcX12_near = true := by decide +kernel
theorem ecX12_near : zk_run zcl zft zTT zPF zPB zSUf zLX12 12 false mcX12_near ftX12_near hcX12_near zULf xcX12_near 39 = true := by decide +kernel
theorem gcX12_near {D : zD} {l : Launch} (hD : zWD D) : zCs D l xcX12_near := trivial
theorem tcX12_near {D : zD} {l : Launch} (hD : zWD D) : zC D l mcX12_near := zk_methC ⟨rfl, rfl⟩ hD poolX12 icX12_near jcX12_near ftX12_near_ok (gcX12_near hD) wcX12_near ecX12_near
def ftX12_isCase : List (Nat × List (Nat × Instr × Nat)) := [(24, [(0, .iload_n 0, 1), (1, .i2l, 1), (2, .lconst 1, 1), (3, .ldc2_w 448, 3), (6, .invokestatic 243, 3), (9, .ifCond .eq 18, 3), (12, .iload_n 1, 1), (13, .i2l, 1), (14, .lconst 0, 1), (15, .iload_n 0, 1), (16, .i2l, 1), (17, .invokestatic 243, 3), (20, .ifCond .eq 7, 3), (23, .iconst 1, 1)]), (29, [(24, .goto 4, 3), (27, .iconst 0, 1), (28, .ireturn, 1)])]
theorem ftX12_isCase_ok : zk_ftb cX12_isCase ftX12_isCase = true := by decide +kernel
def qcX12_isCase : zQ := ((3, 3), ([(0, 1, 0), (0, 2, 0)], ([(0, 0, 0), (1, (-2147483648), 2147483647), (2, (-2147483648), 2147483647)], [], [], []), ([], [], [], [], [], [])), [(some (0, 0, 0), ([(0, 0, 0)], [], [], []), ([], [], [], [], [], [])), (some (0, 0, 1), ([(0, 0, 0), (1, 1, 40), (2, 0, 40)], [(2, 1, 0)], [], []), ([], [], [], [], [], []))], ([], []), (0, 0))
def mcX12_isCase : zM := (yX12_isCase, cX12_isCase, 2, (some .boolean), { frames := 2, cells := 0, slots := 0, locals := 37 }, qcX12_isCase)
def hcX12_isCase : zH := ([], [], [], [], ([], 0, 0), 1)
theorem jcX12_isCase : zk_txok RX12 hcX12_isCase.2.2.2.2.1 := zk_txb_ok (p := (0, 0)) (by decide +kernel)
def xcX12_isCase : List zX := [(243, 0, 0, mcX12_in)]
theorem wcX12_isCase : zk_hwsb zcl RX12 mcX12_isCase.rm xcX12_isCase [(1423, 86, 1421, 1422, 0)] = true := by decide +kernel
theorem icX12_isCase : zk_idb zcl RX12 12 false mcX12_isCase = true := by decide +kernel
theorem ecX12_isCase : zk_run zcl zft zTT zPF zPB zSUf zLX12 12 false mcX12_isCase ftX12_isCase hcX12_isCase zULf xcX12_isCase 18 = true := by decide +kernel
theorem gcX12_isCase {D : zD} {l : Launch} (hD : zWD D) : zCs D l xcX12_isCase := ⟨tcX12_in hD, trivial⟩
theorem tcX12_isCase {D : zD} {l : Launch} (hD : zWD D) : zC D l mcX12_isCase := zk_methC ⟨rfl, rfl⟩ hD poolX12 icX12_isCase jcX12_isCase ftX12_isCase_ok (gcX12_isCase hD) wcX12_isCase ecX12_isCase
def ftX12_choices : List (Nat × List (Nat × Instr × Nat)) := [(19, [(0, .lconst 1, 1), (1, .lstore_n 2, 1), (2, .iconst 1, 1), (3, .istore 4, 2), (5, .iload 4, 2), (7, .iload_n 1, 1), (8, .if_icmp .gt 23, 3), (11, .lload_n 2, 1), (12, .iload_n 0, 1), (13, .iload_n 1, 1), (14, .isub, 1), (15, .iload 4, 2), (17, .iadd, 1), (18, .i2l, 1)]), (33, [(19, .lmul, 1), (20, .iload 4, 2), (22, .i2l, 1), (23, .ldiv, 1), (24, .lstore_n 2, 1), (25, .iinc 4 1, 3), (28, .goto (-23), 3), (31, .lload_n 2, 1), (32, .lreturn, 1)])]
theorem ftX12_choices_ok : zk_ftb cX12_choices ftX12_choices = true := by decide +kernel
def qcX12_choices : zQ := ((3, 4), ([(0, 1, 0), (0, 2, 0)], ([(0, 0, 0), (1, 0, 40), (2, 0, 40)], [(2, 1, 0)], [], []), ([], [], [], [], [], [])), [(some (1, 3, 0), ([(0, 0, 0), (3, 1, 14815878344628976)], [(2, 1, 0)], [], []), ([], [], [], [], [], []))], ([], []), (0, 0))
def mcX12_choices : zM := (yX12_choices, cX12_choices, 5, (some .long), { frames := 1, cells := 0, slots := 0, locals := 12 }, qcX12_choices)
def hcX12_choices : zH := ([], [], [], [], ([], 0, 0), 1)
theorem jcX12_choices : zk_txok RX12 hcX12_choices.2.2.2.2.1 := zk_txb_ok (p := (0, 0)) (by decide +kernel)
def xcX12_choices : List zX := []
theorem wcX12_choices : zk_hwsb zcl RX12 mcX12_choices.rm xcX12_choices [] = true := by decide +kernel
theorem icX12_choices : zk_idb zcl RX12 12 false mcX12_choices = true := by decide +kernel
theorem ecX12_choices : zk_run zcl zft zTT zPF zPB zSUf zLX12 12 false mcX12_choices ftX12_choices hcX12_choices zULf xcX12_choices 691 = true := by decide +kernel
theorem gcX12_choices {D : zD} {l : Launch} (hD : zWD D) : zCs D l xcX12_choices := trivial
theorem tcX12_choices {D : zD} {l : Launch} (hD : zWD D) : zC D l mcX12_choices := zk_methC ⟨rfl, rfl⟩ hD poolX12 icX12_choices jcX12_choices ftX12_choices_ok (gcX12_choices hD) wcX12_choices ecX12_choices
