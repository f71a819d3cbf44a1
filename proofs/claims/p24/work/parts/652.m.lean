/-! METHODS (printed by wip/t6) -/
def ftX12_size : List (Nat × List (Nat × Instr × Nat)) := [(24, [(0, .iload_n 1, 1), (1, .invokestatic 294, 3), (4, .ifCond .eq 25, 3), (7, .iload_n 2, 1), (8, .i2l, 1), (9, .lconst 0, 1), (10, .ldc2_w 429, 3), (13, .invokestatic 243, 3), (16, .ifCond .eq 13, 3), (19, .iload_n 3, 1), (20, .i2l, 1), (21, .lconst 0, 1), (22, .lconst 1, 1), (23, .invokestatic 243, 3)]), (48, [(26, .ifCond .ne 6, 3), (29, .bipush (-2), 2), (31, .ireturn, 1), (32, .aload_n 0, 1), (33, .iload_n 1, 1), (34, .iload_n 2, 1), (35, .invokevirtual 431, 3), (38, .iconst 0, 1), (39, .istore 4, 2), (41, .iconst 0, 1), (42, .istore 5, 2), (44, .iload 5, 2), (46, .aload_n 0, 1), (47, .getfield 423, 3)]), (77, [(50, .if_icmp .ge 21, 3), (53, .iload 4, 2), (55, .aload_n 0, 1), (56, .getfield 158, 3), (59, .iload 5, 2), (61, .iaload, 1), (62, .iadd, 1), (63, .istore 4, 2), (65, .iinc 5 1, 3), (68, .goto (-24), 3), (71, .iload_n 3, 1), (72, .ifCond .ne 10, 3), (75, .aload_n 0, 1), (76, .getfield 423, 3)]), (85, [(79, .goto 5, 3), (82, .iload 4, 2), (84, .ireturn, 1)])]
theorem ftX12_size_ok : zk_ftb cX12_size ftX12_size = true := by decide +kernel
def qcX12_size : zQ := ((5, 6), ([(2, 1, 0), (0, 2, 0), (0, 3, 0), (0, 4, 0)], ([(0, 0, 0), (2, (-2147483648), 2147483647), (3, (-2147483648), 2147483647), (4, (-2147483648), 2147483647)], [], [], []), ([(1, 43)], [], [], [], [], [(110, [])])), [(some (0, 0, (-2)), ([(0, 0, 0)], [], [], []), ([], [], [], [], [], [(110, [])])), (some (0, 5, 0), ([(0, 0, 0), (5, (-2147483648), 2147483647), (2, 0, 1), (3, 0, 400), (4, 0, 1)], [], [], []), ([], [], [], [], [], [(110, [])]))], ([(43, 67)], [119, 120]), (0, 0))
def mcX12_size : zM := (yX12_size, cX12_size, 6, (some .int), { frames := 3, cells := 0, slots := 0, locals := 59 }, qcX12_size)
def hcX12_size : zH := ([(44, [([(0, (2, 1, 0)), (3, (0, 4, 0)), (4, (0, 5, 0)), (5, (0, 6, 0))], [], ([(0, 0, 0), (5, (-2147483648), 2147483647), (6, 0, 80), (7, 0, 80), (2, 0, 1), (3, 0, 400), (4, 0, 1)], [(6, 7, 0)], [], []), ([(1, 43)], [(1, 12, 67, (0, 7, 0))], [], [], [], [(110, []), (110, [])]), (8, ([(6, (-1))], 80), 0, 0))])], [], [(35, [(0, 1, 0), (1, 1, 0)])], [], ([], 0, 0), 161)
theorem jcX12_size : zk_txok RX12 hcX12_size.2.2.2.2.1 := zk_txb_ok (p := (0, 0)) (by decide +kernel)
def xcX12_size : List zX := [(243, 0, 0, mcX12_in), (294, 0, 0, mcX12_isSide), (431, 2, 12, mcX12_asOf_k0), (431, 2, 12, mcX12_asOf_k1)]
theorem wcX12_size : zk_hwsb zcl RX12 mcX12_size.rm xcX12_size [(1423, 86, 1421, 1422, 0), (1447, 86, 1445, 1446, 0), (1664, 86, 1661, 1663, 70), (1664, 86, 1661, 1663, 70)] = true := by decide +kernel
theorem icX12_size : zk_idb zcl RX12 12 false mcX12_size = true := by decide +kernel
theorem ecX12_size : zk_run zcl zft zTT zPF zPB zSUf zLX12 12 false mcX12_size ftX12_size hcX12_size zULf xcX12_size 25 = true := by decide +kernel
theorem gcX12_size {D : zD} {l : Launch} (hD : zWD D) : zCs D l xcX12_size := ⟨tcX12_in hD, tcX12_isSide hD, tcX12_asOf_k0 hD, tcX12_asOf_k1 hD, trivial⟩
theorem tcX12_size {D : zD} {l : Launch} (hD : zWD D) : zC D l mcX12_size := zk_methC ⟨rfl, rfl⟩ hD poolX12 icX12_size jcX12_size ftX12_size_ok (gcX12_size hD) wcX12_size ecX12_size
def ftX12_isCase : List (Nat × List (Nat × Instr × Nat)) := [(24, [(0, .iload_n 0, 1), (1, .i2l, 1), (2, .lconst 1, 1), (3, .ldc2_w 448, 3), (6, .invokestatic 243, 3), (9, .ifCond .eq 18, 3), (12, .iload_n 1, 1), (13, .i2l, 1), (14, .lconst 0, 1), (15, .iload_n 0, 1), (16, .i2l, 1), (17, .invokestatic 243, 3), (20, .ifCond .eq 7, 3), (23, .iconst 1, 1)]), (29, [(24, .goto 4, 3), (27, .iconst 0, 1), (28, .ireturn, 1)])]
theorem ftX12_isCase_ok : zk_ftb cX12_isCase ftX12_isCase = true := by decide +kernel
def qcX12_isCase : zQ := ((3, 3), ([(0, 1, 0), (0, 2, 0)], ([(0, 0, 0), (1, (-2147483648), 2147483647), (2, (-2147483648), 2147483647)], [], [], []), ([], [], [], [], [], [])), [(some (0, 0, 0), ([(0, 0, 0)], [], [], []), ([], [], [], [], [], [])), (some (0, 0, 1), ([(0, 0, 0), (1, 1, 40), (2, 0, 40)], [(2, 1, 0)], [], []), ([], [], [], [], [], []))], ([], []), (0, 0))
def mcX12_isCase : zM := (yX12_isCase, cX12_isCase, 2, (some .boolean), { frames := 2, cells := 0, slots := 0, locals := 37 }, qcX12_isCase)
def hcX12_isCase : zH := ([], [], [], [], ([], 0, 0), 1)
theorem jcX12_isCase : zk_txok RX12 hcX12_isCase.2.2.2.2.1 := zk_txb_ok (p := (0, 0)) (by decide +kernel)
def xcX12_isCase : List zX := [(243, 0, 0, mcX12_in)]
theorem wcX12_isCase : zk_hwsb zcl RX12 mcX12_isCase.rm xcX12_isCase [(1423, 86, 1421, 1422, 0)] = true := by decide +kernel
theorem icX12_isCase : zk_idb zcl RX12 12 false mcX12_isCase = true := by decide +kernel
theorem ecX12_isCase : zk_run zcl zft zTT zPF zPB zSUf zLX12 12 false mcX12_isCase ftX12_isCase hcX12_isCase zULf xcX12_isCase 18 = true := by decide +kernel
theorem gcX12_isCase {D : zD} {l : Launch} (hD : zWD D) : zCs D l xcX12_isCase := ⟨tcX12_in hD, trivial⟩
theorem tcX12_isCase {D : zD} {l : Launch} (hD : zWD D) : zC D l mcX12_isCase := zk_methC ⟨rfl, rfl⟩ hD poolX12 icX12_isCase jcX12_isCase ftX12_isCase_ok (gcX12_isCase hD) wcX12_isCase ecX12_isCase
def ftX12_choices : List (Nat × List (Nat × Instr × Nat)) := [(19, [(0, .lconst 1, 1), (1, .lstore_n 2, 1), (2, .iconst 1, 1), (3, .istore 4, 2), (5, .iload 4, 2), (7, .iload_n 1, 1), (8, .if_icmp .gt 23, 3), (11, .lload_n 2, 1), (12, .iload_n 0, 1), (13, .iload_n 1, 1), (14, .isub, 1), (15, .iload 4, 2), (17, .iadd, 1), (18, .i2l, 1)]), (33, [(19, .lmul, 1), (20, .iload 4, 2), (22, .i2l, 1), (23, .ldiv, 1), (24, .lstore_n 2, 1), (25, .iinc 4 1, 3), (28, .goto (-23), 3), (31, .lload_n 2, 1), (32, .lreturn, 1)])]
theorem ftX12_choices_ok : zk_ftb cX12_choices ftX12_choices = true := by decide +kernel
def qcX12_choices : zQ := ((3, 4), ([(0, 1, 0), (0, 2, 0)], ([(0, 0, 0), (1, 0, 40), (2, 0, 40)], [(2, 1, 0)], [], []), ([], [], [], [], [], [])), [(some (1, 3, 0), ([(0, 0, 0), (3, 1, 14815878344628976)], [(2, 1, 0)], [], []), ([], [], [], [], [], []))], ([], []), (0, 0))
def mcX12_choices : zM := (yX12_choices, cX12_choices, 5, (some .long), { frames := 1, cells := 0, slots := 0, locals := 12 }, qcX12_choices)
def hcX12_choices : zH := ([], [], [], [], ([], 0, 0), 1)
theorem jcX12_choices : zk_txok RX12 hcX12_choices.2.2.2.2.1 := zk_txb_ok (p := (0, 0)) (by decide +kernel)
def xcX12_choices : List zX := []
theorem wcX12_choices : zk_hwsb zcl RX12 mcX12_choices.rm xcX12_choices [] = true := by decide +kernel
theorem icX12_choices : zk_idb zcl RX12 12 false mcX12_choices = true := by decide +kernel
abbrev vcX12_choices (n : Nat) (B : zA) : Bool := zk_ex zcl zft zTT zPF zPB zSUf zLX12 12 false mcX12_choices ftX12_choices hcX12_choices zULf xcX12_choices 691 n B && zk_pos B.2.2.1 (B.2.2.2.2.2.1.1, B.2.2.2.2.2.1.2 + 1)
theorem ecX12_choices_e : zk_ex zcl zft zTT zPF zPB zSUf zLX12 12 false mcX12_choices ftX12_choices hcX12_choices zULf xcX12_choices 691 0 (zk_A0 mcX12_choices.cs hcX12_choices.2.2.2.2.2) = true := by decide +kernel

