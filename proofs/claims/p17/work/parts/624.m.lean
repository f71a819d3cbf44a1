/-! METHODS (printed by wip/t4) -/
def ftX12_end : List (Nat × List (Nat × Instr × Nat)) := [(21, [(0, .iload_n 1, 1), (1, .ifCond .lt 11, 3), (4, .iload_n 1, 1), (5, .aload_n 0, 1), (6, .getfield 170, 3), (9, .if_icmp .le 5, 3), (12, .iconst (-1), 1), (13, .ireturn, 1), (14, .aload_n 0, 1), (15, .iload_n 1, 1), (16, .putfield 170, 3), (19, .iload_n 1, 1), (20, .ireturn, 1)])]
theorem ftX12_end_ok : zk_ftb cX12_end ftX12_end = true := by decide +kernel
def qcX12_end : zQ := ((4, 4), ([(2, 1, 0), (0, 2, 0)], ([(0, 0, 0), (2, (-2147483648), 2147483647), (3, 0, 1200)], [], [], []), ([(1, 43)], [(1, 12, 1, (0, 3, 0))], [], [], [], [])), [(some (0, 0, (-1)), ([(0, 0, 0), (2, 1, 2147483647)], [(3, 2, (-1))], [], []), ([], [(1, 12, 1, (0, 3, 0))], [], [], [], [])), (some (0, 0, (-1)), ([(0, 0, 0), (2, (-2147483648), (-1))], [], [], []), ([], [(1, 12, 1, (0, 3, 0))], [], [], [], [])), (some (0, 2, 0), ([(0, 0, 0), (2, 0, 1200)], [(2, 3, 0)], [], []), ([], [(1, 12, 1, (0, 2, 0))], [], [], [], []))], ([(43, 1)], []), (0, 0))
def mcX12_end : zM := (yX12_end, cX12_end, 2, (some .int), { frames := 1, cells := 0, slots := 0, locals := 12 }, qcX12_end)
def hcX12_end : zH := ([], [], [], [], ([], 0, 0), 1)
theorem jcX12_end : zk_txok RX12 hcX12_end.2.2.2.2.1 := zk_txb_ok (p := (0, 0)) (by decide +kernel)
def xcX12_end : List zX := []
theorem wcX12_end : zk_hwsb zcl RX12 mcX12_end.rm xcX12_end [] = true := by decide +kernel
theorem icX12_end : zk_idb zcl RX12 12 false mcX12_end = true := by decide +kernel
theorem ecX12_end : zk_run zcl zft zTT zPF zPB zSUf zLX12 12 false mcX12_end ftX12_end hcX12_end zULf xcX12_end 13 = true := by decide +kernel
theorem gcX12_end {D : zD} {l : Launch} (hD : zWD D) : zCs D l xcX12_end := trivial
theorem tcX12_end {D : zD} {l : Launch} (hD : zWD D) : zC D l mcX12_end := zk_methC ⟨rfl, rfl⟩ hD poolX12 icX12_end jcX12_end ftX12_end_ok (gcX12_end hD) wcX12_end ecX12_end
def ftX12_fresh : List (Nat × List (Nat × Instr × Nat)) := [(11, [(0, .aload_n 0, 1), (1, .iconst 0, 1), (2, .putfield 229, 3), (5, .aload_n 0, 1), (6, .iconst (-1), 1), (7, .putfield 13, 3), (10, .return_, 1)])]
theorem ftX12_fresh_ok : zk_ftb cX12_fresh ftX12_fresh = true := by decide +kernel
def qcX12_fresh : zQ := ((2, 2), ([(2, 1, 0)], ([(0, 0, 0)], [], [], []), ([(1, 43)], [], [], [], [], [])), [(none, ([(0, 0, 0)], [], [], []), ([], [], [], [], [], []))], ([(43, 8), (43, 9)], []), (0, 0))
def mcX12_fresh : zM := (yX12_fresh, cX12_fresh, 1, none, { frames := 1, cells := 0, slots := 0, locals := 12 }, qcX12_fresh)
def hcX12_fresh : zH := ([], [], [], [], ([], 0, 0), 1)
theorem jcX12_fresh : zk_txok RX12 hcX12_fresh.2.2.2.2.1 := zk_txb_ok (p := (0, 0)) (by decide +kernel)
def xcX12_fresh : List zX := []
theorem wcX12_fresh : zk_hwsb zcl RX12 mcX12_fresh.rm xcX12_fresh [] = true := by decide +kernel
theorem icX12_fresh : zk_idb zcl RX12 12 false mcX12_fresh = true := by decide +kernel
theorem ecX12_fresh : zk_run zcl zft zTT zPF zPB zSUf zLX12 12 false mcX12_fresh ftX12_fresh hcX12_fresh zULf xcX12_fresh 9 = true := by decide +kernel
theorem gcX12_fresh {D : zD} {l : Launch} (hD : zWD D) : zCs D l xcX12_fresh := trivial
theorem tcX12_fresh {D : zD} {l : Launch} (hD : zWD D) : zC D l mcX12_fresh := zk_methC ⟨rfl, rfl⟩ hD poolX12 icX12_fresh jcX12_fresh ftX12_fresh_ok (gcX12_fresh hD) wcX12_fresh ecX12_fresh
def ftX12_fails : List (Nat × List (Nat × Instr × Nat)) := [(15, [(0, .aload_n 0, 1), (1, .iload_n 1, 1), (2, .putfield 229, 3), (5, .aload_n 0, 1), (6, .aload_n 0, 1), (7, .getfield 195, 3), (10, .putfield 13, 3), (13, .iconst 0, 1), (14, .ireturn, 1)])]
theorem ftX12_fails_ok : zk_ftb cX12_fails ftX12_fails = true := by decide +kernel
def qcX12_fails : zQ := ((3, 3), ([(2, 1, 0), (0, 2, 0)], ([(0, 0, 0), (2, 1, 4)], [], [], []), ([(1, 43)], [], [], [], [], [])), [(some (0, 0, 0), ([(0, 0, 0)], [], [], []), ([], [], [], [], [], []))], ([(43, 8), (43, 9)], []), (0, 0))
def mcX12_fails : zM := (yX12_fails, cX12_fails, 2, (some .boolean), { frames := 1, cells := 0, slots := 0, locals := 12 }, qcX12_fails)
def hcX12_fails : zH := ([], [], [], [], ([], 0, 0), 1)
theorem jcX12_fails : zk_txok RX12 hcX12_fails.2.2.2.2.1 := zk_txb_ok (p := (0, 0)) (by decide +kernel)
def xcX12_fails : List zX := []
theorem wcX12_fails : zk_hwsb zcl RX12 mcX12_fails.rm xcX12_fails [] = true := by decide +kernel
theorem icX12_fails : zk_idb zcl RX12 12 false mcX12_fails = true := by decide +kernel
theorem ecX12_fails : zk_run zcl zft zTT zPF zPB zSUf zLX12 12 false mcX12_fails ftX12_fails hcX12_fails zULf xcX12_fails 11 = true := by decide +kernel
theorem gcX12_fails {D : zD} {l : Launch} (hD : zWD D) : zCs D l xcX12_fails := trivial
theorem tcX12_fails {D : zD} {l : Launch} (hD : zWD D) : zC D l mcX12_fails := zk_methC ⟨rfl, rfl⟩ hD poolX12 icX12_fails jcX12_fails ftX12_fails_ok (gcX12_fails hD) wcX12_fails ecX12_fails
def ftX12_in : List (Nat × List (Nat × Instr × Nat)) := [(19, [(0, .lload_n 0, 1), (1, .lload_n 2, 1), (2, .lcmp, 1), (3, .ifCond .lt 14, 3), (6, .lload_n 0, 1), (7, .lload 4, 2), (9, .lcmp, 1), (10, .ifCond .gt 7, 3), (13, .iconst 1, 1), (14, .goto 4, 3), (17, .iconst 0, 1), (18, .ireturn, 1)])]
theorem ftX12_in_ok : zk_ftb cX12_in ftX12_in = true := by decide +kernel
def qcX12_in : zQ := ((4, 4), ([(1, 1, 0), (1, 2, 0), (1, 3, 0)], ([(0, 0, 0), (1, (-2147483648), 2147483647), (2, 0, 400), (3, (-9223372036854775808), 9223372036854775807)], [], [], []), ([], [], [], [], [], [])), [(some (0, 0, 0), ([(0, 0, 0)], [], [], []), ([], [], [], [], [], [])), (some (0, 0, 1), ([(0, 0, 0), (1, 0, 2147483647), (3, 0, 9223372036854775807)], [(1, 3, 0), (2, 1, 0)], [], []), ([], [], [], [], [], []))], ([], []), (0, 0))
def mcX12_in : zM := (yX12_in, cX12_in, 6, (some .boolean), { frames := 1, cells := 0, slots := 0, locals := 12 }, qcX12_in)
def hcX12_in : zH := ([], [], [], [], ([], 0, 0), 1)
theorem jcX12_in : zk_txok RX12 hcX12_in.2.2.2.2.1 := zk_txb_ok (p := (0, 0)) (by decide +kernel)
def xcX12_in : List zX := []
theorem wcX12_in : zk_hwsb zcl RX12 mcX12_in.rm xcX12_in [] = true := by decide +kernel
theorem icX12_in : zk_idb zcl RX12 12 false mcX12_in = true := by decide +kernel
theorem ecX12_in : zk_run zcl zft zTT zPF zPB zSUf zLX12 12 false mcX12_in ftX12_in hcX12_in zULf xcX12_in 13 = true := by decide +kernel
theorem gcX12_in {D : zD} {l : Launch} (hD : zWD D) : zCs D l xcX12_in := trivial
theorem tcX12_in {D : zD} {l : Launch} (hD : zWD D) : zC D l mcX12_in := zk_methC ⟨rfl, rfl⟩ hD poolX12 icX12_in jcX12_in ftX12_in_ok (gcX12_in hD) wcX12_in ecX12_in
def ftX12_letter : List (Nat × List (Nat × Instr × Nat)) := [(26, [(0, .aload_n 0, 1), (1, .getfield 201, 3), (4, .iconst 1, 1), (5, .if_icmp .ne 24, 3), (8, .aload_n 0, 1), (9, .getfield 208, 3), (12, .ldc2_w 212, 3), (15, .lcmp, 1), (16, .ifCond .ge 13, 3), (19, .aload_n 0, 1), (20, .getfield 208, 3), (23, .l2i, 1), (24, .iconst 1, 1), (25, .isub, 1)]), (31, [(26, .goto 4, 3), (29, .iconst (-1), 1), (30, .ireturn, 1)])]
theorem ftX12_letter_ok : zk_ftb cX12_letter ftX12_letter = true := by decide +kernel
def qcX12_letter_m : zQ := ((3, 4), ([(2, 1, 0)], ([(0, 0, 0), (2, 0, 4)], [], [], []), ([(1, 43)], [(1, 12, 3, (0, 2, 0))], [], [], [], [])), [(some (0, 0, (-1)), ([(0, 0, 0)], [], [], []), ([], [], [], [], [], [])), (some (0, 3, 0), ([(0, 0, 0), (3, (-1), 25), (2, 1, 1)], [], [], []), ([], [], [], [], [], []))], ([], []), (0, 0))
def mcX12_letter_m : zM := (yX12_letter, cX12_letter, 1, (some .int), { frames := 1, cells := 0, slots := 0, locals := 12 }, qcX12_letter_m)
def hcX12_letter_m : zH := ([], [], [], [], ([], 0, 0), 1)
theorem jcX12_letter_m : zk_txok RX12 hcX12_letter_m.2.2.2.2.1 := zk_txb_ok (p := (0, 0)) (by decide +kernel)
def xcX12_letter_m : List zX := []
theorem wcX12_letter_m : zk_hwsb zcl RX12 mcX12_letter_m.rm xcX12_letter_m [] = true := by decide +kernel
theorem icX12_letter_m : zk_idb zcl RX12 12 false mcX12_letter_m = true := by decide +kernel
theorem ecX12_letter_m : zk_run zcl zft zTT zPF zPB zSUf zLX12 12 false mcX12_letter_m ftX12_letter hcX12_letter_m zULf xcX12_letter_m 18 = true := by decide +kernel
theorem gcX12_letter_m {D : zD} {l : Launch} (hD : zWD D) : zCs D l xcX12_letter_m := trivial
theorem tcX12_letter_m {D : zD} {l : Launch} (hD : zWD D) : zC D l mcX12_letter_m := zk_methC ⟨rfl, rfl⟩ hD poolX12 icX12_letter_m jcX12_letter_m ftX12_letter_ok (gcX12_letter_m hD) wcX12_letter_m ecX12_letter_m
def ftX12_isDigit : List (Nat × List (Nat × Instr × Nat)) := [(18, [(0, .iload_n 0, 1), (1, .bipush 48, 2), (3, .if_icmp .lt 13, 3), (6, .iload_n 0, 1), (7, .bipush 57, 2), (9, .if_icmp .gt 7, 3), (12, .iconst 1, 1), (13, .goto 4, 3), (16, .iconst 0, 1), (17, .ireturn, 1)])]
theorem ftX12_isDigit_ok : zk_ftb cX12_isDigit ftX12_isDigit = true := by decide +kernel
def qcX12_isDigit : zQ := ((2, 2), ([(0, 1, 0)], ([(0, 0, 0), (1, (-1), 255)], [], [], []), ([], [], [], [], [], [])), [(some (0, 0, 0), ([(0, 0, 0), (1, 58, 255)], [], [], []), ([], [], [], [], [], [])), (some (0, 0, 0), ([(0, 0, 0), (1, (-1), 47)], [], [], []), ([], [], [], [], [], [])), (some (0, 0, 1), ([(0, 0, 0), (1, 48, 57)], [], [], []), ([], [], [], [], [], []))], ([], []), (0, 0))
def mcX12_isDigit : zM := (yX12_isDigit, cX12_isDigit, 1, (some .boolean), { frames := 1, cells := 0, slots := 0, locals := 12 }, qcX12_isDigit)
def hcX12_isDigit : zH := ([], [], [], [], ([], 0, 0), 1)
theorem jcX12_isDigit : zk_txok RX12 hcX12_isDigit.2.2.2.2.1 := zk_txb_ok (p := (0, 0)) (by decide +kernel)
def xcX12_isDigit : List zX := []
theorem wcX12_isDigit : zk_hwsb zcl RX12 mcX12_isDigit.rm xcX12_isDigit [] = true := by decide +kernel
theorem icX12_isDigit : zk_idb zcl RX12 12 false mcX12_isDigit = true := by decide +kernel
theorem ecX12_isDigit : zk_run zcl zft zTT zPF zPB zSUf zLX12 12 false mcX12_isDigit ftX12_isDigit hcX12_isDigit zULf xcX12_isDigit 11 = true := by decide +kernel
theorem gcX12_isDigit {D : zD} {l : Launch} (hD : zWD D) : zCs D l xcX12_isDigit := trivial
theorem tcX12_isDigit {D : zD} {l : Launch} (hD : zWD D) : zC D l mcX12_isDigit := zk_methC ⟨rfl, rfl⟩ hD poolX12 icX12_isDigit jcX12_isDigit ftX12_isDigit_ok (gcX12_isDigit hD) wcX12_isDigit ecX12_isDigit
def ftX12_isSmall : List (Nat × List (Nat × Instr × Nat)) := [(18, [(0, .iload_n 0, 1), (1, .bipush 97, 2), (3, .if_icmp .lt 13, 3), (6, .iload_n 0, 1), (7, .bipush 122, 2), (9, .if_icmp .gt 7, 3), (12, .iconst 1, 1), (13, .goto 4, 3), (16, .iconst 0, 1), (17, .ireturn, 1)])]
theorem ftX12_isSmall_ok : zk_ftb cX12_isSmall ftX12_isSmall = true := by decide +kernel
def qcX12_isSmall : zQ := ((2, 2), ([(0, 1, 0)], ([(0, 0, 0), (1, (-1), 255)], [], [], []), ([], [], [], [], [], [])), [(some (0, 0, 0), ([(0, 0, 0), (1, 123, 255)], [], [], []), ([], [], [], [], [], [])), (some (0, 0, 0), ([(0, 0, 0), (1, (-1), 96)], [], [], []), ([], [], [], [], [], [])), (some (0, 0, 1), ([(0, 0, 0), (1, 97, 122)], [], [], []), ([], [], [], [], [], []))], ([], []), (0, 0))
def mcX12_isSmall : zM := (yX12_isSmall, cX12_isSmall, 1, (some .boolean), { frames := 1, cells := 0, slots := 0, locals := 12 }, qcX12_isSmall)
def hcX12_isSmall : zH := ([], [], [], [], ([], 0, 0), 1)
theorem jcX12_isSmall : zk_txok RX12 hcX12_isSmall.2.2.2.2.1 := zk_txb_ok (p := (0, 0)) (by decide +kernel)
def xcX12_isSmall : List zX := []
theorem wcX12_isSmall : zk_hwsb zcl RX12 mcX12_isSmall.rm xcX12_isSmall [] = true := by decide +kernel
theorem icX12_isSmall : zk_idb zcl RX12 12 false mcX12_isSmall = true := by decide +kernel
theorem ecX12_isSmall : zk_run zcl zft zTT zPF zPB zSUf zLX12 12 false mcX12_isSmall ftX12_isSmall hcX12_isSmall zULf xcX12_isSmall 11 = true := by decide +kernel
theorem gcX12_isSmall {D : zD} {l : Launch} (hD : zWD D) : zCs D l xcX12_isSmall := trivial
theorem tcX12_isSmall {D : zD} {l : Launch} (hD : zWD D) : zC D l mcX12_isSmall := zk_methC ⟨rfl, rfl⟩ hD poolX12 icX12_isSmall jcX12_isSmall ftX12_isSmall_ok (gcX12_isSmall hD) wcX12_isSmall ecX12_isSmall
def ftX12_see : List (Nat × List (Nat × Instr × Nat)) := [(23, [(0, .iload_n 1, 1), (1, .aload_n 0, 1), (2, .getfield 173, 3), (5, .if_icmp .ge 16, 3), (8, .aload_n 0, 1), (9, .getfield 7, 3), (12, .iload_n 1, 1), (13, .baload, 1), (14, .sipush 255, 3), (17, .iand, 1), (18, .goto 4, 3), (21, .iconst (-1), 1), (22, .ireturn, 1)])]
theorem ftX12_see_ok : zk_ftb cX12_see ftX12_see = true := by decide +kernel
def qcX12_see_43 : zQ := ((3, 6), ([(2, 1, 0), (0, 2, 0)], ([(0, 0, 0), (2, 0, 1200)], [], [], []), ([(1, 43)], [], [], [], [], [])), [(some (0, 0, (-1)), ([(0, 0, 0), (3, 0, 1200)], [(3, 2, 0)], [], []), ([], [(1, 12, 2, (0, 3, 0))], [], [], [], [])), (some (0, 3, 0), ([(0, 0, 0), (3, 0, 127), (2, 0, 1199), (5, 1, 1200)], [(2, 5, (-1))], [], []), ([(4, 73)], [(1, 12, 0, (2, 4, 0)), (1, 12, 2, (0, 5, 0))], [(4, 73, (0, 2, 0), (0, 3, 0))], [], [], [])), (some (0, 3, 0), ([(0, 0, 0), (3, 128, 255), (2, 0, 1199), (5, 1, 1200)], [(2, 5, (-1))], [], []), ([(4, 73)], [(1, 12, 0, (2, 4, 0)), (1, 12, 2, (0, 5, 0))], [(4, 73, (0, 2, 0), (0, 3, (-256)))], [], [], []))], ([], []), (0, 0))
def mcX12_see_43 : zM := (yX12_see, cX12_see, 2, (some .int), { frames := 1, cells := 0, slots := 0, locals := 12 }, qcX12_see_43)
def hcX12_see_43 : zH := ([], [], [(14, [(5, 0, (-1))])], [], ([], 0, 0), 1)
theorem jcX12_see_43 : zk_txok RX12 hcX12_see_43.2.2.2.2.1 := zk_txb_ok (p := (0, 0)) (by decide +kernel)
def xcX12_see_43 : List zX := []
theorem wcX12_see_43 : zk_hwsb zcl RX12 mcX12_see_43.rm xcX12_see_43 [] = true := by decide +kernel
theorem icX12_see_43 : zk_idb zcl RX12 12 false mcX12_see_43 = true := by decide +kernel
theorem ecX12_see_43 : zk_run zcl zft zTT zPF zPB zSUf zLX12 12 false mcX12_see_43 ftX12_see hcX12_see_43 zULf xcX12_see_43 14 = true := by decide +kernel
theorem gcX12_see_43 {D : zD} {l : Launch} (hD : zWD D) : zCs D l xcX12_see_43 := trivial
theorem tcX12_see_43 {D : zD} {l : Launch} (hD : zWD D) : zC D l mcX12_see_43 := zk_methC ⟨rfl, rfl⟩ hD poolX12 icX12_see_43 jcX12_see_43 ftX12_see_ok (gcX12_see_43 hD) wcX12_see_43 ecX12_see_43
def ftX12_keyAt : List (Nat × List (Nat × Instr × Nat)) := [(26, [(0, .iconst 0, 1), (1, .istore_n 3, 1), (2, .iconst 0, 1), (3, .istore 4, 2), (5, .iconst 0, 1), (6, .istore 5, 2), (8, .iload 5, 2), (10, .ldc 176, 2), (12, .invokevirtual 178, 3), (15, .if_icmp .ge 104, 3), (18, .ldc 176, 2), (20, .iload 5, 2), (22, .invokevirtual 184, 3), (25, .bipush 32, 2)]), (53, [(27, .if_icmp .eq 6, 3), (30, .goto 83, 3), (33, .iload 5, 2), (35, .iload 4, 2), (37, .isub, 1), (38, .iload_n 2, 1), (39, .if_icmp .ne 7, 3), (42, .iconst 1, 1), (43, .goto 4, 3), (46, .iconst 0, 1), (47, .istore 6, 2), (49, .iconst 0, 1), (50, .istore 7, 2), (52, .iload 7, 2)]), (79, [(54, .iload_n 2, 1), (55, .if_icmp .ge 42, 3), (58, .iload 6, 2), (60, .ifCond .eq 37, 3), (63, .ldc 176, 2), (65, .iload 4, 2), (67, .iload 7, 2), (69, .iadd, 1), (70, .invokevirtual 184, 3), (73, .aload_n 0, 1), (74, .iload_n 1, 1), (75, .iload 7, 2), (77, .iadd, 1), (78, .invokevirtual 188, 3)]), (110, [(81, .if_icmp .ne 7, 3), (84, .iconst 1, 1), (85, .goto 4, 3), (88, .iconst 0, 1), (89, .istore 6, 2), (91, .iinc 7 1, 3), (94, .goto (-42), 3), (97, .iload 6, 2), (99, .ifCond .eq 5, 3), (102, .iload_n 3, 1), (103, .ireturn, 1), (104, .iinc 3 1, 3), (107, .iload 5, 2), (109, .iconst 1, 1)]), (121, [(110, .iadd, 1), (111, .istore 4, 2), (113, .iinc 5 1, 3), (116, .goto (-108), 3), (119, .iconst (-1), 1), (120, .ireturn, 1)])]
theorem ftX12_keyAt_ok : zk_ftb cX12_keyAt ftX12_keyAt = true := by decide +kernel
/-- a run, piece by piece -/
theorem zk_run_of {cl : List vw_C} {ft : Nat → Nat → FieldType} {TT : Nat → zS} {PF : Nat → List (Nat × Nat)} {PB : Nat → List Nat} {SU : zSU} {L : zL} {oc : Nat} {ini : Bool} {M : zM} {FTl : List (Nat × List (Nat × Instr × Nat))} {h : zH} {UL : Nat → Nat → zA → List zA} {HX : List zX} {fuel : Nat} (h0 : zk_ex cl ft TT PF PB SU L oc ini M FTl h UL HX fuel 0 (zk_A0 M.cs h.2.2.2.2.2) = true) (h1 : ∀ q ∈ h.1, ∀ B ∈ q.2, (zk_ex cl ft TT PF PB SU L oc ini M FTl h UL HX fuel q.1 B && zk_pos B.2.2.1 (B.2.2.2.2.2.1.1, B.2.2.2.2.2.1.2 + 1)) = true) : zk_run cl ft TT PF PB SU L oc ini M FTl h UL HX fuel = true := by
  unfold zk_run
  rw [h0, Bool.true_and]
  exact List.all_eq_true.mpr (fun q hq => List.all_eq_true.mpr (fun B hB => h1 q hq B hB))
def qcX12_keyAt : zQ := ((4, 5), ([(2, 1, 0), (0, 2, 0), (0, 3, 0)], ([(0, 0, 0), (2, 0, 1199), (3, 1, 1200)], [], [], []), ([(1, 43)], [], [], [], [], [(0, [])])), [(some (0, 0, (-1)), ([(0, 0, 0)], [], [], []), ([], [], [], [], [], [])), (some (0, 4, 0), ([(0, 0, 0), (4, 0, 13), (2, 0, 1197), (3, 3, 6)], [(2, 4, 1196), (3, 4, 4), (4, 3, 9)], [], []), ([], [], [], [], [], []))], ([], []), (0, 0))
def mcX12_keyAt : zM := (yX12_keyAt, cX12_keyAt, 8, (some .int), { frames := 5, cells := 0, slots := 0, locals := 97 }, qcX12_keyAt)
def bcX12_keyAt_104_0 : zA := ([(0, (2, 1, 0)), (1, (0, 2, 0)), (2, (0, 3, 0)), (3, (0, 0, 0)), (5, (0, 0, 4))], [], ([(0, 0, 0), (2, 0, 1199), (3, 1, 1200)], [], [], []), ([(1, 43)], [], [], [], [], [(0, [])]), (4, ([], 13), 0, 0))
def bcX12_keyAt_104_1 : zA := ([(0, (2, 1, 0)), (1, (0, 2, 0)), (2, (0, 3, 0)), (3, (0, 0, 1)), (5, (0, 0, 9))], [], ([(0, 0, 0), (2, 0, 1199), (3, 1, 1200)], [], [], []), ([(1, 43)], [], [], [], [], [(0, [])]), (4, ([], 12), 0, 0))
def bcX12_keyAt_104_2 : zA := ([(0, (2, 1, 0)), (1, (0, 2, 0)), (2, (0, 3, 0)), (3, (0, 0, 2)), (5, (0, 0, 16))], [], ([(0, 0, 0), (2, 0, 1199), (3, 1, 1200)], [], [], []), ([(1, 43)], [], [], [], [], [(0, [])]), (4, ([], 11), 0, 0))
def bcX12_keyAt_104_3 : zA := ([(0, (2, 1, 0)), (1, (0, 2, 0)), (2, (0, 3, 0)), (3, (0, 0, 3)), (5, (0, 0, 22))], [], ([(0, 0, 0), (2, 0, 1199), (3, 1, 1200)], [], [], []), ([(1, 43)], [], [], [], [], [(0, [])]), (4, ([], 10), 0, 0))
def bcX12_keyAt_104_4 : zA := ([(0, (2, 1, 0)), (1, (0, 2, 0)), (2, (0, 3, 0)), (3, (0, 0, 4)), (5, (0, 0, 26))], [], ([(0, 0, 0), (2, 0, 1199), (3, 1, 1200)], [], [], []), ([(1, 43)], [], [], [], [], [(0, [])]), (4, ([], 9), 0, 0))
def bcX12_keyAt_104_5 : zA := ([(0, (2, 1, 0)), (1, (0, 2, 0)), (2, (0, 3, 0)), (3, (0, 0, 5)), (5, (0, 0, 30))], [], ([(0, 0, 0), (2, 0, 1199), (3, 1, 1200)], [], [], []), ([(1, 43)], [], [], [], [], [(0, [])]), (4, ([], 8), 0, 0))
def bcX12_keyAt_104_6 : zA := ([(0, (2, 1, 0)), (1, (0, 2, 0)), (2, (0, 3, 0)), (3, (0, 0, 6)), (5, (0, 0, 36))], [], ([(0, 0, 0), (2, 0, 1199), (3, 1, 1200)], [], [], []), ([(1, 43)], [], [], [], [], [(0, [])]), (4, ([], 7), 0, 0))
def bcX12_keyAt_104_7 : zA := ([(0, (2, 1, 0)), (1, (0, 2, 0)), (2, (0, 3, 0)), (3, (0, 0, 7)), (5, (0, 0, 42))], [], ([(0, 0, 0), (2, 0, 1199), (3, 1, 1200)], [], [], []), ([(1, 43)], [], [], [], [], [(0, [])]), (4, ([], 6), 0, 0))
def bcX12_keyAt_104_8 : zA := ([(0, (2, 1, 0)), (1, (0, 2, 0)), (2, (0, 3, 0)), (3, (0, 0, 8)), (5, (0, 0, 48))], [], ([(0, 0, 0), (2, 0, 1199), (3, 1, 1200)], [], [], []), ([(1, 43)], [], [], [], [], [(0, [])]), (4, ([], 5), 0, 0))
def bcX12_keyAt_104_9 : zA := ([(0, (2, 1, 0)), (1, (0, 2, 0)), (2, (0, 3, 0)), (3, (0, 0, 9)), (5, (0, 0, 54))], [], ([(0, 0, 0), (2, 0, 1199), (3, 1, 1200)], [], [], []), ([(1, 43)], [], [], [], [], [(0, [])]), (4, ([], 4), 0, 0))
def bcX12_keyAt_104_10 : zA := ([(0, (2, 1, 0)), (1, (0, 2, 0)), (2, (0, 3, 0)), (3, (0, 0, 10)), (5, (0, 0, 61))], [], ([(0, 0, 0), (2, 0, 1199), (3, 1, 1200)], [], [], []), ([(1, 43)], [], [], [], [], [(0, [])]), (4, ([], 3), 0, 0))
def bcX12_keyAt_104_11 : zA := ([(0, (2, 1, 0)), (1, (0, 2, 0)), (2, (0, 3, 0)), (3, (0, 0, 11)), (5, (0, 0, 66))], [], ([(0, 0, 0), (2, 0, 1199), (3, 1, 1200)], [], [], []), ([(1, 43)], [], [], [], [], [(0, [])]), (4, ([], 2), 0, 0))
def bcX12_keyAt_104_12 : zA := ([(0, (2, 1, 0)), (1, (0, 2, 0)), (2, (0, 3, 0)), (3, (0, 0, 12)), (5, (0, 0, 72))], [], ([(0, 0, 0), (2, 0, 1199), (3, 1, 1200)], [], [], []), ([(1, 43)], [], [], [], [], [(0, [])]), (4, ([], 1), 0, 0))
def bcX12_keyAt_104_13 : zA := ([(0, (2, 1, 0)), (1, (0, 2, 0)), (2, (0, 3, 0)), (3, (0, 0, 13)), (5, (0, 0, 77))], [], ([(0, 0, 0), (2, 0, 1199), (3, 1, 1200)], [], [], []), ([(1, 43)], [], [], [], [], [(0, [])]), (4, ([], 0), 0, 0))
def hcX12_keyAt : zH := ([(104, [bcX12_keyAt_104_0, bcX12_keyAt_104_1, bcX12_keyAt_104_2, bcX12_keyAt_104_3, bcX12_keyAt_104_4, bcX12_keyAt_104_5, bcX12_keyAt_104_6, bcX12_keyAt_104_7, bcX12_keyAt_104_8, bcX12_keyAt_104_9, bcX12_keyAt_104_10, bcX12_keyAt_104_11, bcX12_keyAt_104_12, bcX12_keyAt_104_13])], [], [], [], ([(176, 14)], 178, 184), 14)
theorem jcX12_keyAt : zk_txok RX12 hcX12_keyAt.2.2.2.2.1 := zk_txb_ok (p := (1407, 1408)) (by decide +kernel)
def xcX12_keyAt : List zX := [(188, 2, 12, mcX12_see_43)]
theorem wcX12_keyAt : zk_hwsb zcl RX12 mcX12_keyAt.rm xcX12_keyAt [(1396, 86, 1393, 1395, 39)] = true := by decide +kernel
theorem icX12_keyAt : zk_idb zcl RX12 12 false mcX12_keyAt = true := by decide +kernel
abbrev vcX12_keyAt (n : Nat) (B : zA) : Bool := zk_ex zcl zft zTT zPF zPB zSUf zLX12 12 false mcX12_keyAt ftX12_keyAt hcX12_keyAt zULf xcX12_keyAt 233 n B && zk_pos B.2.2.1 (B.2.2.2.2.2.1.1, B.2.2.2.2.2.1.2 + 1)
theorem ecX12_keyAt_e : zk_ex zcl zft zTT zPF zPB zSUf zLX12 12 false mcX12_keyAt ftX12_keyAt hcX12_keyAt zULf xcX12_keyAt 233 0 (zk_A0 mcX12_keyAt.cs hcX12_keyAt.2.2.2.2.2) = true := by decide +kernel
theorem ecX12_keyAt_104_0 : vcX12_keyAt 104 bcX12_keyAt_104_0 = true := by decide +kernel
theorem ecX12_keyAt_104_1 : vcX12_keyAt 104 bcX12_keyAt_104_1 = true := by decide +kernel
theorem ecX12_keyAt_104_2 : vcX12_keyAt 104 bcX12_keyAt_104_2 = true := by decide +kernel

