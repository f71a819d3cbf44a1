/-! METHODS (printed by wip/t3) -/
def ftX11_forgetChanges : List (Nat × List (Nat × Instr × Nat)) := [(24, [(0, .iconst 0, 1), (1, .istore_n 1, 1), (2, .iload_n 1, 1), (3, .iconst 2, 1), (4, .if_icmp .ge 18, 3), (7, .aload_n 0, 1), (8, .getfield 38, 3), (11, .iload_n 1, 1), (12, .aaload, 1), (13, .invokevirtual 346, 3), (16, .iinc 1 1, 3), (19, .goto (-17), 3), (22, .aload_n 0, 1), (23, .iconst 0, 1)]), (33, [(24, .putfield 97, 3), (27, .aload_n 0, 1), (28, .iconst 0, 1), (29, .putfield 100, 3), (32, .return_, 1)])]
theorem ftX11_forgetChanges_ok : zk_ftb cX11_forgetChanges ftX11_forgetChanges = true := by decide +kernel
def qcX11_forgetChanges : zQ := ((2, 2), ([(2, 1, 0)], ([(0, 0, 0)], [], [], []), ([(1, 42)], [], [], [], [], [])), [(none, ([(0, 0, 0)], [], [], []), ([], [], [], [], [], []))], ([(31, 6), (42, 14), (42, 15)], [51]), (0, 0))
def mcX11_forgetChanges : zM := (yX11_forgetChanges, cX11_forgetChanges, 2, none, { frames := 2, cells := 0, slots := 0, locals := 33 }, qcX11_forgetChanges)
def hcX11_forgetChanges : zH := ([(2, [([(0, (2, 1, 0)), (1, (0, 2, 0))], [], ([(0, 0, 0), (2, 0, 2)], [], [], []), ([(1, 42)], [], [], [], [], []), (3, ([(2, (-1))], 2), 0, 0))])], [], [], [], ([], 0, 0), 5)
theorem jcX11_forgetChanges : zk_txok RX11 hcX11_forgetChanges.2.2.2.2.1 := zk_txb_ok (p := (0, 0)) (by decide +kernel)
def xcX11_forgetChanges : List zX := [(346, 2, 4, mcX4_forgetChanges)]
theorem wcX11_forgetChanges : zk_hwsb zcl RX11 mcX11_forgetChanges.rm xcX11_forgetChanges [(666, 79, 663, 664, 665)] = true := by decide +kernel
theorem icX11_forgetChanges : zk_idb zcl RX11 11 false mcX11_forgetChanges = true := by decide +kernel
theorem ecX11_forgetChanges : zk_run zcl zft zTT zPF zPB zSUf zLX11 11 false mcX11_forgetChanges ftX11_forgetChanges hcX11_forgetChanges zULf xcX11_forgetChanges 12 = true := by decide +kernel
theorem gcX11_forgetChanges {D : zD} {l : Launch} (hD : zWD D) : zCs D l xcX11_forgetChanges := ⟨tcX4_forgetChanges hD, trivial⟩
theorem tcX11_forgetChanges {D : zD} {l : Launch} (hD : zWD D) : zC D l mcX11_forgetChanges := zk_methC ⟨rfl, rfl⟩ hD poolX11 icX11_forgetChanges jcX11_forgetChanges ftX11_forgetChanges_ok (gcX11_forgetChanges hD) wcX11_forgetChanges ecX11_forgetChanges
def ftX4_clear : List (Nat × List (Nat × Instr × Nat)) := [(11, [(0, .aload_n 0, 1), (1, .iconst 0, 1), (2, .putfield 28, 3), (5, .aload_n 0, 1), (6, .iconst 0, 1), (7, .putfield 32, 3), (10, .return_, 1)])]
theorem ftX4_clear_ok : zk_ftb cX4_clear ftX4_clear = true := by decide +kernel
def qcX4_clear : zQ := ((2, 2), ([(2, 1, 0)], ([(0, 0, 0)], [], [], []), ([(1, 31)], [], [], [], [], [])), [(none, ([(0, 0, 0)], [], [], []), ([], [], [], [], [], []))], ([(31, 5), (31, 6)], []), (0, 0))
def mcX4_clear : zM := (yX4_clear, cX4_clear, 1, none, { frames := 1, cells := 0, slots := 0, locals := 12 }, qcX4_clear)
def hcX4_clear : zH := ([], [], [], [], ([], 0, 0), 1)
theorem jcX4_clear : zk_txok RX4 hcX4_clear.2.2.2.2.1 := zk_txb_ok (p := (0, 0)) (by decide +kernel)
def xcX4_clear : List zX := []
theorem wcX4_clear : zk_hwsb zcl RX4 mcX4_clear.rm xcX4_clear [] = true := by decide +kernel
theorem icX4_clear : zk_idb zcl RX4 4 false mcX4_clear = true := by decide +kernel
theorem ecX4_clear : zk_run zcl zft zTT zPF zPB zSUf zLX4 4 false mcX4_clear ftX4_clear hcX4_clear zULf xcX4_clear 9 = true := by decide +kernel
theorem gcX4_clear {D : zD} {l : Launch} (hD : zWD D) : zCs D l xcX4_clear := trivial
theorem tcX4_clear {D : zD} {l : Launch} (hD : zWD D) : zC D l mcX4_clear := zk_methC ⟨rfl, rfl⟩ hD poolX4 icX4_clear jcX4_clear ftX4_clear_ok (gcX4_clear hD) wcX4_clear ecX4_clear
def ftX8_rewind : List (Nat × List (Nat × Instr × Nat)) := [(6, [(0, .aload_n 0, 1), (1, .iconst 0, 1), (2, .putfield 19, 3), (5, .return_, 1)])]
theorem ftX8_rewind_ok : zk_ftb cX8_rewind ftX8_rewind = true := by decide +kernel
def qcX8_rewind : zQ := ((2, 2), ([(2, 1, 0)], ([(0, 0, 0)], [], [], []), ([(1, 30)], [], [], [], [], [])), [(none, ([(0, 0, 0)], [], [], []), ([], [], [], [], [], []))], ([(30, 2)], []), (0, 0))
def mcX8_rewind : zM := (yX8_rewind, cX8_rewind, 1, none, { frames := 1, cells := 0, slots := 0, locals := 12 }, qcX8_rewind)
def hcX8_rewind : zH := ([], [], [], [], ([], 0, 0), 1)
theorem jcX8_rewind : zk_txok RX8 hcX8_rewind.2.2.2.2.1 := zk_txb_ok (p := (0, 0)) (by decide +kernel)
def xcX8_rewind : List zX := []
theorem wcX8_rewind : zk_hwsb zcl RX8 mcX8_rewind.rm xcX8_rewind [] = true := by decide +kernel
theorem icX8_rewind : zk_idb zcl RX8 8 false mcX8_rewind = true := by decide +kernel
theorem ecX8_rewind : zk_run zcl zft zTT zPF zPB zSUf zLX8 8 false mcX8_rewind ftX8_rewind hcX8_rewind zULf xcX8_rewind 6 = true := by decide +kernel
theorem gcX8_rewind {D : zD} {l : Launch} (hD : zWD D) : zCs D l xcX8_rewind := trivial
theorem tcX8_rewind {D : zD} {l : Launch} (hD : zWD D) : zC D l mcX8_rewind := zk_methC ⟨rfl, rfl⟩ hD poolX8 icX8_rewind jcX8_rewind ftX8_rewind_ok (gcX8_rewind hD) wcX8_rewind ecX8_rewind
def ftX6_begin : List (Nat × List (Nat × Instr × Nat)) := [(18, [(0, .aload_n 0, 1), (1, .iconst 0, 1), (2, .putfield 15, 3), (5, .aload_n 0, 1), (6, .iconst (-1), 1), (7, .putfield 19, 3), (10, .aload_n 0, 1), (11, .getfield 9, 3), (14, .invokevirtual 22, 3), (17, .return_, 1)])]
theorem ftX6_begin_ok : zk_ftb cX6_begin ftX6_begin = true := by decide +kernel
def qcX6_begin : zQ := ((2, 2), ([(2, 1, 0)], ([(0, 0, 0)], [], [], []), ([(1, 34)], [], [], [], [], [])), [(none, ([(0, 0, 0)], [], [], []), ([], [], [], [], [], []))], ([(30, 2), (34, 1), (34, 2)], []), (0, 0))
def mcX6_begin : zM := (yX6_begin, cX6_begin, 1, none, { frames := 2, cells := 0, slots := 0, locals := 32 }, qcX6_begin)
def hcX6_begin : zH := ([], [], [], [], ([], 0, 0), 1)
theorem jcX6_begin : zk_txok RX6 hcX6_begin.2.2.2.2.1 := zk_txb_ok (p := (0, 0)) (by decide +kernel)
def xcX6_begin : List zX := [(22, 2, 8, mcX8_rewind)]
theorem wcX6_begin : zk_hwsb zcl RX6 mcX6_begin.rm xcX6_begin [(532, 76, 529, 530, 531)] = true := by decide +kernel
theorem icX6_begin : zk_idb zcl RX6 6 false mcX6_begin = true := by decide +kernel
theorem ecX6_begin : zk_run zcl zft zTT zPF zPB zSUf zLX6 6 false mcX6_begin ftX6_begin hcX6_begin zULf xcX6_begin 12 = true := by decide +kernel
theorem gcX6_begin {D : zD} {l : Launch} (hD : zWD D) : zCs D l xcX6_begin := ⟨tcX8_rewind hD, trivial⟩
theorem tcX6_begin {D : zD} {l : Launch} (hD : zWD D) : zC D l mcX6_begin := zk_methC ⟨rfl, rfl⟩ hD poolX6 icX6_begin jcX6_begin ftX6_begin_ok (gcX6_begin hD) wcX6_begin ecX6_begin
def ftX6_fail : List (Nat × List (Nat × Instr × Nat)) := [(18, [(0, .aload_n 0, 1), (1, .iload_n 1, 1), (2, .putfield 15, 3), (5, .aload_n 0, 1), (6, .aload_n 0, 1), (7, .getfield 9, 3), (10, .getfield 27, 3), (13, .putfield 19, 3), (16, .iconst 0, 1), (17, .ireturn, 1)])]
theorem ftX6_fail_ok : zk_ftb cX6_fail ftX6_fail = true := by decide +kernel
def qcX6_fail : zQ := ((3, 3), ([(2, 1, 0), (0, 2, 0)], ([(0, 0, 0), (2, 1, 6)], [], [], []), ([(1, 34)], [], [], [], [], [])), [(some (0, 0, 0), ([(0, 0, 0)], [], [], []), ([], [], [], [], [], []))], ([(34, 1), (34, 2)], []), (0, 0))
def mcX6_fail : zM := (yX6_fail, cX6_fail, 2, (some .boolean), { frames := 1, cells := 0, slots := 0, locals := 12 }, qcX6_fail)
def hcX6_fail : zH := ([], [], [], [], ([], 0, 0), 1)
theorem jcX6_fail : zk_txok RX6 hcX6_fail.2.2.2.2.1 := zk_txb_ok (p := (0, 0)) (by decide +kernel)
def xcX6_fail : List zX := []
theorem wcX6_fail : zk_hwsb zcl RX6 mcX6_fail.rm xcX6_fail [] = true := by decide +kernel
theorem icX6_fail : zk_idb zcl RX6 6 false mcX6_fail = true := by decide +kernel
theorem ecX6_fail : zk_run zcl zft zTT zPF zPB zSUf zLX6 6 false mcX6_fail ftX6_fail hcX6_fail zULf xcX6_fail 12 = true := by decide +kernel
theorem gcX6_fail {D : zD} {l : Launch} (hD : zWD D) : zCs D l xcX6_fail := trivial
theorem tcX6_fail {D : zD} {l : Launch} (hD : zWD D) : zC D l mcX6_fail := zk_methC ⟨rfl, rfl⟩ hD poolX6 icX6_fail jcX6_fail ftX6_fail_ok (gcX6_fail hD) wcX6_fail ecX6_fail
def ftX8_isBlank : List (Nat × List (Nat × Instr × Nat)) := [(18, [(0, .iload_n 0, 1), (1, .bipush 32, 2), (3, .if_icmp .eq 9, 3), (6, .iload_n 0, 1), (7, .bipush 10, 2), (9, .if_icmp .ne 7, 3), (12, .iconst 1, 1), (13, .goto 4, 3), (16, .iconst 0, 1), (17, .ireturn, 1)])]
theorem ftX8_isBlank_ok : zk_ftb cX8_isBlank ftX8_isBlank = true := by decide +kernel
def qcX8_isBlank : zQ := ((2, 2), ([(0, 1, 0)], ([(0, 0, 0), (1, (-128), 127)], [], [], []), ([], [], [], [], [], [])), [(some (0, 0, 0), ([(0, 0, 0)], [], [], []), ([], [], [], [], [], [])), (some (0, 0, 1), ([(0, 0, 0), (1, 10, 32)], [], [], []), ([], [], [], [], [], []))], ([], []), (0, 0))
def mcX8_isBlank : zM := (yX8_isBlank, cX8_isBlank, 1, (some .boolean), { frames := 1, cells := 0, slots := 0, locals := 12 }, qcX8_isBlank)
def hcX8_isBlank : zH := ([], [], [], [], ([], 0, 0), 1)
theorem jcX8_isBlank : zk_txok RX8 hcX8_isBlank.2.2.2.2.1 := zk_txb_ok (p := (0, 0)) (by decide +kernel)
def xcX8_isBlank : List zX := []
theorem wcX8_isBlank : zk_hwsb zcl RX8 mcX8_isBlank.rm xcX8_isBlank [] = true := by decide +kernel
theorem icX8_isBlank : zk_idb zcl RX8 8 false mcX8_isBlank = true := by decide +kernel
theorem ecX8_isBlank : zk_run zcl zft zTT zPF zPB zSUf zLX8 8 false mcX8_isBlank ftX8_isBlank hcX8_isBlank zULf xcX8_isBlank 11 = true := by decide +kernel
theorem gcX8_isBlank {D : zD} {l : Launch} (hD : zWD D) : zCs D l xcX8_isBlank := trivial
theorem tcX8_isBlank {D : zD} {l : Launch} (hD : zWD D) : zC D l mcX8_isBlank := zk_methC ⟨rfl, rfl⟩ hD poolX8 icX8_isBlank jcX8_isBlank ftX8_isBlank_ok (gcX8_isBlank hD) wcX8_isBlank ecX8_isBlank
def ftX8_isDigit : List (Nat × List (Nat × Instr × Nat)) := [(18, [(0, .iload_n 0, 1), (1, .bipush 48, 2), (3, .if_icmp .lt 13, 3), (6, .iload_n 0, 1), (7, .bipush 57, 2), (9, .if_icmp .gt 7, 3), (12, .iconst 1, 1), (13, .goto 4, 3), (16, .iconst 0, 1), (17, .ireturn, 1)])]
theorem ftX8_isDigit_ok : zk_ftb cX8_isDigit ftX8_isDigit = true := by decide +kernel
def qcX8_isDigit : zQ := ((2, 2), ([(0, 1, 0)], ([(0, 0, 0), (1, (-128), 127)], [], [], []), ([], [], [], [], [], [])), [(some (0, 0, 0), ([(0, 0, 0)], [], [], []), ([], [], [], [], [], [])), (some (0, 0, 1), ([(0, 0, 0), (1, 48, 57)], [], [], []), ([], [], [], [], [], []))], ([], []), (0, 0))
def mcX8_isDigit : zM := (yX8_isDigit, cX8_isDigit, 1, (some .boolean), { frames := 1, cells := 0, slots := 0, locals := 12 }, qcX8_isDigit)
def hcX8_isDigit : zH := ([], [], [], [], ([], 0, 0), 1)
theorem jcX8_isDigit : zk_txok RX8 hcX8_isDigit.2.2.2.2.1 := zk_txb_ok (p := (0, 0)) (by decide +kernel)
def xcX8_isDigit : List zX := []
theorem wcX8_isDigit : zk_hwsb zcl RX8 mcX8_isDigit.rm xcX8_isDigit [] = true := by decide +kernel
theorem icX8_isDigit : zk_idb zcl RX8 8 false mcX8_isDigit = true := by decide +kernel
theorem ecX8_isDigit : zk_run zcl zft zTT zPF zPB zSUf zLX8 8 false mcX8_isDigit ftX8_isDigit hcX8_isDigit zULf xcX8_isDigit 11 = true := by decide +kernel
theorem gcX8_isDigit {D : zD} {l : Launch} (hD : zWD D) : zCs D l xcX8_isDigit := trivial
theorem tcX8_isDigit {D : zD} {l : Launch} (hD : zWD D) : zC D l mcX8_isDigit := zk_methC ⟨rfl, rfl⟩ hD poolX8 icX8_isDigit jcX8_isDigit ftX8_isDigit_ok (gcX8_isDigit hD) wcX8_isDigit ecX8_isDigit
def ftX8_isSmall : List (Nat × List (Nat × Instr × Nat)) := [(18, [(0, .iload_n 0, 1), (1, .bipush 97, 2), (3, .if_icmp .lt 13, 3), (6, .iload_n 0, 1), (7, .bipush 122, 2), (9, .if_icmp .gt 7, 3), (12, .iconst 1, 1), (13, .goto 4, 3), (16, .iconst 0, 1), (17, .ireturn, 1)])]
theorem ftX8_isSmall_ok : zk_ftb cX8_isSmall ftX8_isSmall = true := by decide +kernel
def qcX8_isSmall : zQ := ((2, 2), ([(0, 1, 0)], ([(0, 0, 0), (1, (-128), 127)], [], [], []), ([], [], [], [], [], [])), [(some (0, 0, 0), ([(0, 0, 0)], [], [], []), ([], [], [], [], [], [])), (some (0, 0, 1), ([(0, 0, 0), (1, 97, 122)], [], [], []), ([], [], [], [], [], []))], ([], []), (0, 0))
def mcX8_isSmall : zM := (yX8_isSmall, cX8_isSmall, 1, (some .boolean), { frames := 1, cells := 0, slots := 0, locals := 12 }, qcX8_isSmall)
def hcX8_isSmall : zH := ([], [], [], [], ([], 0, 0), 1)
theorem jcX8_isSmall : zk_txok RX8 hcX8_isSmall.2.2.2.2.1 := zk_txb_ok (p := (0, 0)) (by decide +kernel)
def xcX8_isSmall : List zX := []
theorem wcX8_isSmall : zk_hwsb zcl RX8 mcX8_isSmall.rm xcX8_isSmall [] = true := by decide +kernel
theorem icX8_isSmall : zk_idb zcl RX8 8 false mcX8_isSmall = true := by decide +kernel
theorem ecX8_isSmall : zk_run zcl zft zTT zPF zPB zSUf zLX8 8 false mcX8_isSmall ftX8_isSmall hcX8_isSmall zULf xcX8_isSmall 11 = true := by decide +kernel
theorem gcX8_isSmall {D : zD} {l : Launch} (hD : zWD D) : zCs D l xcX8_isSmall := trivial
theorem tcX8_isSmall {D : zD} {l : Launch} (hD : zWD D) : zC D l mcX8_isSmall := zk_methC ⟨rfl, rfl⟩ hD poolX8 icX8_isSmall jcX8_isSmall ftX8_isSmall_ok (gcX8_isSmall hD) wcX8_isSmall ecX8_isSmall
def ftX8_takeNumber : List (Nat × List (Nat × Instr × Nat)) := [(28, [(0, .aload_n 0, 1), (1, .getfield 19, 3), (4, .aload_n 0, 1), (5, .getfield 15, 3), (8, .if_icmp .ge 73, 3), (11, .aload_n 0, 1), (12, .getfield 9, 3), (15, .aload_n 0, 1), (16, .getfield 19, 3), (19, .baload, 1), (20, .invokestatic 48, 3), (23, .ifCond .eq 58, 3), (26, .aload_n 0, 1), (27, .getfield 29, 3)]), (54, [(30, .iconst 5, 1), (31, .if_icmp .ge 27, 3), (34, .aload_n 0, 1), (35, .bipush 10, 2), (37, .aload_n 0, 1), (38, .getfield 36, 3), (41, .imul, 1), (42, .aload_n 0, 1), (43, .getfield 9, 3), (46, .aload_n 0, 1), (47, .getfield 19, 3), (50, .baload, 1), (51, .bipush 48, 2), (53, .isub, 1)]), (76, [(54, .iadd, 1), (55, .putfield 36, 3), (58, .aload_n 0, 1), (59, .dup, 1), (60, .getfield 29, 3), (63, .iconst 1, 1), (64, .iadd, 1), (65, .putfield 29, 3), (68, .aload_n 0, 1), (69, .dup, 1), (70, .getfield 19, 3), (73, .iconst 1, 1), (74, .iadd, 1), (75, .putfield 19, 3)]), (99, [(78, .goto (-78), 3), (81, .aload_n 0, 1), (82, .aload_n 0, 1), (83, .getfield 29, 3), (86, .iconst 5, 1), (87, .if_icmp .gt 7, 3), (90, .iconst 2, 1), (91, .goto 4, 3), (94, .iconst 4, 1), (95, .putfield 39, 3), (98, .return_, 1)])]
theorem ftX8_takeNumber_ok : zk_ftb cX8_takeNumber ftX8_takeNumber = true := by decide +kernel
def qcX8_takeNumber : zQ := ((2, 2), ([(2, 1, 0)], ([(0, 0, 0)], [], [], []), ([(1, 30)], [(1, 8, 5, (0, 0, 0))], [], [], [], [])), [(none, ([(0, 0, 0)], [], [], []), ([], [], [], [], [], []))], ([(30, 2), (30, 3), (30, 5), (30, 7)], []), (0, 0))
def mcX8_takeNumber : zM := (yX8_takeNumber, cX8_takeNumber, 1, none, { frames := 2, cells := 0, slots := 0, locals := 32 }, qcX8_takeNumber)
def hcX8_takeNumber : zH := ([(0, [([(0, (2, 1, 0))], [], ([(0, 0, 0), (2, 1, 1200), (3, 1, 1200), (4, (-2147483648), 2147483647), (6, 1, 1200)], [(2, 6, 0), (3, 2, 0)], [], []), ([(5, 44), (1, 30)], [(1, 8, 2, (0, 2, 0)), (1, 8, 5, (0, 3, 0)), (1, 8, 7, (0, 4, 0)), (1, 8, 0, (2, 5, 0)), (1, 8, 1, (0, 6, 0))], [], [], [], []), (7, ([(2, (-1))], 1200), 0, 0))])], [], [(65, [(4, 0, 0)])], [], ([], 0, 0), 2401)
theorem jcX8_takeNumber : zk_txok RX8 hcX8_takeNumber.2.2.2.2.1 := zk_txb_ok (p := (0, 0)) (by decide +kernel)
def xcX8_takeNumber : List zX := [(48, 0, 0, mcX8_isDigit)]
theorem wcX8_takeNumber : zk_hwsb zcl RX8 mcX8_takeNumber.rm xcX8_takeNumber [(550, 76, 548, 549, 0)] = true := by decide +kernel
theorem icX8_takeNumber : zk_idb zcl RX8 8 false mcX8_takeNumber = true := by decide +kernel
theorem ecX8_takeNumber : zk_run zcl zft zTT zPF zPB zSUf zLX8 8 false mcX8_takeNumber ftX8_takeNumber hcX8_takeNumber zULf xcX8_takeNumber 45 = true := by decide +kernel
theorem gcX8_takeNumber {D : zD} {l : Launch} (hD : zWD D) : zCs D l xcX8_takeNumber := ⟨tcX8_isDigit hD, trivial⟩
theorem tcX8_takeNumber {D : zD} {l : Launch} (hD : zWD D) : zC D l mcX8_takeNumber := zk_methC ⟨rfl, rfl⟩ hD poolX8 icX8_takeNumber jcX8_takeNumber ftX8_takeNumber_ok (gcX8_takeNumber hD) wcX8_takeNumber ecX8_takeNumber
def ftX8_takeWord : List (Nat × List (Nat × Instr × Nat)) := [(28, [(0, .aload_n 0, 1), (1, .getfield 19, 3), (4, .aload_n 0, 1), (5, .getfield 15, 3), (8, .if_icmp .ge 67, 3), (11, .aload_n 0, 1), (12, .getfield 9, 3), (15, .aload_n 0, 1), (16, .getfield 19, 3), (19, .baload, 1), (20, .invokestatic 42, 3), (23, .ifCond .eq 52, 3), (26, .aload_n 0, 1), (27, .aload_n 0, 1)]), (49, [(28, .getfield 32, 3), (31, .iconst 5, 1), (32, .lshl, 1), (33, .aload_n 0, 1), (34, .getfield 9, 3), (37, .aload_n 0, 1), (38, .getfield 19, 3), (41, .baload, 1), (42, .bipush 97, 2), (44, .isub, 1), (45, .iconst 1, 1), (46, .iadd, 1), (47, .i2l, 1), (48, .lor, 1)]), (73, [(49, .putfield 32, 3), (52, .aload_n 0, 1), (53, .dup, 1), (54, .getfield 29, 3), (57, .iconst 1, 1), (58, .iadd, 1), (59, .putfield 29, 3), (62, .aload_n 0, 1), (63, .dup, 1), (64, .getfield 19, 3), (67, .iconst 1, 1), (68, .iadd, 1), (69, .putfield 19, 3), (72, .goto (-72), 3)]), (94, [(75, .aload_n 0, 1), (76, .aload_n 0, 1), (77, .getfield 29, 3), (80, .bipush 10, 2), (82, .if_icmp .gt 7, 3), (85, .iconst 1, 1), (86, .goto 4, 3), (89, .iconst 4, 1), (90, .putfield 39, 3), (93, .return_, 1)])]
theorem ftX8_takeWord_ok : zk_ftb cX8_takeWord ftX8_takeWord = true := by decide +kernel
def qcX8_takeWord : zQ := ((2, 2), ([(2, 1, 0)], ([(0, 0, 0)], [], [], []), ([(1, 30)], [(1, 8, 5, (0, 0, 0))], [], [], [], [])), [(none, ([(0, 0, 0)], [], [], []), ([], [], [], [], [], []))], ([(30, 2), (30, 3), (30, 5), (30, 6)], []), (0, 0))
def mcX8_takeWord : zM := (yX8_takeWord, cX8_takeWord, 1, none, { frames := 2, cells := 0, slots := 0, locals := 32 }, qcX8_takeWord)
def hcX8_takeWord : zH := ([(0, [([(0, (2, 1, 0))], [], ([(0, 0, 0), (2, 1, 1200), (3, 1, 1200), (4, (-9223372036854775808), 9223372036854775807), (6, 1, 1200)], [(2, 6, 0), (3, 2, 0)], [], []), ([(5, 44), (1, 30)], [(1, 8, 2, (0, 2, 0)), (1, 8, 5, (0, 3, 0)), (1, 8, 6, (1, 4, 0)), (1, 8, 0, (2, 5, 0)), (1, 8, 1, (0, 6, 0))], [], [], [], []), (7, ([(2, (-1))], 1200), 0, 0))])], [], [(59, [(4, 0, 0)])], [], ([], 0, 0), 2401)
theorem jcX8_takeWord : zk_txok RX8 hcX8_takeWord.2.2.2.2.1 := zk_txb_ok (p := (0, 0)) (by decide +kernel)
def xcX8_takeWord : List zX := [(42, 0, 0, mcX8_isSmall)]
theorem wcX8_takeWord : zk_hwsb zcl RX8 mcX8_takeWord.rm xcX8_takeWord [(543, 76, 541, 542, 0)] = true := by decide +kernel
theorem icX8_takeWord : zk_idb zcl RX8 8 false mcX8_takeWord = true := by decide +kernel
theorem ecX8_takeWord : zk_run zcl zft zTT zPF zPB zSUf zLX8 8 false mcX8_takeWord ftX8_takeWord hcX8_takeWord zULf xcX8_takeWord 44 = true := by decide +kernel
theorem gcX8_takeWord {D : zD} {l : Launch} (hD : zWD D) : zCs D l xcX8_takeWord := ⟨tcX8_isSmall hD, trivial⟩
theorem tcX8_takeWord {D : zD} {l : Launch} (hD : zWD D) : zC D l mcX8_takeWord := zk_methC ⟨rfl, rfl⟩ hD poolX8 icX8_takeWord jcX8_takeWord ftX8_takeWord_ok (gcX8_takeWord hD) wcX8_takeWord ecX8_takeWord
def ftX8_step : List (Nat × List (Nat × Instr × Nat)) := [(28, [(0, .aload_n 0, 1), (1, .getfield 19, 3), (4, .aload_n 0, 1), (5, .getfield 15, 3), (8, .if_icmp .ge 31, 3), (11, .aload_n 0, 1), (12, .getfield 9, 3), (15, .aload_n 0, 1), (16, .getfield 19, 3), (19, .baload, 1), (20, .invokestatic 22, 3), (23, .ifCond .eq 16, 3), (26, .aload_n 0, 1), (27, .dup, 1)]), (54, [(28, .getfield 19, 3), (31, .iconst 1, 1), (32, .iadd, 1), (33, .putfield 19, 3), (36, .goto (-36), 3), (39, .aload_n 0, 1), (40, .aload_n 0, 1), (41, .getfield 19, 3), (44, .putfield 26, 3), (47, .aload_n 0, 1), (48, .iconst 0, 1), (49, .putfield 29, 3), (52, .aload_n 0, 1), (53, .lconst 0, 1)]), (82, [(54, .putfield 32, 3), (57, .aload_n 0, 1), (58, .iconst 0, 1), (59, .putfield 36, 3), (62, .aload_n 0, 1), (63, .getfield 19, 3), (66, .aload_n 0, 1), (67, .getfield 15, 3), (70, .if_icmp .lt 11, 3), (73, .aload_n 0, 1), (74, .iconst 0, 1), (75, .putfield 39, 3), (78, .goto 80, 3), (81, .aload_n 0, 1)]), (112, [(82, .getfield 9, 3), (85, .aload_n 0, 1), (86, .getfield 19, 3), (89, .baload, 1), (90, .invokestatic 42, 3), (93, .ifCond .eq 10, 3), (96, .aload_n 0, 1), (97, .invokevirtual 45, 3), (100, .goto 58, 3), (103, .aload_n 0, 1), (104, .getfield 9, 3), (107, .aload_n 0, 1), (108, .getfield 19, 3), (111, .baload, 1)]), (141, [(112, .invokestatic 48, 3), (115, .ifCond .eq 10, 3), (118, .aload_n 0, 1), (119, .invokevirtual 51, 3), (122, .goto 36, 3), (125, .aload_n 0, 1), (126, .aload_n 0, 1), (127, .getfield 9, 3), (130, .aload_n 0, 1), (131, .getfield 19, 3), (134, .baload, 1), (135, .bipush 59, 2), (137, .if_icmp .ne 7, 3), (140, .iconst 3, 1)]), (159, [(141, .goto 4, 3), (144, .iconst 4, 1), (145, .putfield 39, 3), (148, .aload_n 0, 1), (149, .dup, 1), (150, .getfield 19, 3), (153, .iconst 1, 1), (154, .iadd, 1), (155, .putfield 19, 3), (158, .return_, 1)])]
theorem ftX8_step_ok : zk_ftb cX8_step ftX8_step = true := by decide +kernel
def qcX8_step : zQ := ((2, 2), ([(2, 1, 0)], ([(0, 0, 0)], [], [], []), ([(1, 30)], [], [], [], [], [])), [(none, ([(0, 0, 0)], [], [], []), ([], [], [], [], [], []))], ([(30, 2), (30, 3), (30, 4), (30, 5), (30, 6), (30, 7)], []), (0, 0))
def mcX8_step : zM := (yX8_step, cX8_step, 1, none, { frames := 3, cells := 0, slots := 0, locals := 52 }, qcX8_step)
def hcX8_step : zH := ([(0, [([(0, (2, 1, 0))], [], ([(0, 0, 0), (2, 1, 1200), (4, 1, 1200)], [(2, 4, 0)], [], []), ([(3, 44), (1, 30)], [(1, 8, 2, (0, 2, 0)), (1, 8, 0, (2, 3, 0)), (1, 8, 1, (0, 4, 0))], [], [], [], []), (5, ([(2, (-1))], 1200), 0, 0))])], [], [], [], ([], 0, 0), 2401)
theorem jcX8_step : zk_txok RX8 hcX8_step.2.2.2.2.1 := zk_txb_ok (p := (0, 0)) (by decide +kernel)
def xcX8_step : List zX := [(22, 0, 0, mcX8_isBlank), (42, 0, 0, mcX8_isSmall), (45, 2, 8, mcX8_takeWord), (48, 0, 0, mcX8_isDigit), (51, 2, 8, mcX8_takeNumber)]
theorem wcX8_step : zk_hwsb zcl RX8 mcX8_step.rm xcX8_step [(540, 76, 538, 539, 0), (543, 76, 541, 542, 0), (547, 76, 544, 546, 1), (550, 76, 548, 549, 0), (554, 76, 551, 553, 2)] = true := by decide +kernel
theorem icX8_step : zk_idb zcl RX8 8 false mcX8_step = true := by decide +kernel
theorem ecX8_step : zk_run zcl zft zTT zPF zPB zSUf zLX8 8 false mcX8_step ftX8_step hcX8_step zULf xcX8_step 64 = true := by decide +kernel
theorem gcX8_step {D : zD} {l : Launch} (hD : zWD D) : zCs D l xcX8_step := ⟨tcX8_isBlank hD, tcX8_isSmall hD, tcX8_takeWord hD, tcX8_isDigit hD, tcX8_takeNumber hD, trivial⟩
theorem tcX8_step {D : zD} {l : Launch} (hD : zWD D) : zC D l mcX8_step := zk_methC ⟨rfl, rfl⟩ hD poolX8 icX8_step jcX8_step ftX8_step_ok (gcX8_step hD) wcX8_step ecX8_step
