/-! METHODS (printed by wip/t6) -/
def qcX8_put_u2 : zQ := ((10, 10), ([(2, 1, 0), (0, 2, 0)], ([(0, 0, 0), (2, (-2147483648), 2147483647), (4, 0, 1196)], [], [], []), ([(1, 30), (3, 44), (5, 73)], [(1, 8, 0, (2, 3, 0)), (1, 8, 1, (0, 4, 0))], [], [], [], [(109, []), (341, [(2, 3, 0), (2, 5, 0), (0, 4, 0), (0, 0, 8), (0, 6, 0), (0, 7, 0), (0, 2, 0), (0, 8, 0), (0, 9, 0)])])), [(none, ([(0, 0, 0)], [], [], []), ([], [(1, 8, 1, (0, 4, 4))], [], [], [], [(341, [(2, 3, 0), (2, 5, 0), (0, 4, 4), (0, 0, 12), (0, 6, 0), (0, 7, 0), (0, 2, 0), (0, 8, 0), (0, 9, 0)]), (109, [])]))], ([(30, 1)], [44]), (0, 0))
def mcX8_put_u2 : zM := (yX8_put, cX8_put, 3, none, { frames := 1, cells := 0, slots := 0, locals := 12 }, qcX8_put_u2)
def hcX8_put_u2 : zH := ([], [], [(27, [(8, 0, 0)]), (28, [(8, 0, 0)])], [], ([], 0, 0), 1)
theorem jcX8_put_u2 : zk_txok RX8 hcX8_put_u2.2.2.2.2.1 := zk_txb_ok (p := (0, 0)) (by decide +kernel)
def xcX8_put_u2 : List zX := []
theorem wcX8_put_u2 : zk_hwsb zcl RX8 mcX8_put_u2.rm xcX8_put_u2 [] = true := by decide +kernel
theorem icX8_put_u2 : zk_idb zcl RX8 8 false mcX8_put_u2 = true := by decide +kernel
theorem ecX8_put_u2 : zk_run zcl zft zTT zPF zPB zSUf zLX8 8 false mcX8_put_u2 ftX8_put hcX8_put_u2 zULf xcX8_put_u2 99 = true := by decide +kernel
theorem gcX8_put_u2 {D : zD} {l : Launch} (hD : zWD D) : zCs D l xcX8_put_u2 := trivial
theorem tcX8_put_u2 {D : zD} {l : Launch} (hD : zWD D) : zC D l mcX8_put_u2 := zk_methC ⟨rfl, rfl⟩ hD poolX8 icX8_put_u2 jcX8_put_u2 ftX8_put_ok (gcX8_put_u2 hD) wcX8_put_u2 ecX8_put_u2
def qcX8_put_u3 : zQ := ((10, 10), ([(2, 1, 0), (0, 2, 0)], ([(0, 0, 0), (2, (-2147483648), 2147483647), (4, 0, 1196)], [], [], []), ([(1, 30), (3, 44), (5, 73)], [(1, 8, 0, (2, 3, 0)), (1, 8, 1, (0, 4, 0))], [], [], [], [(109, []), (341, [(2, 3, 0), (2, 5, 0), (0, 4, 0), (0, 0, 12), (0, 6, 0), (0, 7, 0), (0, 8, 0), (0, 2, 0), (0, 9, 0)])])), [(none, ([(0, 0, 0)], [], [], []), ([], [(1, 8, 1, (0, 4, 4))], [], [], [], [(341, [(2, 3, 0), (2, 5, 0), (0, 4, 4), (0, 0, 16), (0, 6, 0), (0, 7, 0), (0, 8, 0), (0, 2, 0), (0, 9, 0)]), (109, [])]))], ([(30, 1)], [44]), (0, 0))
def mcX8_put_u3 : zM := (yX8_put, cX8_put, 3, none, { frames := 1, cells := 0, slots := 0, locals := 12 }, qcX8_put_u3)
def hcX8_put_u3 : zH := ([], [], [(27, [(8, 0, 0)]), (28, [(8, 0, 0)])], [], ([], 0, 0), 1)
theorem jcX8_put_u3 : zk_txok RX8 hcX8_put_u3.2.2.2.2.1 := zk_txb_ok (p := (0, 0)) (by decide +kernel)
def xcX8_put_u3 : List zX := []
theorem wcX8_put_u3 : zk_hwsb zcl RX8 mcX8_put_u3.rm xcX8_put_u3 [] = true := by decide +kernel
theorem icX8_put_u3 : zk_idb zcl RX8 8 false mcX8_put_u3 = true := by decide +kernel
theorem ecX8_put_u3 : zk_run zcl zft zTT zPF zPB zSUf zLX8 8 false mcX8_put_u3 ftX8_put hcX8_put_u3 zULf xcX8_put_u3 99 = true := by decide +kernel
theorem gcX8_put_u3 {D : zD} {l : Launch} (hD : zWD D) : zCs D l xcX8_put_u3 := trivial
theorem tcX8_put_u3 {D : zD} {l : Launch} (hD : zWD D) : zC D l mcX8_put_u3 := zk_methC ⟨rfl, rfl⟩ hD poolX8 icX8_put_u3 jcX8_put_u3 ftX8_put_ok (gcX8_put_u3 hD) wcX8_put_u3 ecX8_put_u3
def qcX8_put_u4 : zQ := ((10, 10), ([(2, 1, 0), (0, 2, 0)], ([(0, 0, 0), (2, (-2147483648), 2147483647), (4, 0, 1196)], [], [], []), ([(1, 30), (3, 44), (5, 73)], [(1, 8, 0, (2, 3, 0)), (1, 8, 1, (0, 4, 0))], [], [], [], [(109, []), (341, [(2, 3, 0), (2, 5, 0), (0, 4, 0), (0, 0, 16), (0, 6, 0), (0, 7, 0), (0, 8, 0), (0, 9, 0), (0, 2, 0)])])), [(none, ([(0, 0, 0)], [], [], []), ([], [(1, 8, 1, (0, 4, 4))], [], [], [], [(341, [(2, 3, 0), (2, 5, 0), (0, 4, 4), (0, 0, 20), (0, 6, 0), (0, 7, 0), (0, 8, 0), (0, 9, 0), (0, 2, 0)]), (109, [])]))], ([(30, 1)], [44]), (0, 0))
def mcX8_put_u4 : zM := (yX8_put, cX8_put, 3, none, { frames := 1, cells := 0, slots := 0, locals := 12 }, qcX8_put_u4)
def hcX8_put_u4 : zH := ([], [], [(27, [(8, 0, 0)]), (28, [(8, 0, 0)])], [], ([], 0, 0), 1)
theorem jcX8_put_u4 : zk_txok RX8 hcX8_put_u4.2.2.2.2.1 := zk_txb_ok (p := (0, 0)) (by decide +kernel)
def xcX8_put_u4 : List zX := []
theorem wcX8_put_u4 : zk_hwsb zcl RX8 mcX8_put_u4.rm xcX8_put_u4 [] = true := by decide +kernel
theorem icX8_put_u4 : zk_idb zcl RX8 8 false mcX8_put_u4 = true := by decide +kernel
theorem ecX8_put_u4 : zk_run zcl zft zTT zPF zPB zSUf zLX8 8 false mcX8_put_u4 ftX8_put hcX8_put_u4 zULf xcX8_put_u4 99 = true := by decide +kernel
theorem gcX8_put_u4 {D : zD} {l : Launch} (hD : zWD D) : zCs D l xcX8_put_u4 := trivial
theorem tcX8_put_u4 {D : zD} {l : Launch} (hD : zWD D) : zC D l mcX8_put_u4 := zk_methC ⟨rfl, rfl⟩ hD poolX8 icX8_put_u4 jcX8_put_u4 ftX8_put_ok (gcX8_put_u4 hD) wcX8_put_u4 ecX8_put_u4
def ftX11_feed : List (Nat × List (Nat × Instr × Nat)) := [(28, [(0, .aload_n 0, 1), (1, .getfield 12, 3), (4, .getfield 103, 3), (7, .bipush 20, 2), (9, .iadd, 1), (10, .sipush 1200, 3), (13, .if_icmp .le 6, 3), (16, .bipush (-3), 2), (18, .ireturn, 1), (19, .aload_n 0, 1), (20, .getfield 12, 3), (23, .iload_n 1, 1), (24, .invokevirtual 106, 3), (27, .aload_n 0, 1)]), (57, [(28, .getfield 12, 3), (31, .iload_n 2, 1), (32, .invokevirtual 106, 3), (35, .aload_n 0, 1), (36, .getfield 12, 3), (39, .iload_n 3, 1), (40, .invokevirtual 106, 3), (43, .aload_n 0, 1), (44, .getfield 12, 3), (47, .iload 4, 2), (49, .invokevirtual 106, 3), (52, .aload_n 0, 1), (53, .getfield 12, 3), (56, .iload 5, 2)]), (69, [(58, .invokevirtual 106, 3), (61, .aload_n 0, 1), (62, .getfield 12, 3), (65, .getfield 103, 3), (68, .ireturn, 1)])]
theorem ftX11_feed_ok : zk_ftb cX11_feed ftX11_feed = true := by decide +kernel
def qcX11_feed : zQ := ((11, 11), ([(2, 1, 0), (0, 2, 0), (0, 3, 0), (0, 4, 0), (0, 5, 0), (0, 6, 0)], ([(0, 0, 0), (2, (-2147483648), 2147483647), (3, (-2147483648), 2147483647), (4, (-2147483648), 2147483647), (5, (-2147483648), 2147483647), (6, (-2147483648), 2147483647), (9, 0, 1200)], [], [], []), ([(1, 42), (7, 30), (8, 44), (10, 73)], [(1, 11, 0, (2, 7, 0)), (7, 8, 0, (2, 8, 0)), (7, 8, 1, (0, 9, 0))], [], [], [], [(109, []), (340, [(2, 8, 0), (2, 10, 0), (0, 9, 0)])])), [(some (0, 0, (-3)), ([(0, 0, 0), (9, 1181, 1200)], [], [], []), ([], [(1, 11, 0, (2, 7, 0)), (7, 8, 1, (0, 9, 0))], [], [], [], [(340, [(2, 8, 0), (2, 10, 0), (0, 9, 0)]), (109, [])])), (some (0, 9, 20), ([(0, 0, 0), (9, 0, 1180)], [], [], []), ([], [(1, 11, 0, (2, 7, 0)), (7, 8, 1, (0, 9, 20))], [], [], [], [(342, [(2, 8, 0), (2, 10, 0), (0, 9, 0), (0, 0, 0), (0, 2, 0), (0, 3, 0), (0, 4, 0), (0, 5, 0), (0, 6, 0)]), (109, [])]))], ([(30, 1)], [44]), (0, 0))
def mcX11_feed : zM := (yX11_feed, cX11_feed, 6, (some .int), { frames := 2, cells := 0, slots := 0, locals := 34 }, qcX11_feed)
def hcX11_feed : zH := ([], [], [(24, [(9, 750, 0)]), (61, [(9, 755, 0)])], [], ([], 0, 0), 1)
theorem jcX11_feed : zk_txok RX11 hcX11_feed.2.2.2.2.1 := zk_txb_ok (p := (0, 0)) (by decide +kernel)
def xcX11_feed : List zX := [(106, 2, 8, mcX8_put_u0), (106, 2, 8, mcX8_put_u1), (106, 2, 8, mcX8_put_u2), (106, 2, 8, mcX8_put_u3), (106, 2, 8, mcX8_put_u4)]
theorem wcX11_feed : zk_hwsb zcl RX11 mcX11_feed.rm xcX11_feed [(512, 76, 509, 510, 511), (512, 76, 509, 510, 511), (512, 76, 509, 510, 511), (512, 76, 509, 510, 511), (512, 76, 509, 510, 511)] = true := by decide +kernel
theorem icX11_feed : zk_idb zcl RX11 11 false mcX11_feed = true := by decide +kernel
theorem ecX11_feed : zk_run zcl zft zTT zPF zPB zSUf zLX11 11 false mcX11_feed ftX11_feed hcX11_feed zULf xcX11_feed 33 = true := by decide +kernel
theorem gcX11_feed {D : zD} {l : Launch} (hD : zWD D) : zCs D l xcX11_feed := ⟨tcX8_put_u0 hD, tcX8_put_u1 hD, tcX8_put_u2 hD, tcX8_put_u3 hD, tcX8_put_u4 hD, trivial⟩
theorem tcX11_feed {D : zD} {l : Launch} (hD : zWD D) : zC D l mcX11_feed := zk_methC ⟨rfl, rfl⟩ hD poolX11 icX11_feed jcX11_feed ftX11_feed_ok (gcX11_feed hD) wcX11_feed ecX11_feed
def ftX11_end : List (Nat × List (Nat × Instr × Nat)) := [(26, [(0, .iload_n 1, 1), (1, .ifCond .lt 14, 3), (4, .iload_n 1, 1), (5, .aload_n 0, 1), (6, .getfield 12, 3), (9, .getfield 103, 3), (12, .if_icmp .le 5, 3), (15, .iconst (-1), 1), (16, .ireturn, 1), (17, .aload_n 0, 1), (18, .getfield 12, 3), (21, .iload_n 1, 1), (22, .putfield 103, 3), (25, .iload_n 1, 1)]), (27, [(26, .ireturn, 1)])]
theorem ftX11_end_ok : zk_ftb cX11_end ftX11_end = true := by decide +kernel
def qcX11_end : zQ := ((5, 5), ([(2, 1, 0), (0, 2, 0)], ([(0, 0, 0), (2, (-2147483648), 2147483647), (4, 0, 1200)], [], [], []), ([(1, 42), (3, 30)], [(1, 11, 0, (2, 3, 0)), (3, 8, 1, (0, 4, 0))], [], [], [], [])), [(some (0, 0, (-1)), ([(0, 0, 0), (2, 1, 2147483647)], [(4, 2, (-1))], [], []), ([], [(1, 11, 0, (2, 3, 0)), (3, 8, 1, (0, 4, 0))], [], [], [], [])), (some (0, 0, (-1)), ([(0, 0, 0), (2, (-2147483648), (-1))], [], [], []), ([], [(1, 11, 0, (2, 3, 0)), (3, 8, 1, (0, 4, 0))], [], [], [], [])), (some (0, 2, 0), ([(0, 0, 0), (2, 0, 1200)], [(2, 4, 0)], [], []), ([], [(1, 11, 0, (2, 3, 0)), (3, 8, 1, (0, 2, 0))], [], [], [], []))], ([(30, 1)], []), (0, 0))
def mcX11_end : zM := (yX11_end, cX11_end, 2, (some .int), { frames := 1, cells := 0, slots := 0, locals := 12 }, qcX11_end)
def hcX11_end : zH := ([], [], [], [], ([], 0, 0), 1)
theorem jcX11_end : zk_txok RX11 hcX11_end.2.2.2.2.1 := zk_txb_ok (p := (0, 0)) (by decide +kernel)
def xcX11_end : List zX := []
theorem wcX11_end : zk_hwsb zcl RX11 mcX11_end.rm xcX11_end [] = true := by decide +kernel
theorem icX11_end : zk_idb zcl RX11 11 false mcX11_end = true := by decide +kernel
theorem ecX11_end : zk_run zcl zft zTT zPF zPB zSUf zLX11 11 false mcX11_end ftX11_end hcX11_end zULf xcX11_end 15 = true := by decide +kernel
theorem gcX11_end {D : zD} {l : Launch} (hD : zWD D) : zCs D l xcX11_end := trivial
theorem tcX11_end {D : zD} {l : Launch} (hD : zWD D) : zC D l mcX11_end := zk_methC ⟨rfl, rfl⟩ hD poolX11 icX11_end jcX11_end ftX11_end_ok (gcX11_end hD) wcX11_end ecX11_end
def ftX4_forgetChanges : List (Nat × List (Nat × Instr × Nat)) := [(24, [(0, .aload_n 0, 1), (1, .aload_n 0, 1), (2, .getfield 28, 3), (5, .putfield 32, 3), (8, .iconst 0, 1), (9, .istore_n 1, 1), (10, .iload_n 1, 1), (11, .aload_n 0, 1), (12, .getfield 28, 3), (15, .if_icmp .ge 18, 3), (18, .aload_n 0, 1), (19, .getfield 25, 3), (22, .iload_n 1, 1), (23, .sipush 401, 3)]), (34, [(26, .iastore, 1), (27, .iinc 1 1, 3), (30, .goto (-20), 3), (33, .return_, 1)])]
theorem ftX4_forgetChanges_ok : zk_ftb cX4_forgetChanges ftX4_forgetChanges = true := by decide +kernel
def qcX4_forgetChanges_tf0 : zQ := ((7, 7), ([(2, 1, 0)], ([(0, 0, 0), (2, 0, 40), (4, 0, 40), (6, 0, 40)], [], [], []), ([(1, 31), (3, 31), (5, 31)], [], [], [], [], [(109, []), (470, [(2, 1, 0), (0, 2, 0)]), (471, [(2, 3, 0), (0, 4, 0)]), (472, [(2, 5, 0), (0, 6, 0)]), (459, [(2, 3, 0), (2, 1, 0)]), (459, [(2, 5, 0), (2, 1, 0)])])), [(none, ([(0, 0, 0)], [], [], []), ([], [], [], [], [], [(470, [(2, 1, 0), (0, 2, 0)]), (471, [(2, 3, 0), (0, 4, 0)]), (472, [(2, 5, 0), (0, 6, 0)]), (109, [])]))], ([(31, 6)], [51]), (0, 0))
def mcX4_forgetChanges_tf0 : zM := (yX4_forgetChanges, cX4_forgetChanges, 2, none, { frames := 1, cells := 0, slots := 0, locals := 12 }, qcX4_forgetChanges_tf0)
def hcX4_forgetChanges_tf0 : zH := ([(10, [([(0, (2, 1, 0)), (1, (0, 7, 0))], [], ([(0, 0, 0), (7, 0, 40), (8, 0, 40), (2, 0, 40), (4, 0, 40), (6, 0, 40)], [(7, 8, 0), (8, 2, 0), (2, 8, 0)], [], []), ([(1, 31), (3, 31), (5, 31)], [(1, 4, 6, (0, 8, 0)), (1, 4, 5, (0, 8, 0))], [], [], [], [(470, [(2, 1, 0), (0, 2, 0)]), (471, [(2, 3, 0), (0, 4, 0)]), (472, [(2, 5, 0), (0, 6, 0)]), (109, []), (459, [(2, 3, 0), (2, 1, 0)]), (459, [(2, 5, 0), (2, 1, 0)])]), (9, ([(7, (-1))], 40), 0, 0))])], [], [(5, [(9, 355, 0)])], [], ([], 0, 0), 81)
theorem jcX4_forgetChanges_tf0 : zk_txok RX4 hcX4_forgetChanges_tf0.2.2.2.2.1 := zk_txb_ok (p := (0, 0)) (by decide +kernel)
def xcX4_forgetChanges_tf0 : List zX := []
theorem wcX4_forgetChanges_tf0 : zk_hwsb zcl RX4 mcX4_forgetChanges_tf0.rm xcX4_forgetChanges_tf0 [] = true := by decide +kernel
theorem icX4_forgetChanges_tf0 : zk_idb zcl RX4 4 false mcX4_forgetChanges_tf0 = true := by decide +kernel
theorem ecX4_forgetChanges_tf0 : zk_run zcl zft zTT zPF zPB zSUf zLX4 4 false mcX4_forgetChanges_tf0 ftX4_forgetChanges hcX4_forgetChanges_tf0 zULf xcX4_forgetChanges_tf0 13 = true := by decide +kernel
theorem gcX4_forgetChanges_tf0 {D : zD} {l : Launch} (hD : zWD D) : zCs D l xcX4_forgetChanges_tf0 := trivial
theorem tcX4_forgetChanges_tf0 {D : zD} {l : Launch} (hD : zWD D) : zC D l mcX4_forgetChanges_tf0 := zk_methC ⟨rfl, rfl⟩ hD poolX4 icX4_forgetChanges_tf0 jcX4_forgetChanges_tf0 ftX4_forgetChanges_ok (gcX4_forgetChanges_tf0 hD) wcX4_forgetChanges_tf0 ecX4_forgetChanges_tf0
def qcX4_forgetChanges_tf1 : zQ := ((7, 7), ([(2, 1, 0)], ([(0, 0, 0), (3, 0, 40), (4, 0, 40), (6, 0, 40)], [], [], []), ([(1, 31), (2, 31), (5, 31)], [], [], [], [], [(109, []), (470, [(2, 2, 0), (0, 3, 0)]), (471, [(2, 1, 0), (0, 4, 0)]), (472, [(2, 5, 0), (0, 6, 0)]), (459, [(2, 2, 0), (2, 1, 0)]), (459, [(2, 5, 0), (2, 1, 0)])])), [(none, ([(0, 0, 0)], [], [], []), ([], [], [], [], [], [(470, [(2, 2, 0), (0, 3, 0)]), (471, [(2, 1, 0), (0, 4, 0)]), (472, [(2, 5, 0), (0, 6, 0)]), (109, [])]))], ([(31, 6)], [51]), (0, 0))
def mcX4_forgetChanges_tf1 : zM := (yX4_forgetChanges, cX4_forgetChanges, 2, none, { frames := 1, cells := 0, slots := 0, locals := 12 }, qcX4_forgetChanges_tf1)
def hcX4_forgetChanges_tf1 : zH := ([(10, [([(0, (2, 1, 0)), (1, (0, 7, 0))], [], ([(0, 0, 0), (7, 0, 40), (8, 0, 40), (3, 0, 40), (4, 0, 40), (6, 0, 40)], [(7, 8, 0), (8, 4, 0), (4, 8, 0)], [], []), ([(1, 31), (2, 31), (5, 31)], [(1, 4, 6, (0, 8, 0)), (1, 4, 5, (0, 8, 0))], [], [], [], [(470, [(2, 2, 0), (0, 3, 0)]), (471, [(2, 1, 0), (0, 4, 0)]), (472, [(2, 5, 0), (0, 6, 0)]), (109, []), (459, [(2, 2, 0), (2, 1, 0)]), (459, [(2, 5, 0), (2, 1, 0)])]), (9, ([(7, (-1))], 40), 0, 0))])], [], [(5, [(9, 356, 0)])], [], ([], 0, 0), 81)
theorem jcX4_forgetChanges_tf1 : zk_txok RX4 hcX4_forgetChanges_tf1.2.2.2.2.1 := zk_txb_ok (p := (0, 0)) (by decide +kernel)
def xcX4_forgetChanges_tf1 : List zX := []
theorem wcX4_forgetChanges_tf1 : zk_hwsb zcl RX4 mcX4_forgetChanges_tf1.rm xcX4_forgetChanges_tf1 [] = true := by decide +kernel
theorem icX4_forgetChanges_tf1 : zk_idb zcl RX4 4 false mcX4_forgetChanges_tf1 = true := by decide +kernel
theorem ecX4_forgetChanges_tf1 : zk_run zcl zft zTT zPF zPB zSUf zLX4 4 false mcX4_forgetChanges_tf1 ftX4_forgetChanges hcX4_forgetChanges_tf1 zULf xcX4_forgetChanges_tf1 13 = true := by decide +kernel
theorem gcX4_forgetChanges_tf1 {D : zD} {l : Launch} (hD : zWD D) : zCs D l xcX4_forgetChanges_tf1 := trivial
theorem tcX4_forgetChanges_tf1 {D : zD} {l : Launch} (hD : zWD D) : zC D l mcX4_forgetChanges_tf1 := zk_methC ⟨rfl, rfl⟩ hD poolX4 icX4_forgetChanges_tf1 jcX4_forgetChanges_tf1 ftX4_forgetChanges_ok (gcX4_forgetChanges_tf1 hD) wcX4_forgetChanges_tf1 ecX4_forgetChanges_tf1
def ftX11_forgetChanges : List (Nat × List (Nat × Instr × Nat)) := [(24, [(0, .iconst 0, 1), (1, .istore_n 1, 1), (2, .iload_n 1, 1), (3, .iconst 2, 1), (4, .if_icmp .ge 18, 3), (7, .aload_n 0, 1), (8, .getfield 38, 3), (11, .iload_n 1, 1), (12, .aaload, 1), (13, .invokevirtual 346, 3), (16, .iinc 1 1, 3), (19, .goto (-17), 3), (22, .aload_n 0, 1), (23, .iconst 0, 1)]), (33, [(24, .putfield 97, 3), (27, .aload_n 0, 1), (28, .iconst 0, 1), (29, .putfield 100, 3), (32, .return_, 1)])]
theorem ftX11_forgetChanges_ok : zk_ftb cX11_forgetChanges ftX11_forgetChanges = true := by decide +kernel
def qcX11_forgetChanges : zQ := ((9, 9), ([(2, 1, 0)], ([(0, 0, 0), (5, 0, 40), (6, 0, 40), (8, 0, 40)], [], [], []), ([(1, 42), (2, 68), (3, 31), (4, 31), (7, 31)], [(1, 11, 4, (2, 2, 0))], [(2, 68, (0, 0, 0), (2, 3, 0)), (2, 68, (0, 0, 1), (2, 4, 0))], [], [], [(109, []), (470, [(2, 3, 0), (0, 5, 0)]), (471, [(2, 4, 0), (0, 6, 0)]), (472, [(2, 7, 0), (0, 8, 0)]), (459, [(2, 4, 0), (2, 3, 0)]), (459, [(2, 7, 0), (2, 3, 0)]), (459, [(2, 3, 0), (2, 4, 0)]), (459, [(2, 7, 0), (2, 4, 0)])])), [(none, ([(0, 0, 0)], [], [], []), ([], [], [], [], [], [(470, [(2, 3, 0), (0, 5, 0)]), (471, [(2, 4, 0), (0, 6, 0)]), (472, [(2, 7, 0), (0, 8, 0)]), (109, [])]))], ([(31, 6), (42, 14), (42, 15)], [51]), (0, 0))
def mcX11_forgetChanges : zM := (yX11_forgetChanges, cX11_forgetChanges, 2, none, { frames := 2, cells := 0, slots := 0, locals := 33 }, qcX11_forgetChanges)
def hcX11_forgetChanges : zH := ([], [], [], [], ([], 0, 0), 1)
theorem jcX11_forgetChanges : zk_txok RX11 hcX11_forgetChanges.2.2.2.2.1 := zk_txb_ok (p := (0, 0)) (by decide +kernel)
def xcX11_forgetChanges : List zX := [(346, 2, 4, mcX4_forgetChanges_tf0), (346, 2, 4, mcX4_forgetChanges_tf1)]
theorem wcX11_forgetChanges : zk_hwsb zcl RX11 mcX11_forgetChanges.rm xcX11_forgetChanges [(666, 79, 663, 664, 665), (666, 79, 663, 664, 665)] = true := by decide +kernel
theorem icX11_forgetChanges : zk_idb zcl RX11 11 false mcX11_forgetChanges = true := by decide +kernel
theorem ecX11_forgetChanges : zk_run zcl zft zTT zPF zPB zSUf zLX11 11 false mcX11_forgetChanges ftX11_forgetChanges hcX11_forgetChanges zULf xcX11_forgetChanges 34 = true := by decide +kernel
theorem gcX11_forgetChanges {D : zD} {l : Launch} (hD : zWD D) : zCs D l xcX11_forgetChanges := ⟨tcX4_forgetChanges_tf0 hD, tcX4_forgetChanges_tf1 hD, trivial⟩
theorem tcX11_forgetChanges {D : zD} {l : Launch} (hD : zWD D) : zC D l mcX11_forgetChanges := zk_methC ⟨rfl, rfl⟩ hD poolX11 icX11_forgetChanges jcX11_forgetChanges ftX11_forgetChanges_ok (gcX11_forgetChanges hD) wcX11_forgetChanges ecX11_forgetChanges
def ftX4_clear : List (Nat × List (Nat × Instr × Nat)) := [(11, [(0, .aload_n 0, 1), (1, .iconst 0, 1), (2, .putfield 28, 3), (5, .aload_n 0, 1), (6, .iconst 0, 1), (7, .putfield 32, 3), (10, .return_, 1)])]
theorem ftX4_clear_ok : zk_ftb cX4_clear ftX4_clear = true := by decide +kernel
def qcX4_clear_tc0 : zQ := ((7, 7), ([(2, 1, 0)], ([(0, 0, 0), (2, 0, 40), (4, 0, 40), (6, 0, 40)], [], [], []), ([(1, 31), (3, 31), (5, 31)], [], [], [], [], [(109, []), (470, [(2, 1, 0), (0, 2, 0)]), (471, [(2, 3, 0), (0, 4, 0)]), (472, [(2, 5, 0), (0, 6, 0)]), (459, [(2, 3, 0), (2, 1, 0)]), (459, [(2, 5, 0), (2, 1, 0)])])), [(none, ([(0, 0, 0)], [], [], []), ([], [(1, 4, 5, (0, 0, 0)), (1, 4, 6, (0, 0, 0))], [], [], [], [(470, [(2, 1, 0), (0, 0, 0)]), (471, [(2, 3, 0), (0, 4, 0)]), (472, [(2, 5, 0), (0, 6, 0)]), (109, [])]))], ([(31, 5), (31, 6)], []), (0, 0))
def mcX4_clear_tc0 : zM := (yX4_clear, cX4_clear, 1, none, { frames := 1, cells := 0, slots := 0, locals := 12 }, qcX4_clear_tc0)
def hcX4_clear_tc0 : zH := ([], [], [], [], ([], 0, 0), 1)
theorem jcX4_clear_tc0 : zk_txok RX4 hcX4_clear_tc0.2.2.2.2.1 := zk_txb_ok (p := (0, 0)) (by decide +kernel)
def xcX4_clear_tc0 : List zX := []
theorem wcX4_clear_tc0 : zk_hwsb zcl RX4 mcX4_clear_tc0.rm xcX4_clear_tc0 [] = true := by decide +kernel
theorem icX4_clear_tc0 : zk_idb zcl RX4 4 false mcX4_clear_tc0 = true := by decide +kernel
theorem ecX4_clear_tc0 : zk_run zcl zft zTT zPF zPB zSUf zLX4 4 false mcX4_clear_tc0 ftX4_clear hcX4_clear_tc0 zULf xcX4_clear_tc0 9 = true := by decide +kernel
theorem gcX4_clear_tc0 {D : zD} {l : Launch} (hD : zWD D) : zCs D l xcX4_clear_tc0 := trivial
theorem tcX4_clear_tc0 {D : zD} {l : Launch} (hD : zWD D) : zC D l mcX4_clear_tc0 := zk_methC ⟨rfl, rfl⟩ hD poolX4 icX4_clear_tc0 jcX4_clear_tc0 ftX4_clear_ok (gcX4_clear_tc0 hD) wcX4_clear_tc0 ecX4_clear_tc0
def qcX4_clear_tc1 : zQ := ((7, 7), ([(2, 1, 0)], ([(0, 0, 0), (3, 0, 40), (4, 0, 40), (6, 0, 40)], [], [], []), ([(1, 31), (2, 31), (5, 31)], [], [], [], [], [(109, []), (470, [(2, 2, 0), (0, 3, 0)]), (471, [(2, 1, 0), (0, 4, 0)]), (472, [(2, 5, 0), (0, 6, 0)]), (459, [(2, 2, 0), (2, 1, 0)]), (459, [(2, 5, 0), (2, 1, 0)])])), [(none, ([(0, 0, 0)], [], [], []), ([], [(1, 4, 5, (0, 0, 0)), (1, 4, 6, (0, 0, 0))], [], [], [], [(470, [(2, 2, 0), (0, 3, 0)]), (471, [(2, 1, 0), (0, 0, 0)]), (472, [(2, 5, 0), (0, 6, 0)]), (109, [])]))], ([(31, 5), (31, 6)], []), (0, 0))
def mcX4_clear_tc1 : zM := (yX4_clear, cX4_clear, 1, none, { frames := 1, cells := 0, slots := 0, locals := 12 }, qcX4_clear_tc1)
def hcX4_clear_tc1 : zH := ([], [], [], [], ([], 0, 0), 1)
theorem jcX4_clear_tc1 : zk_txok RX4 hcX4_clear_tc1.2.2.2.2.1 := zk_txb_ok (p := (0, 0)) (by decide +kernel)
def xcX4_clear_tc1 : List zX := []
theorem wcX4_clear_tc1 : zk_hwsb zcl RX4 mcX4_clear_tc1.rm xcX4_clear_tc1 [] = true := by decide +kernel
theorem icX4_clear_tc1 : zk_idb zcl RX4 4 false mcX4_clear_tc1 = true := by decide +kernel
theorem ecX4_clear_tc1 : zk_run zcl zft zTT zPF zPB zSUf zLX4 4 false mcX4_clear_tc1 ftX4_clear hcX4_clear_tc1 zULf xcX4_clear_tc1 9 = true := by decide +kernel
theorem gcX4_clear_tc1 {D : zD} {l : Launch} (hD : zWD D) : zCs D l xcX4_clear_tc1 := trivial
theorem tcX4_clear_tc1 {D : zD} {l : Launch} (hD : zWD D) : zC D l mcX4_clear_tc1 := zk_methC ⟨rfl, rfl⟩ hD poolX4 icX4_clear_tc1 jcX4_clear_tc1 ftX4_clear_ok (gcX4_clear_tc1 hD) wcX4_clear_tc1 ecX4_clear_tc1
def qcX4_clear_tc2 : zQ := ((7, 7), ([(2, 1, 0)], ([(0, 0, 0), (3, 0, 40), (5, 0, 40), (6, 0, 40)], [], [], []), ([(1, 31), (2, 31), (4, 31)], [], [], [], [], [(109, []), (470, [(2, 2, 0), (0, 3, 0)]), (471, [(2, 4, 0), (0, 5, 0)]), (472, [(2, 1, 0), (0, 6, 0)]), (459, [(2, 2, 0), (2, 1, 0)]), (459, [(2, 4, 0), (2, 1, 0)])])), [(none, ([(0, 0, 0)], [], [], []), ([], [(1, 4, 5, (0, 0, 0)), (1, 4, 6, (0, 0, 0))], [], [], [], [(470, [(2, 2, 0), (0, 3, 0)]), (471, [(2, 4, 0), (0, 5, 0)]), (472, [(2, 1, 0), (0, 0, 0)]), (109, [])]))], ([(31, 5), (31, 6)], []), (0, 0))
def mcX4_clear_tc2 : zM := (yX4_clear, cX4_clear, 1, none, { frames := 1, cells := 0, slots := 0, locals := 12 }, qcX4_clear_tc2)
def hcX4_clear_tc2 : zH := ([], [], [], [], ([], 0, 0), 1)
theorem jcX4_clear_tc2 : zk_txok RX4 hcX4_clear_tc2.2.2.2.2.1 := zk_txb_ok (p := (0, 0)) (by decide +kernel)
def xcX4_clear_tc2 : List zX := []
theorem wcX4_clear_tc2 : zk_hwsb zcl RX4 mcX4_clear_tc2.rm xcX4_clear_tc2 [] = true := by decide +kernel
theorem icX4_clear_tc2 : zk_idb zcl RX4 4 false mcX4_clear_tc2 = true := by decide +kernel
theorem ecX4_clear_tc2 : zk_run zcl zft zTT zPF zPB zSUf zLX4 4 false mcX4_clear_tc2 ftX4_clear hcX4_clear_tc2 zULf xcX4_clear_tc2 9 = true := by decide +kernel
theorem gcX4_clear_tc2 {D : zD} {l : Launch} (hD : zWD D) : zCs D l xcX4_clear_tc2 := trivial
theorem tcX4_clear_tc2 {D : zD} {l : Launch} (hD : zWD D) : zC D l mcX4_clear_tc2 := zk_methC ⟨rfl, rfl⟩ hD poolX4 icX4_clear_tc2 jcX4_clear_tc2 ftX4_clear_ok (gcX4_clear_tc2 hD) wcX4_clear_tc2 ecX4_clear_tc2
def qcX4_clear_tc3 : zQ := ((8, 8), ([(2, 1, 0)], ([(0, 0, 0), (3, 0, 40), (5, 0, 40), (7, 0, 40)], [], [], []), ([(1, 31), (2, 31), (4, 31), (6, 31)], [], [], [], [], [(109, []), (470, [(2, 2, 0), (0, 3, 0)]), (471, [(2, 4, 0), (0, 5, 0)]), (472, [(2, 6, 0), (0, 7, 0)]), (459, [(2, 2, 0), (2, 1, 0)]), (459, [(2, 4, 0), (2, 1, 0)]), (459, [(2, 6, 0), (2, 1, 0)])])), [(none, ([(0, 0, 0)], [], [], []), ([], [(1, 4, 5, (0, 0, 0)), (1, 4, 6, (0, 0, 0))], [], [], [], [(470, [(2, 2, 0), (0, 3, 0)]), (471, [(2, 4, 0), (0, 5, 0)]), (472, [(2, 6, 0), (0, 7, 0)]), (109, [])]))], ([(31, 5), (31, 6)], []), (0, 0))
def mcX4_clear_tc3 : zM := (yX4_clear, cX4_clear, 1, none, { frames := 1, cells := 0, slots := 0, locals := 12 }, qcX4_clear_tc3)
def hcX4_clear_tc3 : zH := ([], [], [], [], ([], 0, 0), 1)
theorem jcX4_clear_tc3 : zk_txok RX4 hcX4_clear_tc3.2.2.2.2.1 := zk_txb_ok (p := (0, 0)) (by decide +kernel)
def xcX4_clear_tc3 : List zX := []
theorem wcX4_clear_tc3 : zk_hwsb zcl RX4 mcX4_clear_tc3.rm xcX4_clear_tc3 [] = true := by decide +kernel
theorem icX4_clear_tc3 : zk_idb zcl RX4 4 false mcX4_clear_tc3 = true := by decide +kernel
theorem ecX4_clear_tc3 : zk_run zcl zft zTT zPF zPB zSUf zLX4 4 false mcX4_clear_tc3 ftX4_clear hcX4_clear_tc3 zULf xcX4_clear_tc3 9 = true := by decide +kernel
theorem gcX4_clear_tc3 {D : zD} {l : Launch} (hD : zWD D) : zCs D l xcX4_clear_tc3 := trivial
theorem tcX4_clear_tc3 {D : zD} {l : Launch} (hD : zWD D) : zC D l mcX4_clear_tc3 := zk_methC ⟨rfl, rfl⟩ hD poolX4 icX4_clear_tc3 jcX4_clear_tc3 ftX4_clear_ok (gcX4_clear_tc3 hD) wcX4_clear_tc3 ecX4_clear_tc3
def ftX8_rewind : List (Nat × List (Nat × Instr × Nat)) := [(6, [(0, .aload_n 0, 1), (1, .iconst 0, 1), (2, .putfield 19, 3), (5, .return_, 1)])]
theorem ftX8_rewind_ok : zk_ftb cX8_rewind ftX8_rewind = true := by decide +kernel
def qcX8_rewind_tk : zQ := ((2, 2), ([(2, 1, 0)], ([(0, 0, 0)], [], [], []), ([(1, 30)], [], [], [], [], [])), [(none, ([(0, 0, 0)], [], [], []), ([], [(1, 8, 2, (0, 0, 0))], [], [], [], []))], ([(30, 2)], []), (0, 0))
def mcX8_rewind_tk : zM := (yX8_rewind, cX8_rewind, 1, none, { frames := 1, cells := 0, slots := 0, locals := 12 }, qcX8_rewind_tk)
def hcX8_rewind_tk : zH := ([], [], [], [], ([], 0, 0), 1)
theorem jcX8_rewind_tk : zk_txok RX8 hcX8_rewind_tk.2.2.2.2.1 := zk_txb_ok (p := (0, 0)) (by decide +kernel)
def xcX8_rewind_tk : List zX := []
theorem wcX8_rewind_tk : zk_hwsb zcl RX8 mcX8_rewind_tk.rm xcX8_rewind_tk [] = true := by decide +kernel
theorem icX8_rewind_tk : zk_idb zcl RX8 8 false mcX8_rewind_tk = true := by decide +kernel
theorem ecX8_rewind_tk : zk_run zcl zft zTT zPF zPB zSUf zLX8 8 false mcX8_rewind_tk ftX8_rewind hcX8_rewind_tk zULf xcX8_rewind_tk 6 = true := by decide +kernel
theorem gcX8_rewind_tk {D : zD} {l : Launch} (hD : zWD D) : zCs D l xcX8_rewind_tk := trivial
theorem tcX8_rewind_tk {D : zD} {l : Launch} (hD : zWD D) : zC D l mcX8_rewind_tk := zk_methC ⟨rfl, rfl⟩ hD poolX8 icX8_rewind_tk jcX8_rewind_tk ftX8_rewind_ok (gcX8_rewind_tk hD) wcX8_rewind_tk ecX8_rewind_tk
def ftX6_begin : List (Nat × List (Nat × Instr × Nat)) := [(18, [(0, .aload_n 0, 1), (1, .iconst 0, 1), (2, .putfield 15, 3), (5, .aload_n 0, 1), (6, .iconst (-1), 1), (7, .putfield 19, 3), (10, .aload_n 0, 1), (11, .getfield 9, 3), (14, .invokevirtual 22, 3), (17, .return_, 1)])]
theorem ftX6_begin_ok : zk_ftb cX6_begin ftX6_begin = true := by decide +kernel
def qcX6_begin_tk : zQ := ((5, 5), ([(2, 1, 0)], ([(0, 0, 0), (4, 0, 1200)], [], [], []), ([(1, 34), (2, 30), (3, 44)], [(1, 6, 0, (2, 2, 0)), (2, 8, 0, (2, 3, 0)), (2, 8, 1, (0, 4, 0))], [], [], [], [])), [(none, ([(0, 0, 0)], [], [], []), ([], [(1, 6, 1, (0, 0, 0)), (1, 6, 2, (0, 0, (-1))), (1, 6, 0, (2, 2, 0)), (2, 8, 2, (0, 0, 0))], [], [], [], []))], ([(30, 2), (34, 1), (34, 2)], []), (0, 0))
def mcX6_begin_tk : zM := (yX6_begin, cX6_begin, 1, none, { frames := 2, cells := 0, slots := 0, locals := 32 }, qcX6_begin_tk)
def hcX6_begin_tk : zH := ([], [], [], [], ([], 0, 0), 1)
theorem jcX6_begin_tk : zk_txok RX6 hcX6_begin_tk.2.2.2.2.1 := zk_txb_ok (p := (0, 0)) (by decide +kernel)
def xcX6_begin_tk : List zX := [(22, 2, 8, mcX8_rewind_tk)]
theorem wcX6_begin_tk : zk_hwsb zcl RX6 mcX6_begin_tk.rm xcX6_begin_tk [(532, 76, 529, 530, 531)] = true := by decide +kernel
theorem icX6_begin_tk : zk_idb zcl RX6 6 false mcX6_begin_tk = true := by decide +kernel
theorem ecX6_begin_tk : zk_run zcl zft zTT zPF zPB zSUf zLX6 6 false mcX6_begin_tk ftX6_begin hcX6_begin_tk zULf xcX6_begin_tk 12 = true := by decide +kernel
theorem gcX6_begin_tk {D : zD} {l : Launch} (hD : zWD D) : zCs D l xcX6_begin_tk := ⟨tcX8_rewind_tk hD, trivial⟩
theorem tcX6_begin_tk {D : zD} {l : Launch} (hD : zWD D) : zC D l mcX6_begin_tk := zk_methC ⟨rfl, rfl⟩ hD poolX6 icX6_begin_tk jcX6_begin_tk ftX6_begin_ok (gcX6_begin_tk hD) wcX6_begin_tk ecX6_begin_tk
