/-! METHODS (printed by wip/t6) -/
def qcX12_feed_n : zQ := ((8, 8), ([(2, 1, 0), (0, 2, 0), (0, 3, 0), (0, 4, 0), (0, 5, 0), (0, 6, 0)], ([(0, 0, 0), (2, (-2147483648), 2147483647), (3, (-2147483648), 2147483647), (4, (-2147483648), 2147483647), (5, (-2147483648), 2147483647), (6, (-2147483648), 2147483647), (7, 1181, 1200)], [], [], []), ([(1, 43)], [(1, 12, 1, (0, 7, 0))], [], [], [], [(109, [])])), [(some (0, 0, (-3)), ([(0, 0, 0)], [], [], []), ([], [], [], [], [], [(109, [])]))], ([], []), (0, 0))
def mcX12_feed_n : zM := (yX12_feed, cX12_feed, 9, (some .int), { frames := 1, cells := 0, slots := 0, locals := 12 }, qcX12_feed_n)
def hcX12_feed_n : zH := ([], [], [], [], ([], 0, 0), 1)
theorem jcX12_feed_n : zk_txok RX12 hcX12_feed_n.2.2.2.2.1 := zk_txb_ok (p := (0, 0)) (by decide +kernel)
def xcX12_feed_n : List zX := []
theorem wcX12_feed_n : zk_hwsb zcl RX12 mcX12_feed_n.rm xcX12_feed_n [] = true := by decide +kernel
theorem icX12_feed_n : zk_idb zcl RX12 12 false mcX12_feed_n = true := by decide +kernel
theorem ecX12_feed_n : zk_run zcl zft zTT zPF zPB zSUf zLX12 12 false mcX12_feed_n ftX12_feed hcX12_feed_n zULf xcX12_feed_n 10 = true := by decide +kernel
theorem gcX12_feed_n {D : zD} {l : Launch} (hD : zWD D) : zCs D l xcX12_feed_n := trivial
theorem tcX12_feed_n {D : zD} {l : Launch} (hD : zWD D) : zC D l mcX12_feed_n := zk_methC ⟨rfl, rfl⟩ hD poolX12 icX12_feed_n jcX12_feed_n ftX12_feed_ok (gcX12_feed_n hD) wcX12_feed_n ecX12_feed_n
