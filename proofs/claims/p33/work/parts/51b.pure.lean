/-! THE FACTS, 2: further rules. -/
def rU284 : zRu := (284, [(0, 191, 0), (3, 1, 0), (3, 2, 0), (3, 3, 0), (3, 4, 0)], [(1, 5, 0), (5, 1, 0), (2, 6, 0), (6, 2, 0), (3, 7, 0), (7, 3, 0), (8, 0, 0), (0, 8, 0), (0, 5, -1), (5, 0, 40), (0, 6, 0), (6, 5, 0), (0, 7, 0), (7, 5, 0)], [([], [(201, [(5, 0), (6, 0), (7, 0), (8, 0), (4, 0)])])])
def rU285 : zRu := (285, [(0, 192, 0), (3, 1, 0), (3, 2, 0), (3, 3, 0), (3, 4, 0)], [(1, 5, 0), (5, 1, 0), (2, 6, 0), (6, 2, 0), (3, 7, 0), (7, 3, 0), (8, 0, 1), (0, 8, -1), (0, 5, -1), (5, 0, 40), (0, 6, 0), (6, 5, 0), (0, 7, 0), (7, 5, 0)], [([], [(201, [(5, 0), (6, 0), (7, 0), (8, 0), (4, 0)])])])
def rU286 : zRu := (286, [(0, 109, 0), (3, 1, 0), (3, 2, 0), (3, 3, 0), (3, 4, 0)], [(1, 0, 0)], [([], [(201, [(1, 0), (2, 0), (3, 0), (4, 0), (0, -2)])])])
def rU287 : zRu := (287, [(0, 109, 0), (3, 1, 0), (3, 2, 0), (3, 3, 0), (3, 4, 0)], [(0, 1, -41)], [([], [(201, [(1, 0), (2, 0), (3, 0), (4, 0), (0, -2)])])])
def rU288 : zRu := (288, [(0, 109, 0), (3, 1, 0), (3, 2, 0), (3, 3, 0), (3, 4, 0)], [(2, 0, -1)], [([], [(201, [(1, 0), (2, 0), (3, 0), (4, 0), (0, -2)])])])
def rU289 : zRu := (289, [(0, 109, 0), (3, 1, 0), (3, 2, 0), (3, 3, 0), (3, 4, 0)], [(1, 2, -1)], [([], [(201, [(1, 0), (2, 0), (3, 0), (4, 0), (0, -2)])])])
def rU290 : zRu := (290, [(0, 109, 0), (3, 1, 0), (3, 2, 0), (3, 3, 0), (3, 4, 0)], [(3, 0, -1)], [([], [(201, [(1, 0), (2, 0), (3, 0), (4, 0), (0, -2)])])])
def rU291 : zRu := (291, [(0, 109, 0), (3, 1, 0), (3, 2, 0), (3, 3, 0), (3, 4, 0)], [(1, 3, -1)], [([], [(201, [(1, 0), (2, 0), (3, 0), (4, 0), (0, -2)])])])
def rU292 : zRu := (292, [(0, 109, 0), (3, 1, 0), (3, 2, 0), (3, 3, 0), (3, 4, 0)], [(4, 0, -1)], [([], [(201, [(1, 0), (2, 0), (3, 0), (4, 0), (0, -2)])])])
def rU293 : zRu := (293, [(0, 109, 0), (3, 1, 0), (3, 2, 0), (3, 3, 0), (3, 4, 0)], [(0, 4, -2)], [([], [(201, [(1, 0), (2, 0), (3, 0), (4, 0), (0, -2)])])])
def rU294 : zRu := (294, [(0, 195, 0), (3, 1, 0), (3, 2, 0), (3, 3, 0), (3, 4, 0)], [(1, 5, 0), (5, 1, 0), (2, 6, 0), (6, 2, 0), (3, 7, 0), (7, 3, 0), (8, 0, 0), (0, 8, 0), (0, 5, -1), (5, 0, 40), (0, 6, 0), (6, 5, 0), (0, 7, 0), (7, 5, 0)], [([], [(202, [(5, 0), (6, 0), (7, 0), (8, 0), (4, 0)])])])
def rU295 : zRu := (295, [(0, 196, 0), (3, 1, 0), (3, 2, 0), (3, 3, 0), (3, 4, 0)], [(1, 5, 0), (5, 1, 0), (2, 6, 0), (6, 2, 0), (3, 7, 0), (7, 3, 0), (8, 0, 1), (0, 8, -1), (0, 5, -1), (5, 0, 40), (0, 6, 0), (6, 5, 0), (0, 7, 0), (7, 5, 0)], [([], [(202, [(5, 0), (6, 0), (7, 0), (8, 0), (4, 0)])])])
def rU296 : zRu := (296, [(0, 109, 0), (3, 1, 0), (3, 2, 0), (3, 3, 0), (3, 4, 0)], [(1, 0, 0)], [([], [(202, [(1, 0), (2, 0), (3, 0), (4, 0), (0, -2)])])])
def rU297 : zRu := (297, [(0, 109, 0), (3, 1, 0), (3, 2, 0), (3, 3, 0), (3, 4, 0)], [(0, 1, -41)], [([], [(202, [(1, 0), (2, 0), (3, 0), (4, 0), (0, -2)])])])
def rU298 : zRu := (298, [(0, 109, 0), (3, 1, 0), (3, 2, 0), (3, 3, 0), (3, 4, 0)], [(2, 0, -1)], [([], [(202, [(1, 0), (2, 0), (3, 0), (4, 0), (0, -2)])])])
def rU299 : zRu := (299, [(0, 109, 0), (3, 1, 0), (3, 2, 0), (3, 3, 0), (3, 4, 0)], [(1, 2, -1)], [([], [(202, [(1, 0), (2, 0), (3, 0), (4, 0), (0, -2)])])])
def rU300 : zRu := (300, [(0, 109, 0), (3, 1, 0), (3, 2, 0), (3, 3, 0), (3, 4, 0)], [(3, 0, -1)], [([], [(202, [(1, 0), (2, 0), (3, 0), (4, 0), (0, -2)])])])
def rU301 : zRu := (301, [(0, 109, 0), (3, 1, 0), (3, 2, 0), (3, 3, 0), (3, 4, 0)], [(1, 3, -1)], [([], [(202, [(1, 0), (2, 0), (3, 0), (4, 0), (0, -2)])])])
def rU302 : zRu := (302, [(0, 109, 0), (3, 1, 0), (3, 2, 0), (3, 3, 0), (3, 4, 0)], [(4, 0, -1)], [([], [(202, [(1, 0), (2, 0), (3, 0), (4, 0), (0, -2)])])])
def rU303 : zRu := (303, [(0, 109, 0), (3, 1, 0), (3, 2, 0), (3, 3, 0), (3, 4, 0)], [(0, 4, -2)], [([], [(202, [(1, 0), (2, 0), (3, 0), (4, 0), (0, -2)])])])
def rU305 : zRu := (305, [(0, 194, 0), (3, 1, 0), (3, 2, 0), (3, 3, 0), (3, 4, 0)], [(1, 6, 0), (6, 1, 0), (2, 7, 0), (7, 2, 0), (3, 8, 0), (8, 3, 0), (4, 9, 0), (9, 4, 0), (0, 6, -1), (6, 0, 40), (0, 7, 0), (7, 6, 0), (0, 9, -1), (9, 0, 10000), (0, 8, 0), (8, 9, 0)], [([], [(203, [(6, 0), (7, 0), (8, 0), (9, 0), (5, 0)])])])
def rU306 : zRu := (306, [(0, 199, 0), (3, 1, 0), (3, 2, 0), (3, 3, 0), (3, 4, 0)], [(1, 5, 0), (5, 1, 0), (2, 6, 0), (6, 2, 0), (3, 7, 0), (7, 3, 0), (4, 8, 0), (8, 4, 0), (0, 5, -1), (5, 0, 40), (0, 6, 0), (6, 5, 0), (0, 8, -1), (8, 0, 10000), (0, 7, 0), (7, 8, 0)], [([], [(203, [(5, 0), (6, 0), (7, 0), (8, 0), (0, -1)])])])
def rU307 : zRu := (307, [(0, 109, 0), (3, 1, 0), (3, 2, 0), (3, 3, 0), (3, 4, 0)], [(1, 0, 0)], [([], [(203, [(1, 0), (2, 0), (3, 0), (4, 0), (0, -2)])])])
def rU308 : zRu := (308, [(0, 109, 0), (3, 1, 0), (3, 2, 0), (3, 3, 0), (3, 4, 0)], [(0, 1, -41)], [([], [(203, [(1, 0), (2, 0), (3, 0), (4, 0), (0, -2)])])])
def rU309 : zRu := (309, [(0, 109, 0), (3, 1, 0), (3, 2, 0), (3, 3, 0), (3, 4, 0)], [(2, 0, -1)], [([], [(203, [(1, 0), (2, 0), (3, 0), (4, 0), (0, -2)])])])
def rU310 : zRu := (310, [(0, 109, 0), (3, 1, 0), (3, 2, 0), (3, 3, 0), (3, 4, 0)], [(1, 2, -1)], [([], [(203, [(1, 0), (2, 0), (3, 0), (4, 0), (0, -2)])])])
def rU311 : zRu := (311, [(0, 109, 0), (3, 1, 0), (3, 2, 0), (3, 3, 0), (3, 4, 0)], [(4, 0, 0)], [([], [(203, [(1, 0), (2, 0), (3, 0), (4, 0), (0, -2)])])])
def rU312 : zRu := (312, [(0, 109, 0), (3, 1, 0), (3, 2, 0), (3, 3, 0), (3, 4, 0)], [(0, 4, -10001)], [([], [(203, [(1, 0), (2, 0), (3, 0), (4, 0), (0, -2)])])])
def rU313 : zRu := (313, [(0, 109, 0), (3, 1, 0), (3, 2, 0), (3, 3, 0), (3, 4, 0)], [(3, 0, -1)], [([], [(203, [(1, 0), (2, 0), (3, 0), (4, 0), (0, -2)])])])
def rU314 : zRu := (314, [(0, 109, 0), (3, 1, 0), (3, 2, 0), (3, 3, 0), (3, 4, 0)], [(4, 3, -1)], [([], [(203, [(1, 0), (2, 0), (3, 0), (4, 0), (0, -2)])])])
def rU315 : zRu := (315, [(0, 198, 0), (3, 1, 0), (3, 2, 0), (3, 3, 0), (3, 4, 0)], [(1, 6, 0), (6, 1, 0), (2, 7, 0), (7, 2, 0), (3, 8, 0), (8, 3, 0), (4, 9, 0), (9, 4, 0), (0, 6, -1), (6, 0, 40), (0, 7, 0), (7, 6, 0), (0, 9, -1), (9, 0, 10000), (0, 8, 0), (8, 9, 0)], [([], [(204, [(6, 0), (7, 0), (8, 0), (9, 0), (5, 0)])])])
def rU316 : zRu := (316, [(0, 200, 0), (3, 1, 0), (3, 2, 0), (3, 3, 0), (3, 4, 0)], [(1, 5, 0), (5, 1, 0), (2, 6, 0), (6, 2, 0), (3, 7, 0), (7, 3, 0), (4, 8, 0), (8, 4, 0), (0, 5, -1), (5, 0, 40), (0, 6, 0), (6, 5, 0), (0, 8, -1), (8, 0, 10000), (0, 7, 0), (7, 8, 0)], [([], [(204, [(5, 0), (6, 0), (7, 0), (8, 0), (0, -1)])])])
def rU317 : zRu := (317, [(0, 109, 0), (3, 1, 0), (3, 2, 0), (3, 3, 0), (3, 4, 0)], [(1, 0, 0)], [([], [(204, [(1, 0), (2, 0), (3, 0), (4, 0), (0, -2)])])])
def rU318 : zRu := (318, [(0, 109, 0), (3, 1, 0), (3, 2, 0), (3, 3, 0), (3, 4, 0)], [(0, 1, -41)], [([], [(204, [(1, 0), (2, 0), (3, 0), (4, 0), (0, -2)])])])
def rU319 : zRu := (319, [(0, 109, 0), (3, 1, 0), (3, 2, 0), (3, 3, 0), (3, 4, 0)], [(2, 0, -1)], [([], [(204, [(1, 0), (2, 0), (3, 0), (4, 0), (0, -2)])])])
def rU320 : zRu := (320, [(0, 109, 0), (3, 1, 0), (3, 2, 0), (3, 3, 0), (3, 4, 0)], [(1, 2, -1)], [([], [(204, [(1, 0), (2, 0), (3, 0), (4, 0), (0, -2)])])])
def rU321 : zRu := (321, [(0, 109, 0), (3, 1, 0), (3, 2, 0), (3, 3, 0), (3, 4, 0)], [(4, 0, 0)], [([], [(204, [(1, 0), (2, 0), (3, 0), (4, 0), (0, -2)])])])
def rU322 : zRu := (322, [(0, 109, 0), (3, 1, 0), (3, 2, 0), (3, 3, 0), (3, 4, 0)], [(0, 4, -10001)], [([], [(204, [(1, 0), (2, 0), (3, 0), (4, 0), (0, -2)])])])
def rU323 : zRu := (323, [(0, 109, 0), (3, 1, 0), (3, 2, 0), (3, 3, 0), (3, 4, 0)], [(3, 0, -1)], [([], [(204, [(1, 0), (2, 0), (3, 0), (4, 0), (0, -2)])])])
def rU324 : zRu := (324, [(0, 109, 0), (3, 1, 0), (3, 2, 0), (3, 3, 0), (3, 4, 0)], [(4, 3, -1)], [([], [(204, [(1, 0), (2, 0), (3, 0), (4, 0), (0, -2)])])])
def rU325 : zRu := (325, [(0, 203, 0), (0, 204, 0)], [(6, 1, 0), (1, 6, 0), (7, 2, 0), (2, 7, 0), (8, 3, 0), (3, 8, 0), (9, 4, 0), (4, 9, 0)], [([(5, 10, 0), (10, 5, 0)], [])])
section
variable {D : zD} {ua : Nat → Nat}
theorem rU284_ok (hD : zk_d2 D ua) : zr_okU D rU284 := by
  intro ty H Ls hT hp hc
  obtain ⟨l0, Ls', rfl, p0, hp⟩ := zr_cons hp
  obtain ⟨l1, Ls', rfl, p1, hp⟩ := zr_cons hp
  obtain ⟨l2, Ls', rfl, p2, hp⟩ := zr_cons hp
  obtain ⟨l3, Ls', rfl, p3, hp⟩ := zr_cons hp
  obtain ⟨l4, Ls', rfl, p4, hp⟩ := zr_cons hp
  cases zr_nil hp
  obtain ⟨n1, f1, c1, q, rfl, h0⟩ := zd_op hD (by decide) p0
  obtain ⟨n, rfl⟩ := zd_loc p1
  obtain ⟨f, rfl⟩ := zd_loc p2
  obtain ⟨c, rfl⟩ := zd_loc p3
  obtain ⟨w, rfl⟩ := zd_loc p4
  obtain ⟨qc0, hc⟩ := zc1 hc
  have qc0 : n1 ≤ n + 0 := qc0
  obtain ⟨qc1, hc⟩ := zc1 hc
  have qc1 : n ≤ n1 + 0 := qc1
  obtain ⟨qc2, hc⟩ := zc1 hc
  have qc2 : f1 ≤ f + 0 := qc2
  obtain ⟨qc3, hc⟩ := zc1 hc
  have qc3 : f ≤ f1 + 0 := qc3
  obtain ⟨qc4, hc⟩ := zc1 hc
  have qc4 : c1 ≤ c + 0 := qc4
  obtain ⟨qc5, hc⟩ := zc1 hc
  have qc5 : c ≤ c1 + 0 := qc5
  obtain ⟨qc6, hc⟩ := zc1 hc
  have qc6 : w ≤ (0 : Int) + 0 := qc6
  obtain ⟨qc7, hc⟩ := zc1 hc
  have qc7 : (0 : Int) ≤ w + 0 := qc7
  obtain ⟨qc8, hc⟩ := zc1 hc
  have qc8 : (0 : Int) ≤ n + -1 := qc8
  obtain ⟨qc9, hc⟩ := zc1 hc
  have qc9 : n ≤ (0 : Int) + 40 := qc9
  obtain ⟨qc10, hc⟩ := zc1 hc
  have qc10 : (0 : Int) ≤ f + 0 := qc10
  obtain ⟨qc11, hc⟩ := zc1 hc
  have qc11 : f ≤ n + 0 := qc11
  obtain ⟨qc12, hc⟩ := zc1 hc
  have qc12 : (0 : Int) ≤ c + 0 := qc12
  obtain ⟨qc13, hc⟩ := zc1 hc
  have qc13 : c ≤ n + 0 := qc13
  refine ⟨_, List.mem_singleton.mpr rfl, fun cc hcc => (by cases hcc), fun ff hff => ?_⟩
  rw [List.mem_singleton.mp hff]
  refine (hD.1 201 (by decide) _ _ _).mpr ⟨zd_ty hD (by decide) p0, n, f, c, w, q, by simp, ?_⟩
  unfold zn_ca
  rw [if_pos ⟨⟨by omega, by omega⟩, ⟨by omega, by omega⟩, ⟨by omega, by omega⟩, by omega, by omega⟩, if_pos (by omega), h0, show n1 = n by omega, show f1 = f by omega, show c1 = c by omega]
theorem rU285_ok (hD : zk_d2 D ua) : zr_okU D rU285 := by
  intro ty H Ls hT hp hc
  obtain ⟨l0, Ls', rfl, p0, hp⟩ := zr_cons hp
  obtain ⟨l1, Ls', rfl, p1, hp⟩ := zr_cons hp
  obtain ⟨l2, Ls', rfl, p2, hp⟩ := zr_cons hp
  obtain ⟨l3, Ls', rfl, p3, hp⟩ := zr_cons hp
  obtain ⟨l4, Ls', rfl, p4, hp⟩ := zr_cons hp
  cases zr_nil hp
  obtain ⟨n1, f1, c1, q, rfl, h0⟩ := zd_op hD (by decide) p0
  obtain ⟨n, rfl⟩ := zd_loc p1
  obtain ⟨f, rfl⟩ := zd_loc p2
  obtain ⟨c, rfl⟩ := zd_loc p3
  obtain ⟨w, rfl⟩ := zd_loc p4
  obtain ⟨qc0, hc⟩ := zc1 hc
  have qc0 : n1 ≤ n + 0 := qc0
  obtain ⟨qc1, hc⟩ := zc1 hc
  have qc1 : n ≤ n1 + 0 := qc1
  obtain ⟨qc2, hc⟩ := zc1 hc
  have qc2 : f1 ≤ f + 0 := qc2
  obtain ⟨qc3, hc⟩ := zc1 hc
  have qc3 : f ≤ f1 + 0 := qc3
  obtain ⟨qc4, hc⟩ := zc1 hc
  have qc4 : c1 ≤ c + 0 := qc4
  obtain ⟨qc5, hc⟩ := zc1 hc
  have qc5 : c ≤ c1 + 0 := qc5
  obtain ⟨qc6, hc⟩ := zc1 hc
  have qc6 : w ≤ (0 : Int) + 1 := qc6
  obtain ⟨qc7, hc⟩ := zc1 hc
  have qc7 : (0 : Int) ≤ w + -1 := qc7
  obtain ⟨qc8, hc⟩ := zc1 hc
  have qc8 : (0 : Int) ≤ n + -1 := qc8
  obtain ⟨qc9, hc⟩ := zc1 hc
  have qc9 : n ≤ (0 : Int) + 40 := qc9
  obtain ⟨qc10, hc⟩ := zc1 hc
  have qc10 : (0 : Int) ≤ f + 0 := qc10
  obtain ⟨qc11, hc⟩ := zc1 hc
  have qc11 : f ≤ n + 0 := qc11
  obtain ⟨qc12, hc⟩ := zc1 hc
  have qc12 : (0 : Int) ≤ c + 0 := qc12
  obtain ⟨qc13, hc⟩ := zc1 hc
  have qc13 : c ≤ n + 0 := qc13
  refine ⟨_, List.mem_singleton.mpr rfl, fun cc hcc => (by cases hcc), fun ff hff => ?_⟩
  rw [List.mem_singleton.mp hff]
  refine (hD.1 201 (by decide) _ _ _).mpr ⟨zd_ty hD (by decide) p0, n, f, c, w, q, by simp, ?_⟩
  unfold zn_ca
  rw [if_pos ⟨⟨by omega, by omega⟩, ⟨by omega, by omega⟩, ⟨by omega, by omega⟩, by omega, by omega⟩, if_neg (by omega), h0, show n1 = n by omega, show f1 = f by omega, show c1 = c by omega]
theorem rU286_ok (hD : zk_d2 D ua) : zr_okU D rU286 := by
  intro ty H Ls hT hp hc
  obtain ⟨l0, Ls', rfl, p0, hp⟩ := zr_cons hp
  obtain ⟨l1, Ls', rfl, p1, hp⟩ := zr_cons hp
  obtain ⟨l2, Ls', rfl, p2, hp⟩ := zr_cons hp
  obtain ⟨l3, Ls', rfl, p3, hp⟩ := zr_cons hp
  obtain ⟨l4, Ls', rfl, p4, hp⟩ := zr_cons hp
  cases zr_nil hp
  obtain ⟨rfl, -⟩ := zd_op hD (by decide) p0
  obtain ⟨n, rfl⟩ := zd_loc p1
  obtain ⟨f, rfl⟩ := zd_loc p2
  obtain ⟨c, rfl⟩ := zd_loc p3
  obtain ⟨w, rfl⟩ := zd_loc p4
  obtain ⟨qc0, hc⟩ := zc1 hc
  have qc0 : n ≤ (0 : Int) + 0 := qc0
  refine ⟨_, List.mem_singleton.mpr rfl, fun cc hcc => (by cases hcc), fun ff hff => ?_⟩
  rw [List.mem_singleton.mp hff]
  refine (hD.1 201 (by decide) _ _ _).mpr ⟨zd_ty hD (by decide) p0, n, f, c, w, -2, by simp, ?_⟩
  unfold zn_ca
  rw [if_neg (by omega)]
theorem rU287_ok (hD : zk_d2 D ua) : zr_okU D rU287 := by
  intro ty H Ls hT hp hc
  obtain ⟨l0, Ls', rfl, p0, hp⟩ := zr_cons hp
  obtain ⟨l1, Ls', rfl, p1, hp⟩ := zr_cons hp
  obtain ⟨l2, Ls', rfl, p2, hp⟩ := zr_cons hp
  obtain ⟨l3, Ls', rfl, p3, hp⟩ := zr_cons hp
  obtain ⟨l4, Ls', rfl, p4, hp⟩ := zr_cons hp
  cases zr_nil hp
  obtain ⟨rfl, -⟩ := zd_op hD (by decide) p0
  obtain ⟨n, rfl⟩ := zd_loc p1
  obtain ⟨f, rfl⟩ := zd_loc p2
  obtain ⟨c, rfl⟩ := zd_loc p3
  obtain ⟨w, rfl⟩ := zd_loc p4
  obtain ⟨qc0, hc⟩ := zc1 hc
  have qc0 : (0 : Int) ≤ n + -41 := qc0
  refine ⟨_, List.mem_singleton.mpr rfl, fun cc hcc => (by cases hcc), fun ff hff => ?_⟩
  rw [List.mem_singleton.mp hff]
  refine (hD.1 201 (by decide) _ _ _).mpr ⟨zd_ty hD (by decide) p0, n, f, c, w, -2, by simp, ?_⟩
  unfold zn_ca
  rw [if_neg (by omega)]
theorem rU288_ok (hD : zk_d2 D ua) : zr_okU D rU288 := by
  intro ty H Ls hT hp hc
  obtain ⟨l0, Ls', rfl, p0, hp⟩ := zr_cons hp
  obtain ⟨l1, Ls', rfl, p1, hp⟩ := zr_cons hp
  obtain ⟨l2, Ls', rfl, p2, hp⟩ := zr_cons hp
  obtain ⟨l3, Ls', rfl, p3, hp⟩ := zr_cons hp
  obtain ⟨l4, Ls', rfl, p4, hp⟩ := zr_cons hp
  cases zr_nil hp
  obtain ⟨rfl, -⟩ := zd_op hD (by decide) p0
  obtain ⟨n, rfl⟩ := zd_loc p1
  obtain ⟨f, rfl⟩ := zd_loc p2
  obtain ⟨c, rfl⟩ := zd_loc p3
  obtain ⟨w, rfl⟩ := zd_loc p4
  obtain ⟨qc0, hc⟩ := zc1 hc
  have qc0 : f ≤ (0 : Int) + -1 := qc0
  refine ⟨_, List.mem_singleton.mpr rfl, fun cc hcc => (by cases hcc), fun ff hff => ?_⟩
  rw [List.mem_singleton.mp hff]
  refine (hD.1 201 (by decide) _ _ _).mpr ⟨zd_ty hD (by decide) p0, n, f, c, w, -2, by simp, ?_⟩
  unfold zn_ca
  rw [if_neg (by omega)]
theorem rU289_ok (hD : zk_d2 D ua) : zr_okU D rU289 := by
  intro ty H Ls hT hp hc
  obtain ⟨l0, Ls', rfl, p0, hp⟩ := zr_cons hp
  obtain ⟨l1, Ls', rfl, p1, hp⟩ := zr_cons hp
  obtain ⟨l2, Ls', rfl, p2, hp⟩ := zr_cons hp
  obtain ⟨l3, Ls', rfl, p3, hp⟩ := zr_cons hp
  obtain ⟨l4, Ls', rfl, p4, hp⟩ := zr_cons hp
  cases zr_nil hp
  obtain ⟨rfl, -⟩ := zd_op hD (by decide) p0
  obtain ⟨n, rfl⟩ := zd_loc p1
  obtain ⟨f, rfl⟩ := zd_loc p2
  obtain ⟨c, rfl⟩ := zd_loc p3
  obtain ⟨w, rfl⟩ := zd_loc p4
  obtain ⟨qc0, hc⟩ := zc1 hc
  have qc0 : n ≤ f + -1 := qc0
  refine ⟨_, List.mem_singleton.mpr rfl, fun cc hcc => (by cases hcc), fun ff hff => ?_⟩
  rw [List.mem_singleton.mp hff]
  refine (hD.1 201 (by decide) _ _ _).mpr ⟨zd_ty hD (by decide) p0, n, f, c, w, -2, by simp, ?_⟩
  unfold zn_ca
  rw [if_neg (by omega)]
theorem rU290_ok (hD : zk_d2 D ua) : zr_okU D rU290 := by
  intro ty H Ls hT hp hc
  obtain ⟨l0, Ls', rfl, p0, hp⟩ := zr_cons hp
  obtain ⟨l1, Ls', rfl, p1, hp⟩ := zr_cons hp
  obtain ⟨l2, Ls', rfl, p2, hp⟩ := zr_cons hp
  obtain ⟨l3, Ls', rfl, p3, hp⟩ := zr_cons hp
  obtain ⟨l4, Ls', rfl, p4, hp⟩ := zr_cons hp
  cases zr_nil hp
  obtain ⟨rfl, -⟩ := zd_op hD (by decide) p0
  obtain ⟨n, rfl⟩ := zd_loc p1
  obtain ⟨f, rfl⟩ := zd_loc p2
  obtain ⟨c, rfl⟩ := zd_loc p3
  obtain ⟨w, rfl⟩ := zd_loc p4
  obtain ⟨qc0, hc⟩ := zc1 hc
  have qc0 : c ≤ (0 : Int) + -1 := qc0
  refine ⟨_, List.mem_singleton.mpr rfl, fun cc hcc => (by cases hcc), fun ff hff => ?_⟩
  rw [List.mem_singleton.mp hff]
  refine (hD.1 201 (by decide) _ _ _).mpr ⟨zd_ty hD (by decide) p0, n, f, c, w, -2, by simp, ?_⟩
  unfold zn_ca
  rw [if_neg (by omega)]
theorem rU291_ok (hD : zk_d2 D ua) : zr_okU D rU291 := by
  intro ty H Ls hT hp hc
  obtain ⟨l0, Ls', rfl, p0, hp⟩ := zr_cons hp
  obtain ⟨l1, Ls', rfl, p1, hp⟩ := zr_cons hp
  obtain ⟨l2, Ls', rfl, p2, hp⟩ := zr_cons hp
  obtain ⟨l3, Ls', rfl, p3, hp⟩ := zr_cons hp
  obtain ⟨l4, Ls', rfl, p4, hp⟩ := zr_cons hp
  cases zr_nil hp
  obtain ⟨rfl, -⟩ := zd_op hD (by decide) p0
  obtain ⟨n, rfl⟩ := zd_loc p1
  obtain ⟨f, rfl⟩ := zd_loc p2
  obtain ⟨c, rfl⟩ := zd_loc p3
  obtain ⟨w, rfl⟩ := zd_loc p4
  obtain ⟨qc0, hc⟩ := zc1 hc
  have qc0 : n ≤ c + -1 := qc0
  refine ⟨_, List.mem_singleton.mpr rfl, fun cc hcc => (by cases hcc), fun ff hff => ?_⟩
  rw [List.mem_singleton.mp hff]
  refine (hD.1 201 (by decide) _ _ _).mpr ⟨zd_ty hD (by decide) p0, n, f, c, w, -2, by simp, ?_⟩
  unfold zn_ca
  rw [if_neg (by omega)]
theorem rU292_ok (hD : zk_d2 D ua) : zr_okU D rU292 := by
  intro ty H Ls hT hp hc
  obtain ⟨l0, Ls', rfl, p0, hp⟩ := zr_cons hp
  obtain ⟨l1, Ls', rfl, p1, hp⟩ := zr_cons hp
  obtain ⟨l2, Ls', rfl, p2, hp⟩ := zr_cons hp
  obtain ⟨l3, Ls', rfl, p3, hp⟩ := zr_cons hp
  obtain ⟨l4, Ls', rfl, p4, hp⟩ := zr_cons hp
  cases zr_nil hp
  obtain ⟨rfl, -⟩ := zd_op hD (by decide) p0
  obtain ⟨n, rfl⟩ := zd_loc p1
  obtain ⟨f, rfl⟩ := zd_loc p2
  obtain ⟨c, rfl⟩ := zd_loc p3
  obtain ⟨w, rfl⟩ := zd_loc p4
  obtain ⟨qc0, hc⟩ := zc1 hc
  have qc0 : w ≤ (0 : Int) + -1 := qc0
  refine ⟨_, List.mem_singleton.mpr rfl, fun cc hcc => (by cases hcc), fun ff hff => ?_⟩
  rw [List.mem_singleton.mp hff]
  refine (hD.1 201 (by decide) _ _ _).mpr ⟨zd_ty hD (by decide) p0, n, f, c, w, -2, by simp, ?_⟩
  unfold zn_ca
  rw [if_neg (by omega)]
theorem rU293_ok (hD : zk_d2 D ua) : zr_okU D rU293 := by
  intro ty H Ls hT hp hc
  obtain ⟨l0, Ls', rfl, p0, hp⟩ := zr_cons hp
  obtain ⟨l1, Ls', rfl, p1, hp⟩ := zr_cons hp
  obtain ⟨l2, Ls', rfl, p2, hp⟩ := zr_cons hp
  obtain ⟨l3, Ls', rfl, p3, hp⟩ := zr_cons hp
  obtain ⟨l4, Ls', rfl, p4, hp⟩ := zr_cons hp
  cases zr_nil hp
  obtain ⟨rfl, -⟩ := zd_op hD (by decide) p0
  obtain ⟨n, rfl⟩ := zd_loc p1
  obtain ⟨f, rfl⟩ := zd_loc p2
  obtain ⟨c, rfl⟩ := zd_loc p3
  obtain ⟨w, rfl⟩ := zd_loc p4
  obtain ⟨qc0, hc⟩ := zc1 hc
  have qc0 : (0 : Int) ≤ w + -2 := qc0
  refine ⟨_, List.mem_singleton.mpr rfl, fun cc hcc => (by cases hcc), fun ff hff => ?_⟩
  rw [List.mem_singleton.mp hff]
  refine (hD.1 201 (by decide) _ _ _).mpr ⟨zd_ty hD (by decide) p0, n, f, c, w, -2, by simp, ?_⟩
  unfold zn_ca
  rw [if_neg (by omega)]
theorem rU294_ok (hD : zk_d2 D ua) : zr_okU D rU294 := by
  intro ty H Ls hT hp hc
  obtain ⟨l0, Ls', rfl, p0, hp⟩ := zr_cons hp
  obtain ⟨l1, Ls', rfl, p1, hp⟩ := zr_cons hp
  obtain ⟨l2, Ls', rfl, p2, hp⟩ := zr_cons hp
  obtain ⟨l3, Ls', rfl, p3, hp⟩ := zr_cons hp
  obtain ⟨l4, Ls', rfl, p4, hp⟩ := zr_cons hp
  cases zr_nil hp
  obtain ⟨n1, f1, c1, q, rfl, h0⟩ := zd_op hD (by decide) p0
  obtain ⟨n, rfl⟩ := zd_loc p1
  obtain ⟨f, rfl⟩ := zd_loc p2
  obtain ⟨c, rfl⟩ := zd_loc p3
  obtain ⟨w, rfl⟩ := zd_loc p4
  obtain ⟨qc0, hc⟩ := zc1 hc
  have qc0 : n1 ≤ n + 0 := qc0
  obtain ⟨qc1, hc⟩ := zc1 hc
  have qc1 : n ≤ n1 + 0 := qc1
  obtain ⟨qc2, hc⟩ := zc1 hc
  have qc2 : f1 ≤ f + 0 := qc2
  obtain ⟨qc3, hc⟩ := zc1 hc
  have qc3 : f ≤ f1 + 0 := qc3
  obtain ⟨qc4, hc⟩ := zc1 hc
  have qc4 : c1 ≤ c + 0 := qc4
  obtain ⟨qc5, hc⟩ := zc1 hc
  have qc5 : c ≤ c1 + 0 := qc5
  obtain ⟨qc6, hc⟩ := zc1 hc
  have qc6 : w ≤ (0 : Int) + 0 := qc6
  obtain ⟨qc7, hc⟩ := zc1 hc
  have qc7 : (0 : Int) ≤ w + 0 := qc7
  obtain ⟨qc8, hc⟩ := zc1 hc
  have qc8 : (0 : Int) ≤ n + -1 := qc8
  obtain ⟨qc9, hc⟩ := zc1 hc
  have qc9 : n ≤ (0 : Int) + 40 := qc9
  obtain ⟨qc10, hc⟩ := zc1 hc
  have qc10 : (0 : Int) ≤ f + 0 := qc10
  obtain ⟨qc11, hc⟩ := zc1 hc
  have qc11 : f ≤ n + 0 := qc11
  obtain ⟨qc12, hc⟩ := zc1 hc
  have qc12 : (0 : Int) ≤ c + 0 := qc12
  obtain ⟨qc13, hc⟩ := zc1 hc
  have qc13 : c ≤ n + 0 := qc13
  refine ⟨_, List.mem_singleton.mpr rfl, fun cc hcc => (by cases hcc), fun ff hff => ?_⟩
  rw [List.mem_singleton.mp hff]
  refine (hD.1 202 (by decide) _ _ _).mpr ⟨zd_ty hD (by decide) p0, n, f, c, w, q, by simp, ?_⟩
  unfold zn_ca
  rw [if_pos ⟨⟨by omega, by omega⟩, ⟨by omega, by omega⟩, ⟨by omega, by omega⟩, by omega, by omega⟩, if_pos (by omega), h0, show n1 = n by omega, show f1 = f by omega, show c1 = c by omega]
theorem rU295_ok (hD : zk_d2 D ua) : zr_okU D rU295 := by
  intro ty H Ls hT hp hc
  obtain ⟨l0, Ls', rfl, p0, hp⟩ := zr_cons hp
  obtain ⟨l1, Ls', rfl, p1, hp⟩ := zr_cons hp
  obtain ⟨l2, Ls', rfl, p2, hp⟩ := zr_cons hp
  obtain ⟨l3, Ls', rfl, p3, hp⟩ := zr_cons hp
  obtain ⟨l4, Ls', rfl, p4, hp⟩ := zr_cons hp
  cases zr_nil hp
  obtain ⟨n1, f1, c1, q, rfl, h0⟩ := zd_op hD (by decide) p0
  obtain ⟨n, rfl⟩ := zd_loc p1
  obtain ⟨f, rfl⟩ := zd_loc p2
  obtain ⟨c, rfl⟩ := zd_loc p3
  obtain ⟨w, rfl⟩ := zd_loc p4
  obtain ⟨qc0, hc⟩ := zc1 hc
  have qc0 : n1 ≤ n + 0 := qc0
  obtain ⟨qc1, hc⟩ := zc1 hc
  have qc1 : n ≤ n1 + 0 := qc1
  obtain ⟨qc2, hc⟩ := zc1 hc
  have qc2 : f1 ≤ f + 0 := qc2
  obtain ⟨qc3, hc⟩ := zc1 hc
  have qc3 : f ≤ f1 + 0 := qc3
  obtain ⟨qc4, hc⟩ := zc1 hc
  have qc4 : c1 ≤ c + 0 := qc4
  obtain ⟨qc5, hc⟩ := zc1 hc
  have qc5 : c ≤ c1 + 0 := qc5
  obtain ⟨qc6, hc⟩ := zc1 hc
  have qc6 : w ≤ (0 : Int) + 1 := qc6
  obtain ⟨qc7, hc⟩ := zc1 hc
  have qc7 : (0 : Int) ≤ w + -1 := qc7
  obtain ⟨qc8, hc⟩ := zc1 hc
  have qc8 : (0 : Int) ≤ n + -1 := qc8
  obtain ⟨qc9, hc⟩ := zc1 hc
  have qc9 : n ≤ (0 : Int) + 40 := qc9
  obtain ⟨qc10, hc⟩ := zc1 hc
  have qc10 : (0 : Int) ≤ f + 0 := qc10
  obtain ⟨qc11, hc⟩ := zc1 hc
  have qc11 : f ≤ n + 0 := qc11
  obtain ⟨qc12, hc⟩ := zc1 hc
  have qc12 : (0 : Int) ≤ c + 0 := qc12
  obtain ⟨qc13, hc⟩ := zc1 hc
  have qc13 : c ≤ n + 0 := qc13
  refine ⟨_, List.mem_singleton.mpr rfl, fun cc hcc => (by cases hcc), fun ff hff => ?_⟩
  rw [List.mem_singleton.mp hff]
  refine (hD.1 202 (by decide) _ _ _).mpr ⟨zd_ty hD (by decide) p0, n, f, c, w, q, by simp, ?_⟩
  unfold zn_ca
  rw [if_pos ⟨⟨by omega, by omega⟩, ⟨by omega, by omega⟩, ⟨by omega, by omega⟩, by omega, by omega⟩, if_neg (by omega), h0, show n1 = n by omega, show f1 = f by omega, show c1 = c by omega]
theorem rU296_ok (hD : zk_d2 D ua) : zr_okU D rU296 := by
  intro ty H Ls hT hp hc
  obtain ⟨l0, Ls', rfl, p0, hp⟩ := zr_cons hp
  obtain ⟨l1, Ls', rfl, p1, hp⟩ := zr_cons hp
  obtain ⟨l2, Ls', rfl, p2, hp⟩ := zr_cons hp
  obtain ⟨l3, Ls', rfl, p3, hp⟩ := zr_cons hp
  obtain ⟨l4, Ls', rfl, p4, hp⟩ := zr_cons hp
  cases zr_nil hp
  obtain ⟨rfl, -⟩ := zd_op hD (by decide) p0
  obtain ⟨n, rfl⟩ := zd_loc p1
  obtain ⟨f, rfl⟩ := zd_loc p2
  obtain ⟨c, rfl⟩ := zd_loc p3
  obtain ⟨w, rfl⟩ := zd_loc p4
  obtain ⟨qc0, hc⟩ := zc1 hc
  have qc0 : n ≤ (0 : Int) + 0 := qc0
  refine ⟨_, List.mem_singleton.mpr rfl, fun cc hcc => (by cases hcc), fun ff hff => ?_⟩
  rw [List.mem_singleton.mp hff]
  refine (hD.1 202 (by decide) _ _ _).mpr ⟨zd_ty hD (by decide) p0, n, f, c, w, -2, by simp, ?_⟩
  unfold zn_ca
  rw [if_neg (by omega)]
theorem rU297_ok (hD : zk_d2 D ua) : zr_okU D rU297 := by
  intro ty H Ls hT hp hc
  obtain ⟨l0, Ls', rfl, p0, hp⟩ := zr_cons hp
  obtain ⟨l1, Ls', rfl, p1, hp⟩ := zr_cons hp
  obtain ⟨l2, Ls', rfl, p2, hp⟩ := zr_cons hp
  obtain ⟨l3, Ls', rfl, p3, hp⟩ := zr_cons hp
  obtain ⟨l4, Ls', rfl, p4, hp⟩ := zr_cons hp
  cases zr_nil hp
  obtain ⟨rfl, -⟩ := zd_op hD (by decide) p0
  obtain ⟨n, rfl⟩ := zd_loc p1
  obtain ⟨f, rfl⟩ := zd_loc p2
  obtain ⟨c, rfl⟩ := zd_loc p3
  obtain ⟨w, rfl⟩ := zd_loc p4
  obtain ⟨qc0, hc⟩ := zc1 hc
  have qc0 : (0 : Int) ≤ n + -41 := qc0
  refine ⟨_, List.mem_singleton.mpr rfl, fun cc hcc => (by cases hcc), fun ff hff => ?_⟩
  rw [List.mem_singleton.mp hff]
  refine (hD.1 202 (by decide) _ _ _).mpr ⟨zd_ty hD (by decide) p0, n, f, c, w, -2, by simp, ?_⟩
  unfold zn_ca
  rw [if_neg (by omega)]
theorem rU298_ok (hD : zk_d2 D ua) : zr_okU D rU298 := by
  intro ty H Ls hT hp hc
  obtain ⟨l0, Ls', rfl, p0, hp⟩ := zr_cons hp
  obtain ⟨l1, Ls', rfl, p1, hp⟩ := zr_cons hp
  obtain ⟨l2, Ls', rfl, p2, hp⟩ := zr_cons hp
  obtain ⟨l3, Ls', rfl, p3, hp⟩ := zr_cons hp
  obtain ⟨l4, Ls', rfl, p4, hp⟩ := zr_cons hp
  cases zr_nil hp
  obtain ⟨rfl, -⟩ := zd_op hD (by decide) p0
  obtain ⟨n, rfl⟩ := zd_loc p1
  obtain ⟨f, rfl⟩ := zd_loc p2
  obtain ⟨c, rfl⟩ := zd_loc p3
  obtain ⟨w, rfl⟩ := zd_loc p4
  obtain ⟨qc0, hc⟩ := zc1 hc
  have qc0 : f ≤ (0 : Int) + -1 := qc0
  refine ⟨_, List.mem_singleton.mpr rfl, fun cc hcc => (by cases hcc), fun ff hff => ?_⟩
  rw [List.mem_singleton.mp hff]
  refine (hD.1 202 (by decide) _ _ _).mpr ⟨zd_ty hD (by decide) p0, n, f, c, w, -2, by simp, ?_⟩
  unfold zn_ca
  rw [if_neg (by omega)]
theorem rU299_ok (hD : zk_d2 D ua) : zr_okU D rU299 := by
  intro ty H Ls hT hp hc
  obtain ⟨l0, Ls', rfl, p0, hp⟩ := zr_cons hp
  obtain ⟨l1, Ls', rfl, p1, hp⟩ := zr_cons hp
  obtain ⟨l2, Ls', rfl, p2, hp⟩ := zr_cons hp
  obtain ⟨l3, Ls', rfl, p3, hp⟩ := zr_cons hp
  obtain ⟨l4, Ls', rfl, p4, hp⟩ := zr_cons hp
  cases zr_nil hp
  obtain ⟨rfl, -⟩ := zd_op hD (by decide) p0
  obtain ⟨n, rfl⟩ := zd_loc p1
  obtain ⟨f, rfl⟩ := zd_loc p2
  obtain ⟨c, rfl⟩ := zd_loc p3
  obtain ⟨w, rfl⟩ := zd_loc p4
  obtain ⟨qc0, hc⟩ := zc1 hc
  have qc0 : n ≤ f + -1 := qc0
  refine ⟨_, List.mem_singleton.mpr rfl, fun cc hcc => (by cases hcc), fun ff hff => ?_⟩
  rw [List.mem_singleton.mp hff]
  refine (hD.1 202 (by decide) _ _ _).mpr ⟨zd_ty hD (by decide) p0, n, f, c, w, -2, by simp, ?_⟩
  unfold zn_ca
  rw [if_neg (by omega)]
theorem rU300_ok (hD : zk_d2 D ua) : zr_okU D rU300 := by
  intro ty H Ls hT hp hc
  obtain ⟨l0, Ls', rfl, p0, hp⟩ := zr_cons hp
  obtain ⟨l1, Ls', rfl, p1, hp⟩ := zr_cons hp
  obtain ⟨l2, Ls', rfl, p2, hp⟩ := zr_cons hp
  obtain ⟨l3, Ls', rfl, p3, hp⟩ := zr_cons hp
  obtain ⟨l4, Ls', rfl, p4, hp⟩ := zr_cons hp
  cases zr_nil hp
  obtain ⟨rfl, -⟩ := zd_op hD (by decide) p0
  obtain ⟨n, rfl⟩ := zd_loc p1
  obtain ⟨f, rfl⟩ := zd_loc p2
  obtain ⟨c, rfl⟩ := zd_loc p3
  obtain ⟨w, rfl⟩ := zd_loc p4
  obtain ⟨qc0, hc⟩ := zc1 hc
  have qc0 : c ≤ (0 : Int) + -1 := qc0
  refine ⟨_, List.mem_singleton.mpr rfl, fun cc hcc => (by cases hcc), fun ff hff => ?_⟩
  rw [List.mem_singleton.mp hff]
  refine (hD.1 202 (by decide) _ _ _).mpr ⟨zd_ty hD (by decide) p0, n, f, c, w, -2, by simp, ?_⟩
  unfold zn_ca
  rw [if_neg (by omega)]
theorem rU301_ok (hD : zk_d2 D ua) : zr_okU D rU301 := by
  intro ty H Ls hT hp hc
  obtain ⟨l0, Ls', rfl, p0, hp⟩ := zr_cons hp
  obtain ⟨l1, Ls', rfl, p1, hp⟩ := zr_cons hp
  obtain ⟨l2, Ls', rfl, p2, hp⟩ := zr_cons hp
  obtain ⟨l3, Ls', rfl, p3, hp⟩ := zr_cons hp
  obtain ⟨l4, Ls', rfl, p4, hp⟩ := zr_cons hp
  cases zr_nil hp
  obtain ⟨rfl, -⟩ := zd_op hD (by decide) p0
  obtain ⟨n, rfl⟩ := zd_loc p1
  obtain ⟨f, rfl⟩ := zd_loc p2
  obtain ⟨c, rfl⟩ := zd_loc p3
  obtain ⟨w, rfl⟩ := zd_loc p4
  obtain ⟨qc0, hc⟩ := zc1 hc
  have qc0 : n ≤ c + -1 := qc0
  refine ⟨_, List.mem_singleton.mpr rfl, fun cc hcc => (by cases hcc), fun ff hff => ?_⟩
  rw [List.mem_singleton.mp hff]
  refine (hD.1 202 (by decide) _ _ _).mpr ⟨zd_ty hD (by decide) p0, n, f, c, w, -2, by simp, ?_⟩
  unfold zn_ca
  rw [if_neg (by omega)]
theorem rU302_ok (hD : zk_d2 D ua) : zr_okU D rU302 := by
  intro ty H Ls hT hp hc
  obtain ⟨l0, Ls', rfl, p0, hp⟩ := zr_cons hp
  obtain ⟨l1, Ls', rfl, p1, hp⟩ := zr_cons hp
  obtain ⟨l2, Ls', rfl, p2, hp⟩ := zr_cons hp
  obtain ⟨l3, Ls', rfl, p3, hp⟩ := zr_cons hp
  obtain ⟨l4, Ls', rfl, p4, hp⟩ := zr_cons hp
  cases zr_nil hp
  obtain ⟨rfl, -⟩ := zd_op hD (by decide) p0
  obtain ⟨n, rfl⟩ := zd_loc p1
  obtain ⟨f, rfl⟩ := zd_loc p2
  obtain ⟨c, rfl⟩ := zd_loc p3
  obtain ⟨w, rfl⟩ := zd_loc p4
  obtain ⟨qc0, hc⟩ := zc1 hc
  have qc0 : w ≤ (0 : Int) + -1 := qc0
  refine ⟨_, List.mem_singleton.mpr rfl, fun cc hcc => (by cases hcc), fun ff hff => ?_⟩
  rw [List.mem_singleton.mp hff]
  refine (hD.1 202 (by decide) _ _ _).mpr ⟨zd_ty hD (by decide) p0, n, f, c, w, -2, by simp, ?_⟩
  unfold zn_ca
  rw [if_neg (by omega)]
theorem rU303_ok (hD : zk_d2 D ua) : zr_okU D rU303 := by
  intro ty H Ls hT hp hc
  obtain ⟨l0, Ls', rfl, p0, hp⟩ := zr_cons hp
  obtain ⟨l1, Ls', rfl, p1, hp⟩ := zr_cons hp
  obtain ⟨l2, Ls', rfl, p2, hp⟩ := zr_cons hp
  obtain ⟨l3, Ls', rfl, p3, hp⟩ := zr_cons hp
  obtain ⟨l4, Ls', rfl, p4, hp⟩ := zr_cons hp
  cases zr_nil hp
  obtain ⟨rfl, -⟩ := zd_op hD (by decide) p0
  obtain ⟨n, rfl⟩ := zd_loc p1
  obtain ⟨f, rfl⟩ := zd_loc p2
  obtain ⟨c, rfl⟩ := zd_loc p3
  obtain ⟨w, rfl⟩ := zd_loc p4
  obtain ⟨qc0, hc⟩ := zc1 hc
  have qc0 : (0 : Int) ≤ w + -2 := qc0
  refine ⟨_, List.mem_singleton.mpr rfl, fun cc hcc => (by cases hcc), fun ff hff => ?_⟩
  rw [List.mem_singleton.mp hff]
  refine (hD.1 202 (by decide) _ _ _).mpr ⟨zd_ty hD (by decide) p0, n, f, c, w, -2, by simp, ?_⟩
  unfold zn_ca
  rw [if_neg (by omega)]
theorem rU305_ok (hD : zk_d2 D ua) : zr_okU D rU305 := by
  intro ty H Ls hT hp hc
  obtain ⟨l0, Ls', rfl, p0, hp⟩ := zr_cons hp
  obtain ⟨l1, Ls', rfl, p1, hp⟩ := zr_cons hp
  obtain ⟨l2, Ls', rfl, p2, hp⟩ := zr_cons hp
  obtain ⟨l3, Ls', rfl, p3, hp⟩ := zr_cons hp
  obtain ⟨l4, Ls', rfl, p4, hp⟩ := zr_cons hp
  cases zr_nil hp
  obtain ⟨n1, f1, a1, b1, c, rfl, h0⟩ := zd_op hD (by decide) p0
  obtain ⟨n, rfl⟩ := zd_loc p1
  obtain ⟨f, rfl⟩ := zd_loc p2
  obtain ⟨a, rfl⟩ := zd_loc p3
  obtain ⟨b, rfl⟩ := zd_loc p4
  obtain ⟨qc0, hc⟩ := zc1 hc
  have qc0 : n1 ≤ n + 0 := qc0
  obtain ⟨qc1, hc⟩ := zc1 hc
  have qc1 : n ≤ n1 + 0 := qc1
  obtain ⟨qc2, hc⟩ := zc1 hc
  have qc2 : f1 ≤ f + 0 := qc2
  obtain ⟨qc3, hc⟩ := zc1 hc
  have qc3 : f ≤ f1 + 0 := qc3
  obtain ⟨qc4, hc⟩ := zc1 hc
  have qc4 : a1 ≤ a + 0 := qc4
  obtain ⟨qc5, hc⟩ := zc1 hc
  have qc5 : a ≤ a1 + 0 := qc5
  obtain ⟨qc6, hc⟩ := zc1 hc
  have qc6 : b1 ≤ b + 0 := qc6
  obtain ⟨qc7, hc⟩ := zc1 hc
  have qc7 : b ≤ b1 + 0 := qc7
  obtain ⟨qc8, hc⟩ := zc1 hc
  have qc8 : (0 : Int) ≤ n + -1 := qc8
  obtain ⟨qc9, hc⟩ := zc1 hc
  have qc9 : n ≤ (0 : Int) + 40 := qc9
  obtain ⟨qc10, hc⟩ := zc1 hc
  have qc10 : (0 : Int) ≤ f + 0 := qc10
  obtain ⟨qc11, hc⟩ := zc1 hc
  have qc11 : f ≤ n + 0 := qc11
  obtain ⟨qc12, hc⟩ := zc1 hc
  have qc12 : (0 : Int) ≤ b + -1 := qc12
  obtain ⟨qc13, hc⟩ := zc1 hc
  have qc13 : b ≤ (0 : Int) + 10000 := qc13
  obtain ⟨qc14, hc⟩ := zc1 hc
  have qc14 : (0 : Int) ≤ a + 0 := qc14
  obtain ⟨qc15, hc⟩ := zc1 hc
  have qc15 : a ≤ b + 0 := qc15
  rw [show n1 = n by omega, show f1 = f by omega, show a1 = a by omega, show b1 = b by omega] at h0
  refine ⟨_, List.mem_singleton.mpr rfl, fun cc hcc => (by cases hcc), fun ff hff => ?_⟩
  rw [List.mem_singleton.mp hff]
  refine (hD.1 203 (by decide) _ _ _).mpr ⟨zd_ty hD (by decide) p0, n, f, a, b, c, by simp, ?_⟩
  exact Or.inr ⟨⟨⟨by omega, by omega⟩, ⟨by omega, by omega⟩, ⟨by omega, by omega⟩, by omega, by omega⟩, Or.inl h0⟩
theorem rU306_ok (hD : zk_d2 D ua) : zr_okU D rU306 := by
  intro ty H Ls hT hp hc
  obtain ⟨l0, Ls', rfl, p0, hp⟩ := zr_cons hp
  obtain ⟨l1, Ls', rfl, p1, hp⟩ := zr_cons hp
  obtain ⟨l2, Ls', rfl, p2, hp⟩ := zr_cons hp
  obtain ⟨l3, Ls', rfl, p3, hp⟩ := zr_cons hp
  obtain ⟨l4, Ls', rfl, p4, hp⟩ := zr_cons hp
  cases zr_nil hp
  obtain ⟨n1, f1, a1, b1, rfl, h0⟩ := zd_op hD (by decide) p0
  obtain ⟨n, rfl⟩ := zd_loc p1
  obtain ⟨f, rfl⟩ := zd_loc p2
  obtain ⟨a, rfl⟩ := zd_loc p3
  obtain ⟨b, rfl⟩ := zd_loc p4
  obtain ⟨qc0, hc⟩ := zc1 hc
  have qc0 : n1 ≤ n + 0 := qc0
  obtain ⟨qc1, hc⟩ := zc1 hc
  have qc1 : n ≤ n1 + 0 := qc1
  obtain ⟨qc2, hc⟩ := zc1 hc
  have qc2 : f1 ≤ f + 0 := qc2
  obtain ⟨qc3, hc⟩ := zc1 hc
  have qc3 : f ≤ f1 + 0 := qc3
  obtain ⟨qc4, hc⟩ := zc1 hc
  have qc4 : a1 ≤ a + 0 := qc4
  obtain ⟨qc5, hc⟩ := zc1 hc
  have qc5 : a ≤ a1 + 0 := qc5
  obtain ⟨qc6, hc⟩ := zc1 hc
  have qc6 : b1 ≤ b + 0 := qc6
  obtain ⟨qc7, hc⟩ := zc1 hc
  have qc7 : b ≤ b1 + 0 := qc7
  obtain ⟨qc8, hc⟩ := zc1 hc
  have qc8 : (0 : Int) ≤ n + -1 := qc8
  obtain ⟨qc9, hc⟩ := zc1 hc
  have qc9 : n ≤ (0 : Int) + 40 := qc9
  obtain ⟨qc10, hc⟩ := zc1 hc
  have qc10 : (0 : Int) ≤ f + 0 := qc10
  obtain ⟨qc11, hc⟩ := zc1 hc
  have qc11 : f ≤ n + 0 := qc11
  obtain ⟨qc12, hc⟩ := zc1 hc
  have qc12 : (0 : Int) ≤ b + -1 := qc12
  obtain ⟨qc13, hc⟩ := zc1 hc
  have qc13 : b ≤ (0 : Int) + 10000 := qc13
  obtain ⟨qc14, hc⟩ := zc1 hc
  have qc14 : (0 : Int) ≤ a + 0 := qc14
  obtain ⟨qc15, hc⟩ := zc1 hc
  have qc15 : a ≤ b + 0 := qc15
  rw [show n1 = n by omega, show f1 = f by omega, show a1 = a by omega, show b1 = b by omega] at h0
  refine ⟨_, List.mem_singleton.mpr rfl, fun cc hcc => (by cases hcc), fun ff hff => ?_⟩
  rw [List.mem_singleton.mp hff]
  refine (hD.1 203 (by decide) _ _ _).mpr ⟨zd_ty hD (by decide) p0, n, f, a, b, -1, by simp, ?_⟩
  exact Or.inr ⟨⟨⟨by omega, by omega⟩, ⟨by omega, by omega⟩, ⟨by omega, by omega⟩, by omega, by omega⟩, Or.inr ⟨rfl, h0⟩⟩
theorem rU307_ok (hD : zk_d2 D ua) : zr_okU D rU307 := by
  intro ty H Ls hT hp hc
  obtain ⟨l0, Ls', rfl, p0, hp⟩ := zr_cons hp
  obtain ⟨l1, Ls', rfl, p1, hp⟩ := zr_cons hp
  obtain ⟨l2, Ls', rfl, p2, hp⟩ := zr_cons hp
  obtain ⟨l3, Ls', rfl, p3, hp⟩ := zr_cons hp
  obtain ⟨l4, Ls', rfl, p4, hp⟩ := zr_cons hp
  cases zr_nil hp
  obtain ⟨rfl, -⟩ := zd_op hD (by decide) p0
  obtain ⟨n, rfl⟩ := zd_loc p1
  obtain ⟨f, rfl⟩ := zd_loc p2
  obtain ⟨a, rfl⟩ := zd_loc p3
  obtain ⟨b, rfl⟩ := zd_loc p4
  obtain ⟨qc0, hc⟩ := zc1 hc
  have qc0 : n ≤ (0 : Int) + 0 := qc0
  refine ⟨_, List.mem_singleton.mpr rfl, fun cc hcc => (by cases hcc), fun ff hff => ?_⟩
  rw [List.mem_singleton.mp hff]
  refine (hD.1 203 (by decide) _ _ _).mpr ⟨zd_ty hD (by decide) p0, n, f, a, b, -2, by simp, ?_⟩
  exact Or.inl ⟨by omega, rfl⟩
theorem rU308_ok (hD : zk_d2 D ua) : zr_okU D rU308 := by
  intro ty H Ls hT hp hc
  obtain ⟨l0, Ls', rfl, p0, hp⟩ := zr_cons hp
  obtain ⟨l1, Ls', rfl, p1, hp⟩ := zr_cons hp
  obtain ⟨l2, Ls', rfl, p2, hp⟩ := zr_cons hp
  obtain ⟨l3, Ls', rfl, p3, hp⟩ := zr_cons hp
  obtain ⟨l4, Ls', rfl, p4, hp⟩ := zr_cons hp
  cases zr_nil hp
  obtain ⟨rfl, -⟩ := zd_op hD (by decide) p0
  obtain ⟨n, rfl⟩ := zd_loc p1
  obtain ⟨f, rfl⟩ := zd_loc p2
  obtain ⟨a, rfl⟩ := zd_loc p3
  obtain ⟨b, rfl⟩ := zd_loc p4
  obtain ⟨qc0, hc⟩ := zc1 hc
  have qc0 : (0 : Int) ≤ n + -41 := qc0
  refine ⟨_, List.mem_singleton.mpr rfl, fun cc hcc => (by cases hcc), fun ff hff => ?_⟩
  rw [List.mem_singleton.mp hff]
  refine (hD.1 203 (by decide) _ _ _).mpr ⟨zd_ty hD (by decide) p0, n, f, a, b, -2, by simp, ?_⟩
  exact Or.inl ⟨by omega, rfl⟩
theorem rU309_ok (hD : zk_d2 D ua) : zr_okU D rU309 := by
  intro ty H Ls hT hp hc
  obtain ⟨l0, Ls', rfl, p0, hp⟩ := zr_cons hp
  obtain ⟨l1, Ls', rfl, p1, hp⟩ := zr_cons hp
  obtain ⟨l2, Ls', rfl, p2, hp⟩ := zr_cons hp
  obtain ⟨l3, Ls', rfl, p3, hp⟩ := zr_cons hp
  obtain ⟨l4, Ls', rfl, p4, hp⟩ := zr_cons hp
  cases zr_nil hp
  obtain ⟨rfl, -⟩ := zd_op hD (by decide) p0
  obtain ⟨n, rfl⟩ := zd_loc p1
  obtain ⟨f, rfl⟩ := zd_loc p2
  obtain ⟨a, rfl⟩ := zd_loc p3
  obtain ⟨b, rfl⟩ := zd_loc p4
  obtain ⟨qc0, hc⟩ := zc1 hc
  have qc0 : f ≤ (0 : Int) + -1 := qc0
  refine ⟨_, List.mem_singleton.mpr rfl, fun cc hcc => (by cases hcc), fun ff hff => ?_⟩
  rw [List.mem_singleton.mp hff]
  refine (hD.1 203 (by decide) _ _ _).mpr ⟨zd_ty hD (by decide) p0, n, f, a, b, -2, by simp, ?_⟩
  exact Or.inl ⟨by omega, rfl⟩
theorem rU310_ok (hD : zk_d2 D ua) : zr_okU D rU310 := by
  intro ty H Ls hT hp hc
  obtain ⟨l0, Ls', rfl, p0, hp⟩ := zr_cons hp
  obtain ⟨l1, Ls', rfl, p1, hp⟩ := zr_cons hp
  obtain ⟨l2, Ls', rfl, p2, hp⟩ := zr_cons hp
  obtain ⟨l3, Ls', rfl, p3, hp⟩ := zr_cons hp
  obtain ⟨l4, Ls', rfl, p4, hp⟩ := zr_cons hp
  cases zr_nil hp
  obtain ⟨rfl, -⟩ := zd_op hD (by decide) p0
  obtain ⟨n, rfl⟩ := zd_loc p1
  obtain ⟨f, rfl⟩ := zd_loc p2
  obtain ⟨a, rfl⟩ := zd_loc p3
  obtain ⟨b, rfl⟩ := zd_loc p4
  obtain ⟨qc0, hc⟩ := zc1 hc
  have qc0 : n ≤ f + -1 := qc0
  refine ⟨_, List.mem_singleton.mpr rfl, fun cc hcc => (by cases hcc), fun ff hff => ?_⟩
  rw [List.mem_singleton.mp hff]
  refine (hD.1 203 (by decide) _ _ _).mpr ⟨zd_ty hD (by decide) p0, n, f, a, b, -2, by simp, ?_⟩
  exact Or.inl ⟨by omega, rfl⟩
theorem rU311_ok (hD : zk_d2 D ua) : zr_okU D rU311 := by
  intro ty H Ls hT hp hc
  obtain ⟨l0, Ls', rfl, p0, hp⟩ := zr_cons hp
  obtain ⟨l1, Ls', rfl, p1, hp⟩ := zr_cons hp
  obtain ⟨l2, Ls', rfl, p2, hp⟩ := zr_cons hp
  obtain ⟨l3, Ls', rfl, p3, hp⟩ := zr_cons hp
  obtain ⟨l4, Ls', rfl, p4, hp⟩ := zr_cons hp
  cases zr_nil hp
  obtain ⟨rfl, -⟩ := zd_op hD (by decide) p0
  obtain ⟨n, rfl⟩ := zd_loc p1
  obtain ⟨f, rfl⟩ := zd_loc p2
  obtain ⟨a, rfl⟩ := zd_loc p3
  obtain ⟨b, rfl⟩ := zd_loc p4
  obtain ⟨qc0, hc⟩ := zc1 hc
  have qc0 : b ≤ (0 : Int) + 0 := qc0
  refine ⟨_, List.mem_singleton.mpr rfl, fun cc hcc => (by cases hcc), fun ff hff => ?_⟩
  rw [List.mem_singleton.mp hff]
  refine (hD.1 203 (by decide) _ _ _).mpr ⟨zd_ty hD (by decide) p0, n, f, a, b, -2, by simp, ?_⟩
  exact Or.inl ⟨by omega, rfl⟩
theorem rU312_ok (hD : zk_d2 D ua) : zr_okU D rU312 := by
  intro ty H Ls hT hp hc
  obtain ⟨l0, Ls', rfl, p0, hp⟩ := zr_cons hp
  obtain ⟨l1, Ls', rfl, p1, hp⟩ := zr_cons hp
  obtain ⟨l2, Ls', rfl, p2, hp⟩ := zr_cons hp
  obtain ⟨l3, Ls', rfl, p3, hp⟩ := zr_cons hp
  obtain ⟨l4, Ls', rfl, p4, hp⟩ := zr_cons hp
  cases zr_nil hp
  obtain ⟨rfl, -⟩ := zd_op hD (by decide) p0
  obtain ⟨n, rfl⟩ := zd_loc p1
  obtain ⟨f, rfl⟩ := zd_loc p2
  obtain ⟨a, rfl⟩ := zd_loc p3
  obtain ⟨b, rfl⟩ := zd_loc p4
  obtain ⟨qc0, hc⟩ := zc1 hc
  have qc0 : (0 : Int) ≤ b + -10001 := qc0
  refine ⟨_, List.mem_singleton.mpr rfl, fun cc hcc => (by cases hcc), fun ff hff => ?_⟩
  rw [List.mem_singleton.mp hff]
  refine (hD.1 203 (by decide) _ _ _).mpr ⟨zd_ty hD (by decide) p0, n, f, a, b, -2, by simp, ?_⟩
  exact Or.inl ⟨by omega, rfl⟩
theorem rU313_ok (hD : zk_d2 D ua) : zr_okU D rU313 := by
  intro ty H Ls hT hp hc
  obtain ⟨l0, Ls', rfl, p0, hp⟩ := zr_cons hp
  obtain ⟨l1, Ls', rfl, p1, hp⟩ := zr_cons hp
  obtain ⟨l2, Ls', rfl, p2, hp⟩ := zr_cons hp
  obtain ⟨l3, Ls', rfl, p3, hp⟩ := zr_cons hp
  obtain ⟨l4, Ls', rfl, p4, hp⟩ := zr_cons hp
  cases zr_nil hp
  obtain ⟨rfl, -⟩ := zd_op hD (by decide) p0
  obtain ⟨n, rfl⟩ := zd_loc p1
  obtain ⟨f, rfl⟩ := zd_loc p2
  obtain ⟨a, rfl⟩ := zd_loc p3
  obtain ⟨b, rfl⟩ := zd_loc p4
  obtain ⟨qc0, hc⟩ := zc1 hc
  have qc0 : a ≤ (0 : Int) + -1 := qc0
  refine ⟨_, List.mem_singleton.mpr rfl, fun cc hcc => (by cases hcc), fun ff hff => ?_⟩
  rw [List.mem_singleton.mp hff]
  refine (hD.1 203 (by decide) _ _ _).mpr ⟨zd_ty hD (by decide) p0, n, f, a, b, -2, by simp, ?_⟩
  exact Or.inl ⟨by omega, rfl⟩
theorem rU314_ok (hD : zk_d2 D ua) : zr_okU D rU314 := by
  intro ty H Ls hT hp hc
  obtain ⟨l0, Ls', rfl, p0, hp⟩ := zr_cons hp
  obtain ⟨l1, Ls', rfl, p1, hp⟩ := zr_cons hp
  obtain ⟨l2, Ls', rfl, p2, hp⟩ := zr_cons hp
  obtain ⟨l3, Ls', rfl, p3, hp⟩ := zr_cons hp
  obtain ⟨l4, Ls', rfl, p4, hp⟩ := zr_cons hp
  cases zr_nil hp
  obtain ⟨rfl, -⟩ := zd_op hD (by decide) p0
  obtain ⟨n, rfl⟩ := zd_loc p1
  obtain ⟨f, rfl⟩ := zd_loc p2
  obtain ⟨a, rfl⟩ := zd_loc p3
  obtain ⟨b, rfl⟩ := zd_loc p4
  obtain ⟨qc0, hc⟩ := zc1 hc
  have qc0 : b ≤ a + -1 := qc0
  refine ⟨_, List.mem_singleton.mpr rfl, fun cc hcc => (by cases hcc), fun ff hff => ?_⟩
  rw [List.mem_singleton.mp hff]
  refine (hD.1 203 (by decide) _ _ _).mpr ⟨zd_ty hD (by decide) p0, n, f, a, b, -2, by simp, ?_⟩
  exact Or.inl ⟨by omega, rfl⟩
theorem rU315_ok (hD : zk_d2 D ua) : zr_okU D rU315 := by
  intro ty H Ls hT hp hc
  obtain ⟨l0, Ls', rfl, p0, hp⟩ := zr_cons hp
  obtain ⟨l1, Ls', rfl, p1, hp⟩ := zr_cons hp
  obtain ⟨l2, Ls', rfl, p2, hp⟩ := zr_cons hp
  obtain ⟨l3, Ls', rfl, p3, hp⟩ := zr_cons hp
  obtain ⟨l4, Ls', rfl, p4, hp⟩ := zr_cons hp
  cases zr_nil hp
  obtain ⟨n1, f1, a1, b1, c, rfl, h0⟩ := zd_op hD (by decide) p0
  obtain ⟨n, rfl⟩ := zd_loc p1
  obtain ⟨f, rfl⟩ := zd_loc p2
  obtain ⟨a, rfl⟩ := zd_loc p3
  obtain ⟨b, rfl⟩ := zd_loc p4
  obtain ⟨qc0, hc⟩ := zc1 hc
  have qc0 : n1 ≤ n + 0 := qc0
  obtain ⟨qc1, hc⟩ := zc1 hc
  have qc1 : n ≤ n1 + 0 := qc1
  obtain ⟨qc2, hc⟩ := zc1 hc
  have qc2 : f1 ≤ f + 0 := qc2
  obtain ⟨qc3, hc⟩ := zc1 hc
  have qc3 : f ≤ f1 + 0 := qc3
  obtain ⟨qc4, hc⟩ := zc1 hc
  have qc4 : a1 ≤ a + 0 := qc4
  obtain ⟨qc5, hc⟩ := zc1 hc
  have qc5 : a ≤ a1 + 0 := qc5
  obtain ⟨qc6, hc⟩ := zc1 hc
  have qc6 : b1 ≤ b + 0 := qc6
  obtain ⟨qc7, hc⟩ := zc1 hc
  have qc7 : b ≤ b1 + 0 := qc7
  obtain ⟨qc8, hc⟩ := zc1 hc
  have qc8 : (0 : Int) ≤ n + -1 := qc8
  obtain ⟨qc9, hc⟩ := zc1 hc
  have qc9 : n ≤ (0 : Int) + 40 := qc9
  obtain ⟨qc10, hc⟩ := zc1 hc
  have qc10 : (0 : Int) ≤ f + 0 := qc10
  obtain ⟨qc11, hc⟩ := zc1 hc
  have qc11 : f ≤ n + 0 := qc11
  obtain ⟨qc12, hc⟩ := zc1 hc
  have qc12 : (0 : Int) ≤ b + -1 := qc12
  obtain ⟨qc13, hc⟩ := zc1 hc
  have qc13 : b ≤ (0 : Int) + 10000 := qc13
  obtain ⟨qc14, hc⟩ := zc1 hc
  have qc14 : (0 : Int) ≤ a + 0 := qc14
  obtain ⟨qc15, hc⟩ := zc1 hc
  have qc15 : a ≤ b + 0 := qc15
  rw [show n1 = n by omega, show f1 = f by omega, show a1 = a by omega, show b1 = b by omega] at h0
  refine ⟨_, List.mem_singleton.mpr rfl, fun cc hcc => (by cases hcc), fun ff hff => ?_⟩
  rw [List.mem_singleton.mp hff]
  refine (hD.1 204 (by decide) _ _ _).mpr ⟨zd_ty hD (by decide) p0, n, f, a, b, c, by simp, ?_⟩
  exact Or.inr ⟨⟨⟨by omega, by omega⟩, ⟨by omega, by omega⟩, ⟨by omega, by omega⟩, by omega, by omega⟩, Or.inl h0⟩
theorem rU316_ok (hD : zk_d2 D ua) : zr_okU D rU316 := by
  intro ty H Ls hT hp hc
  obtain ⟨l0, Ls', rfl, p0, hp⟩ := zr_cons hp
  obtain ⟨l1, Ls', rfl, p1, hp⟩ := zr_cons hp
  obtain ⟨l2, Ls', rfl, p2, hp⟩ := zr_cons hp
  obtain ⟨l3, Ls', rfl, p3, hp⟩ := zr_cons hp
  obtain ⟨l4, Ls', rfl, p4, hp⟩ := zr_cons hp
  cases zr_nil hp
  obtain ⟨n1, f1, a1, b1, rfl, h0⟩ := zd_op hD (by decide) p0
  obtain ⟨n, rfl⟩ := zd_loc p1
  obtain ⟨f, rfl⟩ := zd_loc p2
  obtain ⟨a, rfl⟩ := zd_loc p3
  obtain ⟨b, rfl⟩ := zd_loc p4
  obtain ⟨qc0, hc⟩ := zc1 hc
  have qc0 : n1 ≤ n + 0 := qc0
  obtain ⟨qc1, hc⟩ := zc1 hc
  have qc1 : n ≤ n1 + 0 := qc1
  obtain ⟨qc2, hc⟩ := zc1 hc
  have qc2 : f1 ≤ f + 0 := qc2
  obtain ⟨qc3, hc⟩ := zc1 hc
  have qc3 : f ≤ f1 + 0 := qc3
  obtain ⟨qc4, hc⟩ := zc1 hc
  have qc4 : a1 ≤ a + 0 := qc4
  obtain ⟨qc5, hc⟩ := zc1 hc
  have qc5 : a ≤ a1 + 0 := qc5
  obtain ⟨qc6, hc⟩ := zc1 hc
  have qc6 : b1 ≤ b + 0 := qc6
  obtain ⟨qc7, hc⟩ := zc1 hc
  have qc7 : b ≤ b1 + 0 := qc7
  obtain ⟨qc8, hc⟩ := zc1 hc
  have qc8 : (0 : Int) ≤ n + -1 := qc8
  obtain ⟨qc9, hc⟩ := zc1 hc
  have qc9 : n ≤ (0 : Int) + 40 := qc9
  obtain ⟨qc10, hc⟩ := zc1 hc
  have qc10 : (0 : Int) ≤ f + 0 := qc10
  obtain ⟨qc11, hc⟩ := zc1 hc
  have qc11 : f ≤ n + 0 := qc11
  obtain ⟨qc12, hc⟩ := zc1 hc
  have qc12 : (0 : Int) ≤ b + -1 := qc12
  obtain ⟨qc13, hc⟩ := zc1 hc
  have qc13 : b ≤ (0 : Int) + 10000 := qc13
  obtain ⟨qc14, hc⟩ := zc1 hc
  have qc14 : (0 : Int) ≤ a + 0 := qc14
  obtain ⟨qc15, hc⟩ := zc1 hc
  have qc15 : a ≤ b + 0 := qc15
  rw [show n1 = n by omega, show f1 = f by omega, show a1 = a by omega, show b1 = b by omega] at h0
  refine ⟨_, List.mem_singleton.mpr rfl, fun cc hcc => (by cases hcc), fun ff hff => ?_⟩
  rw [List.mem_singleton.mp hff]
  refine (hD.1 204 (by decide) _ _ _).mpr ⟨zd_ty hD (by decide) p0, n, f, a, b, -1, by simp, ?_⟩
  exact Or.inr ⟨⟨⟨by omega, by omega⟩, ⟨by omega, by omega⟩, ⟨by omega, by omega⟩, by omega, by omega⟩, Or.inr ⟨rfl, h0⟩⟩
theorem rU317_ok (hD : zk_d2 D ua) : zr_okU D rU317 := by
  intro ty H Ls hT hp hc
  obtain ⟨l0, Ls', rfl, p0, hp⟩ := zr_cons hp
  obtain ⟨l1, Ls', rfl, p1, hp⟩ := zr_cons hp
  obtain ⟨l2, Ls', rfl, p2, hp⟩ := zr_cons hp
  obtain ⟨l3, Ls', rfl, p3, hp⟩ := zr_cons hp
  obtain ⟨l4, Ls', rfl, p4, hp⟩ := zr_cons hp
  cases zr_nil hp
  obtain ⟨rfl, -⟩ := zd_op hD (by decide) p0
  obtain ⟨n, rfl⟩ := zd_loc p1
  obtain ⟨f, rfl⟩ := zd_loc p2
  obtain ⟨a, rfl⟩ := zd_loc p3
  obtain ⟨b, rfl⟩ := zd_loc p4
  obtain ⟨qc0, hc⟩ := zc1 hc
  have qc0 : n ≤ (0 : Int) + 0 := qc0
  refine ⟨_, List.mem_singleton.mpr rfl, fun cc hcc => (by cases hcc), fun ff hff => ?_⟩
  rw [List.mem_singleton.mp hff]
  refine (hD.1 204 (by decide) _ _ _).mpr ⟨zd_ty hD (by decide) p0, n, f, a, b, -2, by simp, ?_⟩
  exact Or.inl ⟨by omega, rfl⟩
theorem rU318_ok (hD : zk_d2 D ua) : zr_okU D rU318 := by
  intro ty H Ls hT hp hc
  obtain ⟨l0, Ls', rfl, p0, hp⟩ := zr_cons hp
  obtain ⟨l1, Ls', rfl, p1, hp⟩ := zr_cons hp
  obtain ⟨l2, Ls', rfl, p2, hp⟩ := zr_cons hp
  obtain ⟨l3, Ls', rfl, p3, hp⟩ := zr_cons hp
  obtain ⟨l4, Ls', rfl, p4, hp⟩ := zr_cons hp
  cases zr_nil hp
  obtain ⟨rfl, -⟩ := zd_op hD (by decide) p0
  obtain ⟨n, rfl⟩ := zd_loc p1
  obtain ⟨f, rfl⟩ := zd_loc p2
  obtain ⟨a, rfl⟩ := zd_loc p3
  obtain ⟨b, rfl⟩ := zd_loc p4
  obtain ⟨qc0, hc⟩ := zc1 hc
  have qc0 : (0 : Int) ≤ n + -41 := qc0
  refine ⟨_, List.mem_singleton.mpr rfl, fun cc hcc => (by cases hcc), fun ff hff => ?_⟩
  rw [List.mem_singleton.mp hff]
  refine (hD.1 204 (by decide) _ _ _).mpr ⟨zd_ty hD (by decide) p0, n, f, a, b, -2, by simp, ?_⟩
  exact Or.inl ⟨by omega, rfl⟩
theorem rU319_ok (hD : zk_d2 D ua) : zr_okU D rU319 := by
  intro ty H Ls hT hp hc
  obtain ⟨l0, Ls', rfl, p0, hp⟩ := zr_cons hp
  obtain ⟨l1, Ls', rfl, p1, hp⟩ := zr_cons hp
  obtain ⟨l2, Ls', rfl, p2, hp⟩ := zr_cons hp
  obtain ⟨l3, Ls', rfl, p3, hp⟩ := zr_cons hp
  obtain ⟨l4, Ls', rfl, p4, hp⟩ := zr_cons hp
  cases zr_nil hp
  obtain ⟨rfl, -⟩ := zd_op hD (by decide) p0
  obtain ⟨n, rfl⟩ := zd_loc p1
  obtain ⟨f, rfl⟩ := zd_loc p2
  obtain ⟨a, rfl⟩ := zd_loc p3
  obtain ⟨b, rfl⟩ := zd_loc p4
  obtain ⟨qc0, hc⟩ := zc1 hc
  have qc0 : f ≤ (0 : Int) + -1 := qc0
  refine ⟨_, List.mem_singleton.mpr rfl, fun cc hcc => (by cases hcc), fun ff hff => ?_⟩
  rw [List.mem_singleton.mp hff]
  refine (hD.1 204 (by decide) _ _ _).mpr ⟨zd_ty hD (by decide) p0, n, f, a, b, -2, by simp, ?_⟩
  exact Or.inl ⟨by omega, rfl⟩
theorem rU320_ok (hD : zk_d2 D ua) : zr_okU D rU320 := by
  intro ty H Ls hT hp hc
  obtain ⟨l0, Ls', rfl, p0, hp⟩ := zr_cons hp
  obtain ⟨l1, Ls', rfl, p1, hp⟩ := zr_cons hp
  obtain ⟨l2, Ls', rfl, p2, hp⟩ := zr_cons hp
  obtain ⟨l3, Ls', rfl, p3, hp⟩ := zr_cons hp
  obtain ⟨l4, Ls', rfl, p4, hp⟩ := zr_cons hp
  cases zr_nil hp
  obtain ⟨rfl, -⟩ := zd_op hD (by decide) p0
  obtain ⟨n, rfl⟩ := zd_loc p1
  obtain ⟨f, rfl⟩ := zd_loc p2
  obtain ⟨a, rfl⟩ := zd_loc p3
  obtain ⟨b, rfl⟩ := zd_loc p4
  obtain ⟨qc0, hc⟩ := zc1 hc
  have qc0 : n ≤ f + -1 := qc0
  refine ⟨_, List.mem_singleton.mpr rfl, fun cc hcc => (by cases hcc), fun ff hff => ?_⟩
  rw [List.mem_singleton.mp hff]
  refine (hD.1 204 (by decide) _ _ _).mpr ⟨zd_ty hD (by decide) p0, n, f, a, b, -2, by simp, ?_⟩
  exact Or.inl ⟨by omega, rfl⟩
theorem rU321_ok (hD : zk_d2 D ua) : zr_okU D rU321 := by
  intro ty H Ls hT hp hc
  obtain ⟨l0, Ls', rfl, p0, hp⟩ := zr_cons hp
  obtain ⟨l1, Ls', rfl, p1, hp⟩ := zr_cons hp
  obtain ⟨l2, Ls', rfl, p2, hp⟩ := zr_cons hp
  obtain ⟨l3, Ls', rfl, p3, hp⟩ := zr_cons hp
  obtain ⟨l4, Ls', rfl, p4, hp⟩ := zr_cons hp
  cases zr_nil hp
  obtain ⟨rfl, -⟩ := zd_op hD (by decide) p0
  obtain ⟨n, rfl⟩ := zd_loc p1
  obtain ⟨f, rfl⟩ := zd_loc p2
  obtain ⟨a, rfl⟩ := zd_loc p3
  obtain ⟨b, rfl⟩ := zd_loc p4
  obtain ⟨qc0, hc⟩ := zc1 hc
  have qc0 : b ≤ (0 : Int) + 0 := qc0
  refine ⟨_, List.mem_singleton.mpr rfl, fun cc hcc => (by cases hcc), fun ff hff => ?_⟩
  rw [List.mem_singleton.mp hff]
  refine (hD.1 204 (by decide) _ _ _).mpr ⟨zd_ty hD (by decide) p0, n, f, a, b, -2, by simp, ?_⟩
  exact Or.inl ⟨by omega, rfl⟩
theorem rU322_ok (hD : zk_d2 D ua) : zr_okU D rU322 := by
  intro ty H Ls hT hp hc
  obtain ⟨l0, Ls', rfl, p0, hp⟩ := zr_cons hp
  obtain ⟨l1, Ls', rfl, p1, hp⟩ := zr_cons hp
  obtain ⟨l2, Ls', rfl, p2, hp⟩ := zr_cons hp
  obtain ⟨l3, Ls', rfl, p3, hp⟩ := zr_cons hp
  obtain ⟨l4, Ls', rfl, p4, hp⟩ := zr_cons hp
  cases zr_nil hp
  obtain ⟨rfl, -⟩ := zd_op hD (by decide) p0
  obtain ⟨n, rfl⟩ := zd_loc p1
  obtain ⟨f, rfl⟩ := zd_loc p2
  obtain ⟨a, rfl⟩ := zd_loc p3
  obtain ⟨b, rfl⟩ := zd_loc p4
  obtain ⟨qc0, hc⟩ := zc1 hc
  have qc0 : (0 : Int) ≤ b + -10001 := qc0
  refine ⟨_, List.mem_singleton.mpr rfl, fun cc hcc => (by cases hcc), fun ff hff => ?_⟩
  rw [List.mem_singleton.mp hff]
  refine (hD.1 204 (by decide) _ _ _).mpr ⟨zd_ty hD (by decide) p0, n, f, a, b, -2, by simp, ?_⟩
  exact Or.inl ⟨by omega, rfl⟩
theorem rU323_ok (hD : zk_d2 D ua) : zr_okU D rU323 := by
  intro ty H Ls hT hp hc
  obtain ⟨l0, Ls', rfl, p0, hp⟩ := zr_cons hp
  obtain ⟨l1, Ls', rfl, p1, hp⟩ := zr_cons hp
  obtain ⟨l2, Ls', rfl, p2, hp⟩ := zr_cons hp
  obtain ⟨l3, Ls', rfl, p3, hp⟩ := zr_cons hp
  obtain ⟨l4, Ls', rfl, p4, hp⟩ := zr_cons hp
  cases zr_nil hp
  obtain ⟨rfl, -⟩ := zd_op hD (by decide) p0
  obtain ⟨n, rfl⟩ := zd_loc p1
  obtain ⟨f, rfl⟩ := zd_loc p2
  obtain ⟨a, rfl⟩ := zd_loc p3
  obtain ⟨b, rfl⟩ := zd_loc p4
  obtain ⟨qc0, hc⟩ := zc1 hc
  have qc0 : a ≤ (0 : Int) + -1 := qc0
  refine ⟨_, List.mem_singleton.mpr rfl, fun cc hcc => (by cases hcc), fun ff hff => ?_⟩
  rw [List.mem_singleton.mp hff]
  refine (hD.1 204 (by decide) _ _ _).mpr ⟨zd_ty hD (by decide) p0, n, f, a, b, -2, by simp, ?_⟩
  exact Or.inl ⟨by omega, rfl⟩
theorem rU324_ok (hD : zk_d2 D ua) : zr_okU D rU324 := by
  intro ty H Ls hT hp hc
  obtain ⟨l0, Ls', rfl, p0, hp⟩ := zr_cons hp
  obtain ⟨l1, Ls', rfl, p1, hp⟩ := zr_cons hp
  obtain ⟨l2, Ls', rfl, p2, hp⟩ := zr_cons hp
  obtain ⟨l3, Ls', rfl, p3, hp⟩ := zr_cons hp
  obtain ⟨l4, Ls', rfl, p4, hp⟩ := zr_cons hp
  cases zr_nil hp
  obtain ⟨rfl, -⟩ := zd_op hD (by decide) p0
  obtain ⟨n, rfl⟩ := zd_loc p1
  obtain ⟨f, rfl⟩ := zd_loc p2
  obtain ⟨a, rfl⟩ := zd_loc p3
  obtain ⟨b, rfl⟩ := zd_loc p4
  obtain ⟨qc0, hc⟩ := zc1 hc
  have qc0 : b ≤ a + -1 := qc0
  refine ⟨_, List.mem_singleton.mpr rfl, fun cc hcc => (by cases hcc), fun ff hff => ?_⟩
  rw [List.mem_singleton.mp hff]
  refine (hD.1 204 (by decide) _ _ _).mpr ⟨zd_ty hD (by decide) p0, n, f, a, b, -2, by simp, ?_⟩
  exact Or.inl ⟨by omega, rfl⟩
theorem rU325_ok (hD : zk_d2 D ua) : zr_okU D rU325 := by
  intro ty H Ls hT hp hc
  obtain ⟨l0, Ls', rfl, p0, hp⟩ := zr_cons hp
  obtain ⟨l1, Ls', rfl, p1, hp⟩ := zr_cons hp
  cases zr_nil hp
  obtain ⟨n, f, a, b, r, rfl, h0⟩ := zd_op hD (by decide) p0
  obtain ⟨nx, fx, ax, bx, r1, rfl, h1⟩ := zd_op hD (by decide) p1
  obtain ⟨qc0, hc⟩ := zc1 hc
  have qc0 : nx ≤ n + 0 := qc0
  obtain ⟨qc1, hc⟩ := zc1 hc
  have qc1 : n ≤ nx + 0 := qc1
  obtain ⟨qc2, hc⟩ := zc1 hc
  have qc2 : fx ≤ f + 0 := qc2
  obtain ⟨qc3, hc⟩ := zc1 hc
  have qc3 : f ≤ fx + 0 := qc3
  obtain ⟨qc4, hc⟩ := zc1 hc
  have qc4 : ax ≤ a + 0 := qc4
  obtain ⟨qc5, hc⟩ := zc1 hc
  have qc5 : a ≤ ax + 0 := qc5
  obtain ⟨qc6, hc⟩ := zc1 hc
  have qc6 : bx ≤ b + 0 := qc6
  obtain ⟨qc7, hc⟩ := zc1 hc
  have qc7 : b ≤ bx + 0 := qc7
  rw [show nx = n by omega, show fx = f by omega, show ax = a by omega, show bx = b by omega] at h1
  have er : r = r1 := zn_op_eq h0 h1
  refine ⟨_, List.mem_singleton.mpr rfl, fun cc hcc => ?_, fun ff hff => (by cases hff)⟩
  simp only [List.mem_cons, List.not_mem_nil, or_false] at hcc
  rcases hcc with rfl | rfl
  · show r ≤ r1 + 0
    omega
  · show r1 ≤ r + 0
    omega
end
