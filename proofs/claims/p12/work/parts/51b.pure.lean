/-! THE FACTS, 2: further rules. -/
def rU140 : zRu := (140, [(0, 172, 0), (3, 0, 0), (3, 1, 0), (3, 2, 0)], [(3, 0, 0), (0, 3, 0), (1, 4, 0), (4, 1, 0), (2, 5, -1), (5, 2, 1), (0, 4, -1), (4, 5, -2)], [([], [(212, [(3, 0), (4, 0), (5, 0)])])])
def rU141 : zRu := (141, [(0, 109, 0), (3, 0, 0), (3, 1, 0), (3, 2, 0)], [(1, 0, 1), (0, 1, -1), (0, 2, -1), (2, 3, -1)], [([], [(212, [(1, 0), (2, 0), (3, 0)])])])
def rU142 : zRu := (142, [(0, 109, 0), (3, 0, 0), (3, 1, 0), (3, 2, 0)], [(1, 0, 2), (0, 1, -2), (0, 2, 0), (2, 3, -2)], [([], [(212, [(1, 0), (2, 0), (3, 0)])])])
def rU143 : zRu := (143, [(0, 109, 0), (3, 0, 0), (3, 1, 0), (3, 2, 0)], [(1, 0, -1)], [([], [(215, [(1, 0), (2, 0), (3, 0)])])])
def rU144 : zRu := (144, [(0, 109, 0), (3, 0, 0), (3, 1, 0), (3, 2, 0)], [(0, 1, -3)], [([], [(215, [(1, 0), (2, 0), (3, 0)])])])
def rU145 : zRu := (145, [(0, 109, 0), (3, 0, 0), (3, 1, 0), (3, 2, 0)], [(0, 1, 0), (1, 0, 1), (2, 0, 0)], [([], [(215, [(1, 0), (2, 0), (3, 0)])])])
def rU146 : zRu := (146, [(0, 109, 0), (3, 0, 0), (3, 1, 0), (3, 2, 0)], [(2, 0, -1)], [([], [(215, [(1, 0), (2, 0), (3, 0)])])])
def rU147 : zRu := (147, [(0, 109, 0), (3, 0, 0), (3, 1, 0), (3, 2, 0)], [(1, 0, 0), (0, 1, 0), (3, 2, 1)], [([], [(215, [(1, 0), (2, 0), (3, 0)])])])
def rU148 : zRu := (148, [(0, 109, 0), (3, 0, 0), (3, 1, 0), (3, 2, 0)], [(3, 2, 0)], [([], [(215, [(1, 0), (2, 0), (3, 0)])])])
def rU149 : zRu := (149, [(0, 109, 0), (3, 0, 0), (3, 1, 0), (3, 2, 0)], [(1, 0, 2), (0, 1, -2), (3, 2, 1)], [([], [(215, [(1, 0), (2, 0), (3, 0)])])])
def rU150 : zRu := (150, [(0, 173, 0), (3, 0, 0), (3, 1, 0), (3, 2, 0)], [(3, 0, 0), (0, 3, 0), (1, 4, 0), (4, 1, 0), (2, 5, -1), (5, 2, 1)], [([], [(215, [(3, 0), (4, 0), (5, 0)])])])
def rU160 : zRu := (160, [(0, 172, 0), (3, 1, 0), (3, 2, 0), (2, 43, 21)], [(3, 0, 0), (0, 3, 0), (1, 4, 0), (4, 1, 0), (2, 6, -1), (6, 2, 1), (0, 4, -1), (4, 6, -2)], [([], [(212, [(3, 0), (4, 0), (6, 0)])])])
def rU161 : zRu := (161, [(0, 109, 0), (3, 1, 0), (3, 2, 0), (2, 43, 21)], [(1, 0, 1), (0, 1, -1), (0, 2, -1), (2, 4, -1)], [([], [(212, [(1, 0), (2, 0), (4, 0)])])])
def rU162 : zRu := (162, [(0, 109, 0), (3, 1, 0), (3, 2, 0), (2, 43, 21)], [(1, 0, 2), (0, 1, -2), (0, 2, 0), (2, 4, -2)], [([], [(212, [(1, 0), (2, 0), (4, 0)])])])
def rU163 : zRu := (163, [(0, 109, 0), (3, 1, 0), (3, 2, 0), (2, 43, 21)], [(1, 0, -1)], [([], [(215, [(1, 0), (2, 0), (4, 0)])])])
def rU164 : zRu := (164, [(0, 109, 0), (3, 1, 0), (3, 2, 0), (2, 43, 21)], [(0, 1, -3)], [([], [(215, [(1, 0), (2, 0), (4, 0)])])])
def rU165 : zRu := (165, [(0, 109, 0), (3, 1, 0), (3, 2, 0), (2, 43, 21)], [(0, 1, 0), (1, 0, 1), (2, 0, 0)], [([], [(215, [(1, 0), (2, 0), (4, 0)])])])
def rU166 : zRu := (166, [(0, 109, 0), (3, 1, 0), (3, 2, 0), (2, 43, 21)], [(2, 0, -1)], [([], [(215, [(1, 0), (2, 0), (4, 0)])])])
def rU167 : zRu := (167, [(0, 109, 0), (3, 1, 0), (3, 2, 0), (2, 43, 21)], [(1, 0, 0), (0, 1, 0), (4, 2, 1)], [([], [(215, [(1, 0), (2, 0), (4, 0)])])])
def rU168 : zRu := (168, [(0, 109, 0), (3, 1, 0), (3, 2, 0), (2, 43, 21)], [(4, 2, 0)], [([], [(215, [(1, 0), (2, 0), (4, 0)])])])
def rU169 : zRu := (169, [(0, 109, 0), (3, 1, 0), (3, 2, 0), (2, 43, 21)], [(1, 0, 2), (0, 1, -2), (4, 2, 1)], [([], [(215, [(1, 0), (2, 0), (4, 0)])])])
def rU170 : zRu := (170, [(0, 173, 0), (3, 1, 0), (3, 2, 0), (2, 43, 21)], [(3, 0, 0), (0, 3, 0), (1, 4, 0), (4, 1, 0), (2, 6, -1), (6, 2, 1)], [([], [(215, [(3, 0), (4, 0), (6, 0)])])])
def rU151 : zRu := (151, [(0, 215, 0), (3, 1, 0)], [], [([], [(213, [(4, 0), (1, 0), (2, 0), (3, 0)])])])
def rU152 : zRu := (152, [(0, 109, 0), (3, 1, 0), (3, 2, 0), (3, 3, 0), (2, 42, 7)], [(1, 0, -1)], [([], [(213, [(1, 0), (2, 0), (3, 0), (5, 0)])])])
def rU153 : zRu := (153, [(0, 109, 0), (3, 1, 0), (3, 2, 0), (3, 3, 0), (2, 42, 7)], [(0, 1, -2)], [([], [(213, [(1, 0), (2, 0), (3, 0), (5, 0)])])])
def rU177 : zRu := (177, [(0, 109, 0), (3, 1, 0), (3, 2, 0), (3, 3, 0), (2, 43, 21)], [(1, 0, -1)], [([], [(213, [(1, 0), (2, 0), (3, 0), (5, 0)])])])
def rU178 : zRu := (178, [(0, 109, 0), (3, 1, 0), (3, 2, 0), (3, 3, 0), (2, 43, 21)], [(0, 1, -2)], [([], [(213, [(1, 0), (2, 0), (3, 0), (5, 0)])])])
def rU154 : zRu := (154, [(0, 212, 0), (3, 1, 0)], [(0, 4, 0), (4, 0, 1)], [([], [(214, [(4, 0), (1, 0), (2, 0), (3, 0)])])])
def rU155 : zRu := (155, [(0, 214, 0), (0, 213, 0)], [(5, 1, 0), (1, 5, 0), (6, 2, 0), (2, 6, 0), (7, 3, 0), (3, 7, 0), (8, 4, 0), (4, 8, 0)], [])
def rU156 : zRu := (156, [(0, 214, 0)], [(1, 0, 0), (0, 1, 0)], [([], [(210, [(2, 0), (3, 0), (4, 0)])])])
def rU157 : zRu := (157, [(0, 214, 0)], [(1, 0, 1), (0, 1, -1)], [([], [(211, [(2, 0), (3, 0), (4, 0)])])])
def rU158 : zRu := (158, [(0, 160, 0)], [(0, 1, -5)], [([], [(210, [(0, 0), (0, 1), (1, 0)]), (211, [(0, 0), (0, 1), (1, 0)])])])
def rU159 : zRu := (159, [(0, 109, 0)], [], [([], [(210, [(0, 0), (0, 1), (0, 101)]), (211, [(0, 0), (0, 1), (0, 101)]), (160, [(0, 101)])])])
def rU171 : zRu := (171, [(0, 210, 0)], [], [([], [(212, [(1, 0), (2, 0), (3, 0)])])])
def rU172 : zRu := (172, [(0, 211, 0)], [], [([], [(212, [(1, 0), (2, 0), (3, 0)])])])
def rU173 : zRu := (173, [(0, 212, 0)], [(1, 0, 0), (0, 1, 0)], [([(0, 2, -1), (2, 3, -2)], [])])
def rU181 : zRu := (181, [(0, 212, 0), (0, 171, 0)], [(1, 0, 0), (0, 1, 0), (4, 2, -1), (2, 4, 1), (5, 3, -1), (3, 5, 1)], [([], [(217, [(1, 0), (2, 0), (3, 0), (6, 0)])])])
def rU182 : zRu := (182, [(0, 212, 0)], [(1, 0, 1), (0, 1, -1), (2, 0, 1), (0, 2, -1)], [([], [(217, [(1, 0), (2, 0), (3, 0), (3, -1)])])])
def rU183 : zRu := (183, [(0, 212, 0)], [(1, 0, 1), (0, 1, -1), (0, 2, -2)], [([], [(217, [(1, 0), (2, 0), (3, 0), (0, 0)])])])
def rU184 : zRu := (184, [(0, 212, 0)], [(1, 0, 2), (0, 1, -2), (2, 0, 0), (0, 2, 0)], [([], [(217, [(1, 0), (2, 0), (3, 0), (3, -1)])])])
def rU185 : zRu := (185, [(0, 212, 0)], [(1, 0, 2), (0, 1, -2), (0, 2, -1)], [([], [(217, [(1, 0), (2, 0), (3, 0), (0, 0)])])])
def rU186 : zRu := (186, [(0, 212, 0)], [(1, 0, 1), (0, 1, -1), (2, 0, 0)], [])
def rU194 : zRu := (194, [(0, 210, 0), (3, 1, 0)], [(4, 0, 0), (0, 4, 0)], [([], [(212, [(1, 0), (2, 0), (3, 0)])])])
def rU195 : zRu := (195, [(0, 211, 0), (3, 1, 0)], [(4, 0, 1), (0, 4, -1)], [([], [(212, [(1, 0), (2, 0), (3, 0)])])])
def rU187 : zRu := (187, [(0, 217, 0), (0, 210, 0), (0, 211, 0), (3, 1, 0)], [(11, 0, 0), (0, 11, 0), (1, 5, 0), (5, 1, 0), (2, 6, 0), (6, 2, 0), (3, 7, 0), (7, 3, 0)], [([], [(178, [(11, 0), (5, 0), (6, 0), (7, 0), (8, 0), (9, 0), (10, 0), (4, 0)])])])
def rU188 : zRu := (188, [(0, 217, 0), (0, 210, 0), (0, 211, 0), (3, 1, 0)], [(11, 0, 1), (0, 11, -1), (1, 8, 0), (8, 1, 0), (2, 9, 0), (9, 2, 0), (3, 10, 0), (10, 3, 0)], [([], [(178, [(11, 0), (5, 0), (6, 0), (7, 0), (8, 0), (9, 0), (10, 0), (4, 0)])])])
def rU189 : zRu := (189, [(0, 210, 0), (0, 211, 0), (3, 1, 0)], [(7, 0, -1)], [([], [(178, [(7, 0), (1, 0), (2, 0), (3, 0), (4, 0), (5, 0), (6, 0), (0, -2)])])])
def rU190 : zRu := (190, [(0, 210, 0), (0, 211, 0), (3, 1, 0)], [(0, 7, -2)], [([], [(178, [(7, 0), (1, 0), (2, 0), (3, 0), (4, 0), (5, 0), (6, 0), (0, -2)])])])
def rU196 : zRu := (196, [(0, 217, 0), (0, 210, 0), (0, 211, 0), (3, 1, 0)], [(11, 0, 0), (0, 11, 0), (1, 5, 0), (5, 1, 0), (2, 6, 0), (6, 2, 0), (3, 7, 0), (7, 3, 0)], [([], [(179, [(11, 0), (5, 0), (6, 0), (7, 0), (8, 0), (9, 0), (10, 0), (4, 0)])])])
def rU197 : zRu := (197, [(0, 217, 0), (0, 210, 0), (0, 211, 0), (3, 1, 0)], [(11, 0, 1), (0, 11, -1), (1, 8, 0), (8, 1, 0), (2, 9, 0), (9, 2, 0), (3, 10, 0), (10, 3, 0)], [([], [(179, [(11, 0), (5, 0), (6, 0), (7, 0), (8, 0), (9, 0), (10, 0), (4, 0)])])])
def rU198 : zRu := (198, [(0, 210, 0), (0, 211, 0), (3, 1, 0)], [(7, 0, -1)], [([], [(179, [(7, 0), (1, 0), (2, 0), (3, 0), (4, 0), (5, 0), (6, 0), (0, -2)])])])
def rU199 : zRu := (199, [(0, 210, 0), (0, 211, 0), (3, 1, 0)], [(0, 7, -2)], [([], [(179, [(7, 0), (1, 0), (2, 0), (3, 0), (4, 0), (5, 0), (6, 0), (0, -2)])])])
def rU200 : zRu := (200, [(0, 178, 0), (0, 179, 0)], [(9, 1, 0), (1, 9, 0), (10, 2, 0), (2, 10, 0), (11, 3, 0), (3, 11, 0), (12, 4, 0), (4, 12, 0), (13, 5, 0), (5, 13, 0), (14, 6, 0), (6, 14, 0), (15, 7, 0), (7, 15, 0)], [([(8, 16, 0), (16, 8, 0)], [])])
section
variable {D : zD} {ua : Nat → Nat}
theorem rU140_ok (hD : zk_d2 D ua) : zr_okU D rU140 := by
  intro ty H Ls hT hp hc
  obtain ⟨l0, Ls', rfl, p0, hp⟩ := zr_cons hp
  obtain ⟨l1, Ls', rfl, p1, hp⟩ := zr_cons hp
  obtain ⟨l2, Ls', rfl, p2, hp⟩ := zr_cons hp
  obtain ⟨l3, Ls', rfl, p3, hp⟩ := zr_cons hp
  cases zr_nil hp
  obtain ⟨u, v, rfl, h0⟩ := zd_op hD (by decide) p0
  obtain ⟨kd, rfl⟩ := zd_loc p1
  obtain ⟨k, rfl⟩ := zd_loc p2
  obtain ⟨p, rfl⟩ := zd_loc p3
  obtain ⟨qc0, hc⟩ := zc1 hc
  have qc0 : kd ≤ (0 : Int) + 0 := qc0
  obtain ⟨qc1, hc⟩ := zc1 hc
  have qc1 : (0 : Int) ≤ kd + 0 := qc1
  obtain ⟨qc2, hc⟩ := zc1 hc
  have qc2 : u ≤ k + 0 := qc2
  obtain ⟨qc3, hc⟩ := zc1 hc
  have qc3 : k ≤ u + 0 := qc3
  obtain ⟨qc4, hc⟩ := zc1 hc
  have qc4 : v ≤ p + -1 := qc4
  obtain ⟨qc5, hc⟩ := zc1 hc
  have qc5 : p ≤ v + 1 := qc5
  obtain ⟨qc6, hc⟩ := zc1 hc
  have qc6 : (0 : Int) ≤ k + -1 := qc6
  obtain ⟨qc7, hc⟩ := zc1 hc
  have qc7 : k ≤ p + -2 := qc7
  refine ⟨_, List.mem_singleton.mpr rfl, fun cc hcc => (by cases hcc), fun ff hff => ?_⟩
  rw [List.mem_singleton.mp hff]
  refine (hD.1 212 (by decide) _ _ _).mpr ⟨zd_ty hD (by decide) p0, kd, k, p, by simp, ?_⟩
  refine Or.inl ⟨by omega, by omega, by omega, ?_⟩
  rw [← h0, show u = k by omega, show v = p - 1 by omega]
theorem rU141_ok (hD : zk_d2 D ua) : zr_okU D rU141 := by
  intro ty H Ls hT hp hc
  obtain ⟨l0, Ls', rfl, p0, hp⟩ := zr_cons hp
  obtain ⟨l1, Ls', rfl, p1, hp⟩ := zr_cons hp
  obtain ⟨l2, Ls', rfl, p2, hp⟩ := zr_cons hp
  obtain ⟨l3, Ls', rfl, p3, hp⟩ := zr_cons hp
  cases zr_nil hp
  obtain ⟨rfl, -⟩ := zd_op hD (by decide) p0
  obtain ⟨kd, rfl⟩ := zd_loc p1
  obtain ⟨k, rfl⟩ := zd_loc p2
  obtain ⟨p, rfl⟩ := zd_loc p3
  obtain ⟨qc0, hc⟩ := zc1 hc
  have qc0 : kd ≤ (0 : Int) + 1 := qc0
  obtain ⟨qc1, hc⟩ := zc1 hc
  have qc1 : (0 : Int) ≤ kd + -1 := qc1
  obtain ⟨qc2, hc⟩ := zc1 hc
  have qc2 : (0 : Int) ≤ k + -1 := qc2
  obtain ⟨qc3, hc⟩ := zc1 hc
  have qc3 : k ≤ p + -1 := qc3
  refine ⟨_, List.mem_singleton.mpr rfl, fun cc hcc => (by cases hcc), fun ff hff => ?_⟩
  rw [List.mem_singleton.mp hff]
  refine (hD.1 212 (by decide) _ _ _).mpr ⟨zd_ty hD (by decide) p0, kd, k, p, by simp, ?_⟩
  exact Or.inr (Or.inl ⟨by omega, by omega, by omega⟩)
theorem rU142_ok (hD : zk_d2 D ua) : zr_okU D rU142 := by
  intro ty H Ls hT hp hc
  obtain ⟨l0, Ls', rfl, p0, hp⟩ := zr_cons hp
  obtain ⟨l1, Ls', rfl, p1, hp⟩ := zr_cons hp
  obtain ⟨l2, Ls', rfl, p2, hp⟩ := zr_cons hp
  obtain ⟨l3, Ls', rfl, p3, hp⟩ := zr_cons hp
  cases zr_nil hp
  obtain ⟨rfl, -⟩ := zd_op hD (by decide) p0
  obtain ⟨kd, rfl⟩ := zd_loc p1
  obtain ⟨k, rfl⟩ := zd_loc p2
  obtain ⟨p, rfl⟩ := zd_loc p3
  obtain ⟨qc0, hc⟩ := zc1 hc
  have qc0 : kd ≤ (0 : Int) + 2 := qc0
  obtain ⟨qc1, hc⟩ := zc1 hc
  have qc1 : (0 : Int) ≤ kd + -2 := qc1
  obtain ⟨qc2, hc⟩ := zc1 hc
  have qc2 : (0 : Int) ≤ k + 0 := qc2
  obtain ⟨qc3, hc⟩ := zc1 hc
  have qc3 : k ≤ p + -2 := qc3
  refine ⟨_, List.mem_singleton.mpr rfl, fun cc hcc => (by cases hcc), fun ff hff => ?_⟩
  rw [List.mem_singleton.mp hff]
  refine (hD.1 212 (by decide) _ _ _).mpr ⟨zd_ty hD (by decide) p0, kd, k, p, by simp, ?_⟩
  exact Or.inr (Or.inr ⟨by omega, by omega, by omega⟩)
theorem rU143_ok (hD : zk_d2 D ua) : zr_okU D rU143 := by
  intro ty H Ls hT hp hc
  obtain ⟨l0, Ls', rfl, p0, hp⟩ := zr_cons hp
  obtain ⟨l1, Ls', rfl, p1, hp⟩ := zr_cons hp
  obtain ⟨l2, Ls', rfl, p2, hp⟩ := zr_cons hp
  obtain ⟨l3, Ls', rfl, p3, hp⟩ := zr_cons hp
  cases zr_nil hp
  obtain ⟨rfl, -⟩ := zd_op hD (by decide) p0
  obtain ⟨kd, rfl⟩ := zd_loc p1
  obtain ⟨k, rfl⟩ := zd_loc p2
  obtain ⟨p, rfl⟩ := zd_loc p3
  obtain ⟨qc0, hc⟩ := zc1 hc
  have qc0 : kd ≤ (0 : Int) + -1 := qc0
  refine ⟨_, List.mem_singleton.mpr rfl, fun cc hcc => (by cases hcc), fun ff hff => ?_⟩
  rw [List.mem_singleton.mp hff]
  refine (hD.1 215 (by decide) _ _ _).mpr ⟨zd_ty hD (by decide) p0, kd, k, p, by simp, ?_⟩
  unfold zn_al
  omega
theorem rU144_ok (hD : zk_d2 D ua) : zr_okU D rU144 := by
  intro ty H Ls hT hp hc
  obtain ⟨l0, Ls', rfl, p0, hp⟩ := zr_cons hp
  obtain ⟨l1, Ls', rfl, p1, hp⟩ := zr_cons hp
  obtain ⟨l2, Ls', rfl, p2, hp⟩ := zr_cons hp
  obtain ⟨l3, Ls', rfl, p3, hp⟩ := zr_cons hp
  cases zr_nil hp
  obtain ⟨rfl, -⟩ := zd_op hD (by decide) p0
  obtain ⟨kd, rfl⟩ := zd_loc p1
  obtain ⟨k, rfl⟩ := zd_loc p2
  obtain ⟨p, rfl⟩ := zd_loc p3
  obtain ⟨qc0, hc⟩ := zc1 hc
  have qc0 : (0 : Int) ≤ kd + -3 := qc0
  refine ⟨_, List.mem_singleton.mpr rfl, fun cc hcc => (by cases hcc), fun ff hff => ?_⟩
  rw [List.mem_singleton.mp hff]
  refine (hD.1 215 (by decide) _ _ _).mpr ⟨zd_ty hD (by decide) p0, kd, k, p, by simp, ?_⟩
  unfold zn_al
  omega
theorem rU145_ok (hD : zk_d2 D ua) : zr_okU D rU145 := by
  intro ty H Ls hT hp hc
  obtain ⟨l0, Ls', rfl, p0, hp⟩ := zr_cons hp
  obtain ⟨l1, Ls', rfl, p1, hp⟩ := zr_cons hp
  obtain ⟨l2, Ls', rfl, p2, hp⟩ := zr_cons hp
  obtain ⟨l3, Ls', rfl, p3, hp⟩ := zr_cons hp
  cases zr_nil hp
  obtain ⟨rfl, -⟩ := zd_op hD (by decide) p0
  obtain ⟨kd, rfl⟩ := zd_loc p1
  obtain ⟨k, rfl⟩ := zd_loc p2
  obtain ⟨p, rfl⟩ := zd_loc p3
  obtain ⟨qc0, hc⟩ := zc1 hc
  have qc0 : (0 : Int) ≤ kd + 0 := qc0
  obtain ⟨qc1, hc⟩ := zc1 hc
  have qc1 : kd ≤ (0 : Int) + 1 := qc1
  obtain ⟨qc2, hc⟩ := zc1 hc
  have qc2 : k ≤ (0 : Int) + 0 := qc2
  refine ⟨_, List.mem_singleton.mpr rfl, fun cc hcc => (by cases hcc), fun ff hff => ?_⟩
  rw [List.mem_singleton.mp hff]
  refine (hD.1 215 (by decide) _ _ _).mpr ⟨zd_ty hD (by decide) p0, kd, k, p, by simp, ?_⟩
  unfold zn_al
  omega
theorem rU146_ok (hD : zk_d2 D ua) : zr_okU D rU146 := by
  intro ty H Ls hT hp hc
  obtain ⟨l0, Ls', rfl, p0, hp⟩ := zr_cons hp
  obtain ⟨l1, Ls', rfl, p1, hp⟩ := zr_cons hp
  obtain ⟨l2, Ls', rfl, p2, hp⟩ := zr_cons hp
  obtain ⟨l3, Ls', rfl, p3, hp⟩ := zr_cons hp
  cases zr_nil hp
  obtain ⟨rfl, -⟩ := zd_op hD (by decide) p0
  obtain ⟨kd, rfl⟩ := zd_loc p1
  obtain ⟨k, rfl⟩ := zd_loc p2
  obtain ⟨p, rfl⟩ := zd_loc p3
  obtain ⟨qc0, hc⟩ := zc1 hc
  have qc0 : k ≤ (0 : Int) + -1 := qc0
  refine ⟨_, List.mem_singleton.mpr rfl, fun cc hcc => (by cases hcc), fun ff hff => ?_⟩
  rw [List.mem_singleton.mp hff]
  refine (hD.1 215 (by decide) _ _ _).mpr ⟨zd_ty hD (by decide) p0, kd, k, p, by simp, ?_⟩
  unfold zn_al
  omega
theorem rU147_ok (hD : zk_d2 D ua) : zr_okU D rU147 := by
  intro ty H Ls hT hp hc
  obtain ⟨l0, Ls', rfl, p0, hp⟩ := zr_cons hp
  obtain ⟨l1, Ls', rfl, p1, hp⟩ := zr_cons hp
  obtain ⟨l2, Ls', rfl, p2, hp⟩ := zr_cons hp
  obtain ⟨l3, Ls', rfl, p3, hp⟩ := zr_cons hp
  cases zr_nil hp
  obtain ⟨rfl, -⟩ := zd_op hD (by decide) p0
  obtain ⟨kd, rfl⟩ := zd_loc p1
  obtain ⟨k, rfl⟩ := zd_loc p2
  obtain ⟨p, rfl⟩ := zd_loc p3
  obtain ⟨qc0, hc⟩ := zc1 hc
  have qc0 : kd ≤ (0 : Int) + 0 := qc0
  obtain ⟨qc1, hc⟩ := zc1 hc
  have qc1 : (0 : Int) ≤ kd + 0 := qc1
  obtain ⟨qc2, hc⟩ := zc1 hc
  have qc2 : p ≤ k + 1 := qc2
  refine ⟨_, List.mem_singleton.mpr rfl, fun cc hcc => (by cases hcc), fun ff hff => ?_⟩
  rw [List.mem_singleton.mp hff]
  refine (hD.1 215 (by decide) _ _ _).mpr ⟨zd_ty hD (by decide) p0, kd, k, p, by simp, ?_⟩
  unfold zn_al
  omega
theorem rU148_ok (hD : zk_d2 D ua) : zr_okU D rU148 := by
  intro ty H Ls hT hp hc
  obtain ⟨l0, Ls', rfl, p0, hp⟩ := zr_cons hp
  obtain ⟨l1, Ls', rfl, p1, hp⟩ := zr_cons hp
  obtain ⟨l2, Ls', rfl, p2, hp⟩ := zr_cons hp
  obtain ⟨l3, Ls', rfl, p3, hp⟩ := zr_cons hp
  cases zr_nil hp
  obtain ⟨rfl, -⟩ := zd_op hD (by decide) p0
  obtain ⟨kd, rfl⟩ := zd_loc p1
  obtain ⟨k, rfl⟩ := zd_loc p2
  obtain ⟨p, rfl⟩ := zd_loc p3
  obtain ⟨qc0, hc⟩ := zc1 hc
  have qc0 : p ≤ k + 0 := qc0
  refine ⟨_, List.mem_singleton.mpr rfl, fun cc hcc => (by cases hcc), fun ff hff => ?_⟩
  rw [List.mem_singleton.mp hff]
  refine (hD.1 215 (by decide) _ _ _).mpr ⟨zd_ty hD (by decide) p0, kd, k, p, by simp, ?_⟩
  unfold zn_al
  omega
theorem rU149_ok (hD : zk_d2 D ua) : zr_okU D rU149 := by
  intro ty H Ls hT hp hc
  obtain ⟨l0, Ls', rfl, p0, hp⟩ := zr_cons hp
  obtain ⟨l1, Ls', rfl, p1, hp⟩ := zr_cons hp
  obtain ⟨l2, Ls', rfl, p2, hp⟩ := zr_cons hp
  obtain ⟨l3, Ls', rfl, p3, hp⟩ := zr_cons hp
  cases zr_nil hp
  obtain ⟨rfl, -⟩ := zd_op hD (by decide) p0
  obtain ⟨kd, rfl⟩ := zd_loc p1
  obtain ⟨k, rfl⟩ := zd_loc p2
  obtain ⟨p, rfl⟩ := zd_loc p3
  obtain ⟨qc0, hc⟩ := zc1 hc
  have qc0 : kd ≤ (0 : Int) + 2 := qc0
  obtain ⟨qc1, hc⟩ := zc1 hc
  have qc1 : (0 : Int) ≤ kd + -2 := qc1
  obtain ⟨qc2, hc⟩ := zc1 hc
  have qc2 : p ≤ k + 1 := qc2
  refine ⟨_, List.mem_singleton.mpr rfl, fun cc hcc => (by cases hcc), fun ff hff => ?_⟩
  rw [List.mem_singleton.mp hff]
  refine (hD.1 215 (by decide) _ _ _).mpr ⟨zd_ty hD (by decide) p0, kd, k, p, by simp, ?_⟩
  unfold zn_al
  omega
theorem rU150_ok (hD : zk_d2 D ua) : zr_okU D rU150 := by
  intro ty H Ls hT hp hc
  obtain ⟨l0, Ls', rfl, p0, hp⟩ := zr_cons hp
  obtain ⟨l1, Ls', rfl, p1, hp⟩ := zr_cons hp
  obtain ⟨l2, Ls', rfl, p2, hp⟩ := zr_cons hp
  obtain ⟨l3, Ls', rfl, p3, hp⟩ := zr_cons hp
  cases zr_nil hp
  obtain ⟨u, v, rfl, h0⟩ := zd_op hD (by decide) p0
  obtain ⟨kd, rfl⟩ := zd_loc p1
  obtain ⟨k, rfl⟩ := zd_loc p2
  obtain ⟨p, rfl⟩ := zd_loc p3
  obtain ⟨qc0, hc⟩ := zc1 hc
  have qc0 : kd ≤ (0 : Int) + 0 := qc0
  obtain ⟨qc1, hc⟩ := zc1 hc
  have qc1 : (0 : Int) ≤ kd + 0 := qc1
  obtain ⟨qc2, hc⟩ := zc1 hc
  have qc2 : u ≤ k + 0 := qc2
  obtain ⟨qc3, hc⟩ := zc1 hc
  have qc3 : k ≤ u + 0 := qc3
  obtain ⟨qc4, hc⟩ := zc1 hc
  have qc4 : v ≤ p + -1 := qc4
  obtain ⟨qc5, hc⟩ := zc1 hc
  have qc5 : p ≤ v + 1 := qc5
  refine ⟨_, List.mem_singleton.mpr rfl, fun cc hcc => (by cases hcc), fun ff hff => ?_⟩
  rw [List.mem_singleton.mp hff]
  refine (hD.1 215 (by decide) _ _ _).mpr ⟨zd_ty hD (by decide) p0, kd, k, p, by simp, ?_⟩
  rw [show u = k by omega, show v = p - 1 by omega] at h0
  unfold zn_al
  omega
theorem rU160_ok (hD : zk_d2 D ua) : zr_okU D rU160 := by
  intro ty H Ls hT hp hc
  obtain ⟨l0, Ls', rfl, p0, hp⟩ := zr_cons hp
  obtain ⟨l1, Ls', rfl, p1, hp⟩ := zr_cons hp
  obtain ⟨l2, Ls', rfl, p2, hp⟩ := zr_cons hp
  obtain ⟨l3, Ls', rfl, p3, hp⟩ := zr_cons hp
  cases zr_nil hp
  obtain ⟨u, v, rfl, h0⟩ := zd_op hD (by decide) p0
  obtain ⟨kd, rfl⟩ := zd_loc p1
  obtain ⟨k, rfl⟩ := zd_loc p2
  obtain ⟨xx, p, rfl, hp⟩ := zd_fm hD hT p3
  obtain ⟨qc0, hc⟩ := zc1 hc
  have qc0 : kd ≤ (0 : Int) + 0 := qc0
  obtain ⟨qc1, hc⟩ := zc1 hc
  have qc1 : (0 : Int) ≤ kd + 0 := qc1
  obtain ⟨qc2, hc⟩ := zc1 hc
  have qc2 : u ≤ k + 0 := qc2
  obtain ⟨qc3, hc⟩ := zc1 hc
  have qc3 : k ≤ u + 0 := qc3
  obtain ⟨qc4, hc⟩ := zc1 hc
  have qc4 : v ≤ p + -1 := qc4
  obtain ⟨qc5, hc⟩ := zc1 hc
  have qc5 : p ≤ v + 1 := qc5
  obtain ⟨qc6, hc⟩ := zc1 hc
  have qc6 : (0 : Int) ≤ k + -1 := qc6
  obtain ⟨qc7, hc⟩ := zc1 hc
  have qc7 : k ≤ p + -2 := qc7
  refine ⟨_, List.mem_singleton.mpr rfl, fun cc hcc => (by cases hcc), fun ff hff => ?_⟩
  rw [List.mem_singleton.mp hff]
  refine (hD.1 212 (by decide) _ _ _).mpr ⟨zd_ty hD (by decide) p0, kd, k, p, by simp, ?_⟩
  refine Or.inl ⟨by omega, by omega, by omega, ?_⟩
  rw [← h0, show u = k by omega, show v = p - 1 by omega]
theorem rU161_ok (hD : zk_d2 D ua) : zr_okU D rU161 := by
  intro ty H Ls hT hp hc
  obtain ⟨l0, Ls', rfl, p0, hp⟩ := zr_cons hp
  obtain ⟨l1, Ls', rfl, p1, hp⟩ := zr_cons hp
  obtain ⟨l2, Ls', rfl, p2, hp⟩ := zr_cons hp
  obtain ⟨l3, Ls', rfl, p3, hp⟩ := zr_cons hp
  cases zr_nil hp
  obtain ⟨rfl, -⟩ := zd_op hD (by decide) p0
  obtain ⟨kd, rfl⟩ := zd_loc p1
  obtain ⟨k, rfl⟩ := zd_loc p2
  obtain ⟨xx, p, rfl, hp⟩ := zd_fm hD hT p3
  obtain ⟨qc0, hc⟩ := zc1 hc
  have qc0 : kd ≤ (0 : Int) + 1 := qc0
  obtain ⟨qc1, hc⟩ := zc1 hc
  have qc1 : (0 : Int) ≤ kd + -1 := qc1
  obtain ⟨qc2, hc⟩ := zc1 hc
  have qc2 : (0 : Int) ≤ k + -1 := qc2
  obtain ⟨qc3, hc⟩ := zc1 hc
  have qc3 : k ≤ p + -1 := qc3
  refine ⟨_, List.mem_singleton.mpr rfl, fun cc hcc => (by cases hcc), fun ff hff => ?_⟩
  rw [List.mem_singleton.mp hff]
  refine (hD.1 212 (by decide) _ _ _).mpr ⟨zd_ty hD (by decide) p0, kd, k, p, by simp, ?_⟩
  exact Or.inr (Or.inl ⟨by omega, by omega, by omega⟩)
theorem rU162_ok (hD : zk_d2 D ua) : zr_okU D rU162 := by
  intro ty H Ls hT hp hc
  obtain ⟨l0, Ls', rfl, p0, hp⟩ := zr_cons hp
  obtain ⟨l1, Ls', rfl, p1, hp⟩ := zr_cons hp
  obtain ⟨l2, Ls', rfl, p2, hp⟩ := zr_cons hp
  obtain ⟨l3, Ls', rfl, p3, hp⟩ := zr_cons hp
  cases zr_nil hp
  obtain ⟨rfl, -⟩ := zd_op hD (by decide) p0
  obtain ⟨kd, rfl⟩ := zd_loc p1
  obtain ⟨k, rfl⟩ := zd_loc p2
  obtain ⟨xx, p, rfl, hp⟩ := zd_fm hD hT p3
  obtain ⟨qc0, hc⟩ := zc1 hc
  have qc0 : kd ≤ (0 : Int) + 2 := qc0
  obtain ⟨qc1, hc⟩ := zc1 hc
  have qc1 : (0 : Int) ≤ kd + -2 := qc1
  obtain ⟨qc2, hc⟩ := zc1 hc
  have qc2 : (0 : Int) ≤ k + 0 := qc2
  obtain ⟨qc3, hc⟩ := zc1 hc
  have qc3 : k ≤ p + -2 := qc3
  refine ⟨_, List.mem_singleton.mpr rfl, fun cc hcc => (by cases hcc), fun ff hff => ?_⟩
  rw [List.mem_singleton.mp hff]
  refine (hD.1 212 (by decide) _ _ _).mpr ⟨zd_ty hD (by decide) p0, kd, k, p, by simp, ?_⟩
  exact Or.inr (Or.inr ⟨by omega, by omega, by omega⟩)
theorem rU163_ok (hD : zk_d2 D ua) : zr_okU D rU163 := by
  intro ty H Ls hT hp hc
  obtain ⟨l0, Ls', rfl, p0, hp⟩ := zr_cons hp
  obtain ⟨l1, Ls', rfl, p1, hp⟩ := zr_cons hp
  obtain ⟨l2, Ls', rfl, p2, hp⟩ := zr_cons hp
  obtain ⟨l3, Ls', rfl, p3, hp⟩ := zr_cons hp
  cases zr_nil hp
  obtain ⟨rfl, -⟩ := zd_op hD (by decide) p0
  obtain ⟨kd, rfl⟩ := zd_loc p1
  obtain ⟨k, rfl⟩ := zd_loc p2
  obtain ⟨xx, p, rfl, hp⟩ := zd_fm hD hT p3
  obtain ⟨qc0, hc⟩ := zc1 hc
  have qc0 : kd ≤ (0 : Int) + -1 := qc0
  refine ⟨_, List.mem_singleton.mpr rfl, fun cc hcc => (by cases hcc), fun ff hff => ?_⟩
  rw [List.mem_singleton.mp hff]
  refine (hD.1 215 (by decide) _ _ _).mpr ⟨zd_ty hD (by decide) p0, kd, k, p, by simp, ?_⟩
  unfold zn_al
  omega
theorem rU164_ok (hD : zk_d2 D ua) : zr_okU D rU164 := by
  intro ty H Ls hT hp hc
  obtain ⟨l0, Ls', rfl, p0, hp⟩ := zr_cons hp
  obtain ⟨l1, Ls', rfl, p1, hp⟩ := zr_cons hp
  obtain ⟨l2, Ls', rfl, p2, hp⟩ := zr_cons hp
  obtain ⟨l3, Ls', rfl, p3, hp⟩ := zr_cons hp
  cases zr_nil hp
  obtain ⟨rfl, -⟩ := zd_op hD (by decide) p0
  obtain ⟨kd, rfl⟩ := zd_loc p1
  obtain ⟨k, rfl⟩ := zd_loc p2
  obtain ⟨xx, p, rfl, hp⟩ := zd_fm hD hT p3
  obtain ⟨qc0, hc⟩ := zc1 hc
  have qc0 : (0 : Int) ≤ kd + -3 := qc0
  refine ⟨_, List.mem_singleton.mpr rfl, fun cc hcc => (by cases hcc), fun ff hff => ?_⟩
  rw [List.mem_singleton.mp hff]
  refine (hD.1 215 (by decide) _ _ _).mpr ⟨zd_ty hD (by decide) p0, kd, k, p, by simp, ?_⟩
  unfold zn_al
  omega
theorem rU165_ok (hD : zk_d2 D ua) : zr_okU D rU165 := by
  intro ty H Ls hT hp hc
  obtain ⟨l0, Ls', rfl, p0, hp⟩ := zr_cons hp
  obtain ⟨l1, Ls', rfl, p1, hp⟩ := zr_cons hp
  obtain ⟨l2, Ls', rfl, p2, hp⟩ := zr_cons hp
  obtain ⟨l3, Ls', rfl, p3, hp⟩ := zr_cons hp
  cases zr_nil hp
  obtain ⟨rfl, -⟩ := zd_op hD (by decide) p0
  obtain ⟨kd, rfl⟩ := zd_loc p1
  obtain ⟨k, rfl⟩ := zd_loc p2
  obtain ⟨xx, p, rfl, hp⟩ := zd_fm hD hT p3
  obtain ⟨qc0, hc⟩ := zc1 hc
  have qc0 : (0 : Int) ≤ kd + 0 := qc0
  obtain ⟨qc1, hc⟩ := zc1 hc
  have qc1 : kd ≤ (0 : Int) + 1 := qc1
  obtain ⟨qc2, hc⟩ := zc1 hc
  have qc2 : k ≤ (0 : Int) + 0 := qc2
  refine ⟨_, List.mem_singleton.mpr rfl, fun cc hcc => (by cases hcc), fun ff hff => ?_⟩
  rw [List.mem_singleton.mp hff]
  refine (hD.1 215 (by decide) _ _ _).mpr ⟨zd_ty hD (by decide) p0, kd, k, p, by simp, ?_⟩
  unfold zn_al
  omega
theorem rU166_ok (hD : zk_d2 D ua) : zr_okU D rU166 := by
  intro ty H Ls hT hp hc
  obtain ⟨l0, Ls', rfl, p0, hp⟩ := zr_cons hp
  obtain ⟨l1, Ls', rfl, p1, hp⟩ := zr_cons hp
  obtain ⟨l2, Ls', rfl, p2, hp⟩ := zr_cons hp
  obtain ⟨l3, Ls', rfl, p3, hp⟩ := zr_cons hp
  cases zr_nil hp
  obtain ⟨rfl, -⟩ := zd_op hD (by decide) p0
  obtain ⟨kd, rfl⟩ := zd_loc p1
  obtain ⟨k, rfl⟩ := zd_loc p2
  obtain ⟨xx, p, rfl, hp⟩ := zd_fm hD hT p3
  obtain ⟨qc0, hc⟩ := zc1 hc
  have qc0 : k ≤ (0 : Int) + -1 := qc0
  refine ⟨_, List.mem_singleton.mpr rfl, fun cc hcc => (by cases hcc), fun ff hff => ?_⟩
  rw [List.mem_singleton.mp hff]
  refine (hD.1 215 (by decide) _ _ _).mpr ⟨zd_ty hD (by decide) p0, kd, k, p, by simp, ?_⟩
  unfold zn_al
  omega
theorem rU167_ok (hD : zk_d2 D ua) : zr_okU D rU167 := by
  intro ty H Ls hT hp hc
  obtain ⟨l0, Ls', rfl, p0, hp⟩ := zr_cons hp
  obtain ⟨l1, Ls', rfl, p1, hp⟩ := zr_cons hp
  obtain ⟨l2, Ls', rfl, p2, hp⟩ := zr_cons hp
  obtain ⟨l3, Ls', rfl, p3, hp⟩ := zr_cons hp
  cases zr_nil hp
  obtain ⟨rfl, -⟩ := zd_op hD (by decide) p0
  obtain ⟨kd, rfl⟩ := zd_loc p1
  obtain ⟨k, rfl⟩ := zd_loc p2
  obtain ⟨xx, p, rfl, hp⟩ := zd_fm hD hT p3
  obtain ⟨qc0, hc⟩ := zc1 hc
  have qc0 : kd ≤ (0 : Int) + 0 := qc0
  obtain ⟨qc1, hc⟩ := zc1 hc
  have qc1 : (0 : Int) ≤ kd + 0 := qc1
  obtain ⟨qc2, hc⟩ := zc1 hc
  have qc2 : p ≤ k + 1 := qc2
  refine ⟨_, List.mem_singleton.mpr rfl, fun cc hcc => (by cases hcc), fun ff hff => ?_⟩
  rw [List.mem_singleton.mp hff]
  refine (hD.1 215 (by decide) _ _ _).mpr ⟨zd_ty hD (by decide) p0, kd, k, p, by simp, ?_⟩
  unfold zn_al
  omega
theorem rU168_ok (hD : zk_d2 D ua) : zr_okU D rU168 := by
  intro ty H Ls hT hp hc
  obtain ⟨l0, Ls', rfl, p0, hp⟩ := zr_cons hp
  obtain ⟨l1, Ls', rfl, p1, hp⟩ := zr_cons hp
  obtain ⟨l2, Ls', rfl, p2, hp⟩ := zr_cons hp
  obtain ⟨l3, Ls', rfl, p3, hp⟩ := zr_cons hp
  cases zr_nil hp
  obtain ⟨rfl, -⟩ := zd_op hD (by decide) p0
  obtain ⟨kd, rfl⟩ := zd_loc p1
  obtain ⟨k, rfl⟩ := zd_loc p2
  obtain ⟨xx, p, rfl, hp⟩ := zd_fm hD hT p3
  obtain ⟨qc0, hc⟩ := zc1 hc
  have qc0 : p ≤ k + 0 := qc0
  refine ⟨_, List.mem_singleton.mpr rfl, fun cc hcc => (by cases hcc), fun ff hff => ?_⟩
  rw [List.mem_singleton.mp hff]
  refine (hD.1 215 (by decide) _ _ _).mpr ⟨zd_ty hD (by decide) p0, kd, k, p, by simp, ?_⟩
  unfold zn_al
  omega
theorem rU169_ok (hD : zk_d2 D ua) : zr_okU D rU169 := by
  intro ty H Ls hT hp hc
  obtain ⟨l0, Ls', rfl, p0, hp⟩ := zr_cons hp
  obtain ⟨l1, Ls', rfl, p1, hp⟩ := zr_cons hp
  obtain ⟨l2, Ls', rfl, p2, hp⟩ := zr_cons hp
  obtain ⟨l3, Ls', rfl, p3, hp⟩ := zr_cons hp
  cases zr_nil hp
  obtain ⟨rfl, -⟩ := zd_op hD (by decide) p0
  obtain ⟨kd, rfl⟩ := zd_loc p1
  obtain ⟨k, rfl⟩ := zd_loc p2
  obtain ⟨xx, p, rfl, hp⟩ := zd_fm hD hT p3
  obtain ⟨qc0, hc⟩ := zc1 hc
  have qc0 : kd ≤ (0 : Int) + 2 := qc0
  obtain ⟨qc1, hc⟩ := zc1 hc
  have qc1 : (0 : Int) ≤ kd + -2 := qc1
  obtain ⟨qc2, hc⟩ := zc1 hc
  have qc2 : p ≤ k + 1 := qc2
  refine ⟨_, List.mem_singleton.mpr rfl, fun cc hcc => (by cases hcc), fun ff hff => ?_⟩
  rw [List.mem_singleton.mp hff]
  refine (hD.1 215 (by decide) _ _ _).mpr ⟨zd_ty hD (by decide) p0, kd, k, p, by simp, ?_⟩
  unfold zn_al
  omega
theorem rU170_ok (hD : zk_d2 D ua) : zr_okU D rU170 := by
  intro ty H Ls hT hp hc
  obtain ⟨l0, Ls', rfl, p0, hp⟩ := zr_cons hp
  obtain ⟨l1, Ls', rfl, p1, hp⟩ := zr_cons hp
  obtain ⟨l2, Ls', rfl, p2, hp⟩ := zr_cons hp
  obtain ⟨l3, Ls', rfl, p3, hp⟩ := zr_cons hp
  cases zr_nil hp
  obtain ⟨u, v, rfl, h0⟩ := zd_op hD (by decide) p0
  obtain ⟨kd, rfl⟩ := zd_loc p1
  obtain ⟨k, rfl⟩ := zd_loc p2
  obtain ⟨xx, p, rfl, hp⟩ := zd_fm hD hT p3
  obtain ⟨qc0, hc⟩ := zc1 hc
  have qc0 : kd ≤ (0 : Int) + 0 := qc0
  obtain ⟨qc1, hc⟩ := zc1 hc
  have qc1 : (0 : Int) ≤ kd + 0 := qc1
  obtain ⟨qc2, hc⟩ := zc1 hc
  have qc2 : u ≤ k + 0 := qc2
  obtain ⟨qc3, hc⟩ := zc1 hc
  have qc3 : k ≤ u + 0 := qc3
  obtain ⟨qc4, hc⟩ := zc1 hc
  have qc4 : v ≤ p + -1 := qc4
  obtain ⟨qc5, hc⟩ := zc1 hc
  have qc5 : p ≤ v + 1 := qc5
  refine ⟨_, List.mem_singleton.mpr rfl, fun cc hcc => (by cases hcc), fun ff hff => ?_⟩
  rw [List.mem_singleton.mp hff]
  refine (hD.1 215 (by decide) _ _ _).mpr ⟨zd_ty hD (by decide) p0, kd, k, p, by simp, ?_⟩
  rw [show u = k by omega, show v = p - 1 by omega] at h0
  unfold zn_al
  omega
theorem rU151_ok (hD : zk_d2 D ua) : zr_okU D rU151 := by
  intro ty H Ls hT hp hc
  obtain ⟨l0, Ls', rfl, p0, hp⟩ := zr_cons hp
  obtain ⟨l1, Ls', rfl, p1, hp⟩ := zr_cons hp
  cases zr_nil hp
  obtain ⟨kd, k, p, rfl, h0⟩ := zd_op hD (by decide) p0
  obtain ⟨s, rfl⟩ := zd_loc p1
  refine ⟨_, List.mem_singleton.mpr rfl, fun cc hcc => (by cases hcc), fun ff hff => ?_⟩
  rw [List.mem_singleton.mp hff]
  refine (hD.1 213 (by decide) _ _ _).mpr ⟨zd_ty hD (by decide) p0, s, kd, k, p, by simp, ?_⟩
  exact fun hh => h0 hh.2
theorem rU152_ok (hD : zk_d2 D ua) : zr_okU D rU152 := by
  intro ty H Ls hT hp hc
  obtain ⟨l0, Ls', rfl, p0, hp⟩ := zr_cons hp
  obtain ⟨l1, Ls', rfl, p1, hp⟩ := zr_cons hp
  obtain ⟨l2, Ls', rfl, p2, hp⟩ := zr_cons hp
  obtain ⟨l3, Ls', rfl, p3, hp⟩ := zr_cons hp
  obtain ⟨l4, Ls', rfl, p4, hp⟩ := zr_cons hp
  cases zr_nil hp
  obtain ⟨rfl, -⟩ := zd_op hD (by decide) p0
  obtain ⟨s, rfl⟩ := zd_loc p1
  obtain ⟨kd, rfl⟩ := zd_loc p2
  obtain ⟨k, rfl⟩ := zd_loc p3
  obtain ⟨xx, p, rfl⟩ := zd_f0 p4
  obtain ⟨qc0, hc⟩ := zc1 hc
  have qc0 : s ≤ (0 : Int) + -1 := qc0
  refine ⟨_, List.mem_singleton.mpr rfl, fun cc hcc => (by cases hcc), fun ff hff => ?_⟩
  rw [List.mem_singleton.mp hff]
  refine (hD.1 213 (by decide) _ _ _).mpr ⟨zd_ty hD (by decide) p0, s, kd, k, p, by simp, ?_⟩
  exact fun hh => by omega
theorem rU153_ok (hD : zk_d2 D ua) : zr_okU D rU153 := by
  intro ty H Ls hT hp hc
  obtain ⟨l0, Ls', rfl, p0, hp⟩ := zr_cons hp
  obtain ⟨l1, Ls', rfl, p1, hp⟩ := zr_cons hp
  obtain ⟨l2, Ls', rfl, p2, hp⟩ := zr_cons hp
  obtain ⟨l3, Ls', rfl, p3, hp⟩ := zr_cons hp
  obtain ⟨l4, Ls', rfl, p4, hp⟩ := zr_cons hp
  cases zr_nil hp
  obtain ⟨rfl, -⟩ := zd_op hD (by decide) p0
  obtain ⟨s, rfl⟩ := zd_loc p1
  obtain ⟨kd, rfl⟩ := zd_loc p2
  obtain ⟨k, rfl⟩ := zd_loc p3
  obtain ⟨xx, p, rfl⟩ := zd_f0 p4
  obtain ⟨qc0, hc⟩ := zc1 hc
  have qc0 : (0 : Int) ≤ s + -2 := qc0
  refine ⟨_, List.mem_singleton.mpr rfl, fun cc hcc => (by cases hcc), fun ff hff => ?_⟩
  rw [List.mem_singleton.mp hff]
  refine (hD.1 213 (by decide) _ _ _).mpr ⟨zd_ty hD (by decide) p0, s, kd, k, p, by simp, ?_⟩
  exact fun hh => by omega
theorem rU177_ok (hD : zk_d2 D ua) : zr_okU D rU177 := by
  intro ty H Ls hT hp hc
  obtain ⟨l0, Ls', rfl, p0, hp⟩ := zr_cons hp
  obtain ⟨l1, Ls', rfl, p1, hp⟩ := zr_cons hp
  obtain ⟨l2, Ls', rfl, p2, hp⟩ := zr_cons hp
  obtain ⟨l3, Ls', rfl, p3, hp⟩ := zr_cons hp
  obtain ⟨l4, Ls', rfl, p4, hp⟩ := zr_cons hp
  cases zr_nil hp
  obtain ⟨rfl, -⟩ := zd_op hD (by decide) p0
  obtain ⟨s, rfl⟩ := zd_loc p1
  obtain ⟨kd, rfl⟩ := zd_loc p2
  obtain ⟨k, rfl⟩ := zd_loc p3
  obtain ⟨xx, p, rfl, hp⟩ := zd_fm hD hT p4
  obtain ⟨qc0, hc⟩ := zc1 hc
  have qc0 : s ≤ (0 : Int) + -1 := qc0
  refine ⟨_, List.mem_singleton.mpr rfl, fun cc hcc => (by cases hcc), fun ff hff => ?_⟩
  rw [List.mem_singleton.mp hff]
  refine (hD.1 213 (by decide) _ _ _).mpr ⟨zd_ty hD (by decide) p0, s, kd, k, p, by simp, ?_⟩
  exact fun hh => by omega
theorem rU178_ok (hD : zk_d2 D ua) : zr_okU D rU178 := by
  intro ty H Ls hT hp hc
  obtain ⟨l0, Ls', rfl, p0, hp⟩ := zr_cons hp
  obtain ⟨l1, Ls', rfl, p1, hp⟩ := zr_cons hp
  obtain ⟨l2, Ls', rfl, p2, hp⟩ := zr_cons hp
  obtain ⟨l3, Ls', rfl, p3, hp⟩ := zr_cons hp
  obtain ⟨l4, Ls', rfl, p4, hp⟩ := zr_cons hp
  cases zr_nil hp
  obtain ⟨rfl, -⟩ := zd_op hD (by decide) p0
  obtain ⟨s, rfl⟩ := zd_loc p1
  obtain ⟨kd, rfl⟩ := zd_loc p2
  obtain ⟨k, rfl⟩ := zd_loc p3
  obtain ⟨xx, p, rfl, hp⟩ := zd_fm hD hT p4
  obtain ⟨qc0, hc⟩ := zc1 hc
  have qc0 : (0 : Int) ≤ s + -2 := qc0
  refine ⟨_, List.mem_singleton.mpr rfl, fun cc hcc => (by cases hcc), fun ff hff => ?_⟩
  rw [List.mem_singleton.mp hff]
  refine (hD.1 213 (by decide) _ _ _).mpr ⟨zd_ty hD (by decide) p0, s, kd, k, p, by simp, ?_⟩
  exact fun hh => by omega
theorem rU154_ok (hD : zk_d2 D ua) : zr_okU D rU154 := by
  intro ty H Ls hT hp hc
  obtain ⟨l0, Ls', rfl, p0, hp⟩ := zr_cons hp
  obtain ⟨l1, Ls', rfl, p1, hp⟩ := zr_cons hp
  cases zr_nil hp
  obtain ⟨kd, k, p, rfl, h0⟩ := zd_op hD (by decide) p0
  obtain ⟨s, rfl⟩ := zd_loc p1
  obtain ⟨qc0, hc⟩ := zc1 hc
  have qc0 : (0 : Int) ≤ s + 0 := qc0
  obtain ⟨qc1, hc⟩ := zc1 hc
  have qc1 : s ≤ (0 : Int) + 1 := qc1
  refine ⟨_, List.mem_singleton.mpr rfl, fun cc hcc => (by cases hcc), fun ff hff => ?_⟩
  rw [List.mem_singleton.mp hff]
  refine (hD.1 214 (by decide) _ _ _).mpr ⟨zd_ty hD (by decide) p0, s, kd, k, p, by simp, ?_⟩
  exact ⟨by omega, h0⟩
theorem rU155_ok (hD : zk_d2 D ua) : zr_okU D rU155 := by
  intro ty H Ls hT hp hc
  obtain ⟨l0, Ls', rfl, p0, hp⟩ := zr_cons hp
  obtain ⟨l1, Ls', rfl, p1, hp⟩ := zr_cons hp
  cases zr_nil hp
  obtain ⟨s, kd, k, p, rfl, h0⟩ := zd_op hD (by decide) p0
  obtain ⟨s1, kd1, k1, p1_, rfl, h1⟩ := zd_op hD (by decide) p1
  obtain ⟨qc0, hc⟩ := zc1 hc
  have qc0 : s1 ≤ s + 0 := qc0
  obtain ⟨qc1, hc⟩ := zc1 hc
  have qc1 : s ≤ s1 + 0 := qc1
  obtain ⟨qc2, hc⟩ := zc1 hc
  have qc2 : kd1 ≤ kd + 0 := qc2
  obtain ⟨qc3, hc⟩ := zc1 hc
  have qc3 : kd ≤ kd1 + 0 := qc3
  obtain ⟨qc4, hc⟩ := zc1 hc
  have qc4 : k1 ≤ k + 0 := qc4
  obtain ⟨qc5, hc⟩ := zc1 hc
  have qc5 : k ≤ k1 + 0 := qc5
  obtain ⟨qc6, hc⟩ := zc1 hc
  have qc6 : p1_ ≤ p + 0 := qc6
  obtain ⟨qc7, hc⟩ := zc1 hc
  have qc7 : p ≤ p1_ + 0 := qc7
  exfalso
  rw [show s1 = s by omega, show kd1 = kd by omega, show k1 = k by omega, show p1_ = p by omega] at h1
  exact h1 h0
theorem rU156_ok (hD : zk_d2 D ua) : zr_okU D rU156 := by
  intro ty H Ls hT hp hc
  obtain ⟨l0, Ls', rfl, p0, hp⟩ := zr_cons hp
  cases zr_nil hp
  obtain ⟨s, kd, k, p, rfl, h0⟩ := zd_op hD (by decide) p0
  obtain ⟨qc0, hc⟩ := zc1 hc
  have qc0 : s ≤ (0 : Int) + 0 := qc0
  obtain ⟨qc1, hc⟩ := zc1 hc
  have qc1 : (0 : Int) ≤ s + 0 := qc1
  refine ⟨_, List.mem_singleton.mpr rfl, fun cc hcc => (by cases hcc), fun ff hff => ?_⟩
  rw [List.mem_singleton.mp hff]
  refine (hD.1 210 (by decide) _ _ _).mpr ⟨zd_ty hD (by decide) p0, kd, k, p, by simp, ?_⟩
  exact h0.2
theorem rU157_ok (hD : zk_d2 D ua) : zr_okU D rU157 := by
  intro ty H Ls hT hp hc
  obtain ⟨l0, Ls', rfl, p0, hp⟩ := zr_cons hp
  cases zr_nil hp
  obtain ⟨s, kd, k, p, rfl, h0⟩ := zd_op hD (by decide) p0
  obtain ⟨qc0, hc⟩ := zc1 hc
  have qc0 : s ≤ (0 : Int) + 1 := qc0
  obtain ⟨qc1, hc⟩ := zc1 hc
  have qc1 : (0 : Int) ≤ s + -1 := qc1
  refine ⟨_, List.mem_singleton.mpr rfl, fun cc hcc => (by cases hcc), fun ff hff => ?_⟩
  rw [List.mem_singleton.mp hff]
  refine (hD.1 211 (by decide) _ _ _).mpr ⟨zd_ty hD (by decide) p0, kd, k, p, by simp, ?_⟩
  exact h0.2
theorem rU158_ok (hD : zk_d2 D ua) : zr_okU D rU158 := by
  intro ty H Ls hT hp hc
  obtain ⟨l0, Ls', rfl, p0, hp⟩ := zr_cons hp
  cases zr_nil hp
  obtain ⟨n, rfl, h0⟩ := zd_op hD (by decide) p0
  obtain ⟨qc0, hc⟩ := zc1 hc
  have qc0 : (0 : Int) ≤ n + -5 := qc0
  refine ⟨_, List.mem_singleton.mpr rfl, fun cc hcc => (by cases hcc), fun ff hff => ?_⟩
  simp only [List.mem_cons, List.not_mem_nil, or_false] at hff
  rcases hff with rfl | rfl
  · refine (hD.1 210 (by decide) _ _ _).mpr ⟨zd_ty hD (by decide) p0, 0, 1, n, by simp, ?_⟩
    exact zn_al1 (by omega)
  · refine (hD.1 211 (by decide) _ _ _).mpr ⟨zd_ty hD (by decide) p0, 0, 1, n, by simp, ?_⟩
    exact zn_al1 (by omega)
theorem rU159_ok (hD : zk_d2 D ua) : zr_okU D rU159 := by
  intro ty H Ls hT hp hc
  obtain ⟨l0, Ls', rfl, p0, hp⟩ := zr_cons hp
  cases zr_nil hp
  obtain ⟨rfl, -⟩ := zd_op hD (by decide) p0
  refine ⟨_, List.mem_singleton.mpr rfl, fun cc hcc => (by cases hcc), fun ff hff => ?_⟩
  simp only [List.mem_cons, List.not_mem_nil, or_false] at hff
  rcases hff with rfl | rfl | rfl
  · refine (hD.1 210 (by decide) _ _ _).mpr ⟨zd_ty hD (by decide) p0, 0, 1, 101, by simp, ?_⟩
    exact zn_al1 (by omega)
  · refine (hD.1 211 (by decide) _ _ _).mpr ⟨zd_ty hD (by decide) p0, 0, 1, 101, by simp, ?_⟩
    exact zn_al1 (by omega)
  · refine (hD.1 160 (by decide) _ _ _).mpr ⟨zd_ty hD (by decide) p0, 101, by simp, ?_⟩
    exact zn_101
theorem rU171_ok (hD : zk_d2 D ua) : zr_okU D rU171 := by
  intro ty H Ls hT hp hc
  obtain ⟨l0, Ls', rfl, p0, hp⟩ := zr_cons hp
  cases zr_nil hp
  obtain ⟨kd, k, p, rfl, h0⟩ := zd_op hD (by decide) p0
  refine ⟨_, List.mem_singleton.mpr rfl, fun cc hcc => (by cases hcc), fun ff hff => ?_⟩
  rw [List.mem_singleton.mp hff]
  refine (hD.1 212 (by decide) _ _ _).mpr ⟨zd_ty hD (by decide) p0, kd, k, p, by simp, ?_⟩
  exact h0
theorem rU172_ok (hD : zk_d2 D ua) : zr_okU D rU172 := by
  intro ty H Ls hT hp hc
  obtain ⟨l0, Ls', rfl, p0, hp⟩ := zr_cons hp
  cases zr_nil hp
  obtain ⟨kd, k, p, rfl, h0⟩ := zd_op hD (by decide) p0
  refine ⟨_, List.mem_singleton.mpr rfl, fun cc hcc => (by cases hcc), fun ff hff => ?_⟩
  rw [List.mem_singleton.mp hff]
  refine (hD.1 212 (by decide) _ _ _).mpr ⟨zd_ty hD (by decide) p0, kd, k, p, by simp, ?_⟩
  exact h0
theorem rU173_ok (hD : zk_d2 D ua) : zr_okU D rU173 := by
  intro ty H Ls hT hp hc
  obtain ⟨l0, Ls', rfl, p0, hp⟩ := zr_cons hp
  cases zr_nil hp
  obtain ⟨kd, k, p, rfl, h0⟩ := zd_op hD (by decide) p0
  obtain ⟨qc0, hc⟩ := zc1 hc
  have qc0 : kd ≤ (0 : Int) + 0 := qc0
  obtain ⟨qc1, hc⟩ := zc1 hc
  have qc1 : (0 : Int) ≤ kd + 0 := qc1
  unfold zn_al at h0
  refine ⟨_, List.mem_singleton.mpr rfl, fun cc hcc => ?_, fun ff hff => (by cases hff)⟩
  simp only [List.mem_cons, List.not_mem_nil, or_false] at hcc
  rcases hcc with rfl | rfl
  · show (0 : Int) ≤ k + -1
    omega
  · show k ≤ p + -2
    omega
theorem rU181_ok (hD : zk_d2 D ua) : zr_okU D rU181 := by
  intro ty H Ls hT hp hc
  obtain ⟨l0, Ls', rfl, p0, hp⟩ := zr_cons hp
  obtain ⟨l1, Ls', rfl, p1, hp⟩ := zr_cons hp
  cases zr_nil hp
  obtain ⟨kd, k, p, rfl, h0⟩ := zd_op hD (by decide) p0
  obtain ⟨u, v, g, rfl, g0, g1⟩ := zd_op hD (by decide) p1
  obtain ⟨qc0, hc⟩ := zc1 hc
  have qc0 : kd ≤ (0 : Int) + 0 := qc0
  obtain ⟨qc1, hc⟩ := zc1 hc
  have qc1 : (0 : Int) ≤ kd + 0 := qc1
  obtain ⟨qc2, hc⟩ := zc1 hc
  have qc2 : u ≤ k + -1 := qc2
  obtain ⟨qc3, hc⟩ := zc1 hc
  have qc3 : k ≤ u + 1 := qc3
  obtain ⟨qc4, hc⟩ := zc1 hc
  have qc4 : v ≤ p + -1 := qc4
  obtain ⟨qc5, hc⟩ := zc1 hc
  have qc5 : p ≤ v + 1 := qc5
  refine ⟨_, List.mem_singleton.mpr rfl, fun cc hcc => (by cases hcc), fun ff hff => ?_⟩
  rw [List.mem_singleton.mp hff]
  refine (hD.1 217 (by decide) _ _ _).mpr ⟨zd_ty hD (by decide) p0, kd, k, p, g, by simp, ?_⟩
  unfold zn_fx
  rw [if_pos (by omega), show k - 1 = u by omega, show p - 1 = v by omega]
  omega
theorem rU182_ok (hD : zk_d2 D ua) : zr_okU D rU182 := by
  intro ty H Ls hT hp hc
  obtain ⟨l0, Ls', rfl, p0, hp⟩ := zr_cons hp
  cases zr_nil hp
  obtain ⟨kd, k, p, rfl, h0⟩ := zd_op hD (by decide) p0
  obtain ⟨qc0, hc⟩ := zc1 hc
  have qc0 : kd ≤ (0 : Int) + 1 := qc0
  obtain ⟨qc1, hc⟩ := zc1 hc
  have qc1 : (0 : Int) ≤ kd + -1 := qc1
  obtain ⟨qc2, hc⟩ := zc1 hc
  have qc2 : k ≤ (0 : Int) + 1 := qc2
  obtain ⟨qc3, hc⟩ := zc1 hc
  have qc3 : (0 : Int) ≤ k + -1 := qc3
  refine ⟨_, List.mem_singleton.mpr rfl, fun cc hcc => (by cases hcc), fun ff hff => ?_⟩
  rw [List.mem_singleton.mp hff]
  refine (hD.1 217 (by decide) _ _ _).mpr ⟨zd_ty hD (by decide) p0, kd, k, p, p - 1, by simp <;> omega, ?_⟩
  unfold zn_fx
  rw [if_neg (by omega), if_pos (by omega), if_pos (by omega)]
theorem rU183_ok (hD : zk_d2 D ua) : zr_okU D rU183 := by
  intro ty H Ls hT hp hc
  obtain ⟨l0, Ls', rfl, p0, hp⟩ := zr_cons hp
  cases zr_nil hp
  obtain ⟨kd, k, p, rfl, h0⟩ := zd_op hD (by decide) p0
  obtain ⟨qc0, hc⟩ := zc1 hc
  have qc0 : kd ≤ (0 : Int) + 1 := qc0
  obtain ⟨qc1, hc⟩ := zc1 hc
  have qc1 : (0 : Int) ≤ kd + -1 := qc1
  obtain ⟨qc2, hc⟩ := zc1 hc
  have qc2 : (0 : Int) ≤ k + -2 := qc2
  refine ⟨_, List.mem_singleton.mpr rfl, fun cc hcc => (by cases hcc), fun ff hff => ?_⟩
  rw [List.mem_singleton.mp hff]
  refine (hD.1 217 (by decide) _ _ _).mpr ⟨zd_ty hD (by decide) p0, kd, k, p, 0, by simp, ?_⟩
  unfold zn_fx
  rw [if_neg (by omega), if_pos (by omega), if_neg (by omega)]
theorem rU184_ok (hD : zk_d2 D ua) : zr_okU D rU184 := by
  intro ty H Ls hT hp hc
  obtain ⟨l0, Ls', rfl, p0, hp⟩ := zr_cons hp
  cases zr_nil hp
  obtain ⟨kd, k, p, rfl, h0⟩ := zd_op hD (by decide) p0
  obtain ⟨qc0, hc⟩ := zc1 hc
  have qc0 : kd ≤ (0 : Int) + 2 := qc0
  obtain ⟨qc1, hc⟩ := zc1 hc
  have qc1 : (0 : Int) ≤ kd + -2 := qc1
  obtain ⟨qc2, hc⟩ := zc1 hc
  have qc2 : k ≤ (0 : Int) + 0 := qc2
  obtain ⟨qc3, hc⟩ := zc1 hc
  have qc3 : (0 : Int) ≤ k + 0 := qc3
  refine ⟨_, List.mem_singleton.mpr rfl, fun cc hcc => (by cases hcc), fun ff hff => ?_⟩
  rw [List.mem_singleton.mp hff]
  refine (hD.1 217 (by decide) _ _ _).mpr ⟨zd_ty hD (by decide) p0, kd, k, p, p - 1, by simp <;> omega, ?_⟩
  unfold zn_fx
  rw [if_neg (by omega), if_neg (by omega), if_pos (by omega)]
theorem rU185_ok (hD : zk_d2 D ua) : zr_okU D rU185 := by
  intro ty H Ls hT hp hc
  obtain ⟨l0, Ls', rfl, p0, hp⟩ := zr_cons hp
  cases zr_nil hp
  obtain ⟨kd, k, p, rfl, h0⟩ := zd_op hD (by decide) p0
  obtain ⟨qc0, hc⟩ := zc1 hc
  have qc0 : kd ≤ (0 : Int) + 2 := qc0
  obtain ⟨qc1, hc⟩ := zc1 hc
  have qc1 : (0 : Int) ≤ kd + -2 := qc1
  obtain ⟨qc2, hc⟩ := zc1 hc
  have qc2 : (0 : Int) ≤ k + -1 := qc2
  refine ⟨_, List.mem_singleton.mpr rfl, fun cc hcc => (by cases hcc), fun ff hff => ?_⟩
  rw [List.mem_singleton.mp hff]
  refine (hD.1 217 (by decide) _ _ _).mpr ⟨zd_ty hD (by decide) p0, kd, k, p, 0, by simp, ?_⟩
  unfold zn_fx
  rw [if_neg (by omega), if_neg (by omega), if_neg (by omega)]
theorem rU186_ok (hD : zk_d2 D ua) : zr_okU D rU186 := by
  intro ty H Ls hT hp hc
  obtain ⟨l0, Ls', rfl, p0, hp⟩ := zr_cons hp
  cases zr_nil hp
  obtain ⟨kd, k, p, rfl, h0⟩ := zd_op hD (by decide) p0
  obtain ⟨qc0, hc⟩ := zc1 hc
  have qc0 : kd ≤ (0 : Int) + 1 := qc0
  obtain ⟨qc1, hc⟩ := zc1 hc
  have qc1 : (0 : Int) ≤ kd + -1 := qc1
  obtain ⟨qc2, hc⟩ := zc1 hc
  have qc2 : k ≤ (0 : Int) + 0 := qc2
  exfalso
  unfold zn_al at h0
  omega
theorem rU194_ok (hD : zk_d2 D ua) : zr_okU D rU194 := by
  intro ty H Ls hT hp hc
  obtain ⟨l0, Ls', rfl, p0, hp⟩ := zr_cons hp
  obtain ⟨l1, Ls', rfl, p1, hp⟩ := zr_cons hp
  cases zr_nil hp
  obtain ⟨kd, k, p, rfl, h0⟩ := zd_op hD (by decide) p0
  obtain ⟨s, rfl⟩ := zd_loc p1
  obtain ⟨qc0, hc⟩ := zc1 hc
  have qc0 : s ≤ (0 : Int) + 0 := qc0
  obtain ⟨qc1, hc⟩ := zc1 hc
  have qc1 : (0 : Int) ≤ s + 0 := qc1
  refine ⟨_, List.mem_singleton.mpr rfl, fun cc hcc => (by cases hcc), fun ff hff => ?_⟩
  rw [List.mem_singleton.mp hff]
  refine (hD.1 212 (by decide) _ _ _).mpr ⟨zd_ty hD (by decide) p0, kd, k, p, by simp, ?_⟩
  exact h0
theorem rU195_ok (hD : zk_d2 D ua) : zr_okU D rU195 := by
  intro ty H Ls hT hp hc
  obtain ⟨l0, Ls', rfl, p0, hp⟩ := zr_cons hp
  obtain ⟨l1, Ls', rfl, p1, hp⟩ := zr_cons hp
  cases zr_nil hp
  obtain ⟨kd, k, p, rfl, h0⟩ := zd_op hD (by decide) p0
  obtain ⟨s, rfl⟩ := zd_loc p1
  obtain ⟨qc0, hc⟩ := zc1 hc
  have qc0 : s ≤ (0 : Int) + 1 := qc0
  obtain ⟨qc1, hc⟩ := zc1 hc
  have qc1 : (0 : Int) ≤ s + -1 := qc1
  refine ⟨_, List.mem_singleton.mpr rfl, fun cc hcc => (by cases hcc), fun ff hff => ?_⟩
  rw [List.mem_singleton.mp hff]
  refine (hD.1 212 (by decide) _ _ _).mpr ⟨zd_ty hD (by decide) p0, kd, k, p, by simp, ?_⟩
  exact h0
theorem rU187_ok (hD : zk_d2 D ua) : zr_okU D rU187 := by
  intro ty H Ls hT hp hc
  obtain ⟨l0, Ls', rfl, p0, hp⟩ := zr_cons hp
  obtain ⟨l1, Ls', rfl, p1, hp⟩ := zr_cons hp
  obtain ⟨l2, Ls', rfl, p2, hp⟩ := zr_cons hp
  obtain ⟨l3, Ls', rfl, p3, hp⟩ := zr_cons hp
  cases zr_nil hp
  obtain ⟨kd, k, p, r, rfl, h0⟩ := zd_op hD (by decide) p0
  obtain ⟨kd0, k0, p0_, rfl, h1⟩ := zd_op hD (by decide) p1
  obtain ⟨kd1, k1, p1_, rfl, h2⟩ := zd_op hD (by decide) p2
  obtain ⟨s, rfl⟩ := zd_loc p3
  obtain ⟨qc0, hc⟩ := zc1 hc
  have qc0 : s ≤ (0 : Int) + 0 := qc0
  obtain ⟨qc1, hc⟩ := zc1 hc
  have qc1 : (0 : Int) ≤ s + 0 := qc1
  obtain ⟨qc2, hc⟩ := zc1 hc
  have qc2 : kd ≤ kd0 + 0 := qc2
  obtain ⟨qc3, hc⟩ := zc1 hc
  have qc3 : kd0 ≤ kd + 0 := qc3
  obtain ⟨qc4, hc⟩ := zc1 hc
  have qc4 : k ≤ k0 + 0 := qc4
  obtain ⟨qc5, hc⟩ := zc1 hc
  have qc5 : k0 ≤ k + 0 := qc5
  obtain ⟨qc6, hc⟩ := zc1 hc
  have qc6 : p ≤ p0_ + 0 := qc6
  obtain ⟨qc7, hc⟩ := zc1 hc
  have qc7 : p0_ ≤ p + 0 := qc7
  refine ⟨_, List.mem_singleton.mpr rfl, fun cc hcc => (by cases hcc), fun ff hff => ?_⟩
  rw [List.mem_singleton.mp hff]
  refine (hD.1 178 (by decide) _ _ _).mpr ⟨zd_ty hD (by decide) p0, s, kd0, k0, p0_, kd1, k1, p1_, r, by simp, ?_⟩
  rw [if_pos (by omega), h0, show kd = kd0 by omega, show k = k0 by omega, show p = p0_ by omega]
theorem rU188_ok (hD : zk_d2 D ua) : zr_okU D rU188 := by
  intro ty H Ls hT hp hc
  obtain ⟨l0, Ls', rfl, p0, hp⟩ := zr_cons hp
  obtain ⟨l1, Ls', rfl, p1, hp⟩ := zr_cons hp
  obtain ⟨l2, Ls', rfl, p2, hp⟩ := zr_cons hp
  obtain ⟨l3, Ls', rfl, p3, hp⟩ := zr_cons hp
  cases zr_nil hp
  obtain ⟨kd, k, p, r, rfl, h0⟩ := zd_op hD (by decide) p0
  obtain ⟨kd0, k0, p0_, rfl, h1⟩ := zd_op hD (by decide) p1
  obtain ⟨kd1, k1, p1_, rfl, h2⟩ := zd_op hD (by decide) p2
  obtain ⟨s, rfl⟩ := zd_loc p3
  obtain ⟨qc0, hc⟩ := zc1 hc
  have qc0 : s ≤ (0 : Int) + 1 := qc0
  obtain ⟨qc1, hc⟩ := zc1 hc
  have qc1 : (0 : Int) ≤ s + -1 := qc1
  obtain ⟨qc2, hc⟩ := zc1 hc
  have qc2 : kd ≤ kd1 + 0 := qc2
  obtain ⟨qc3, hc⟩ := zc1 hc
  have qc3 : kd1 ≤ kd + 0 := qc3
  obtain ⟨qc4, hc⟩ := zc1 hc
  have qc4 : k ≤ k1 + 0 := qc4
  obtain ⟨qc5, hc⟩ := zc1 hc
  have qc5 : k1 ≤ k + 0 := qc5
  obtain ⟨qc6, hc⟩ := zc1 hc
  have qc6 : p ≤ p1_ + 0 := qc6
  obtain ⟨qc7, hc⟩ := zc1 hc
  have qc7 : p1_ ≤ p + 0 := qc7
  refine ⟨_, List.mem_singleton.mpr rfl, fun cc hcc => (by cases hcc), fun ff hff => ?_⟩
  rw [List.mem_singleton.mp hff]
  refine (hD.1 178 (by decide) _ _ _).mpr ⟨zd_ty hD (by decide) p0, s, kd0, k0, p0_, kd1, k1, p1_, r, by simp, ?_⟩
  rw [if_neg (by omega), if_pos (by omega), h0, show kd = kd1 by omega, show k = k1 by omega, show p = p1_ by omega]
theorem rU189_ok (hD : zk_d2 D ua) : zr_okU D rU189 := by
  intro ty H Ls hT hp hc
  obtain ⟨l0, Ls', rfl, p0, hp⟩ := zr_cons hp
  obtain ⟨l1, Ls', rfl, p1, hp⟩ := zr_cons hp
  obtain ⟨l2, Ls', rfl, p2, hp⟩ := zr_cons hp
  cases zr_nil hp
  obtain ⟨kd0, k0, p0_, rfl, h1⟩ := zd_op hD (by decide) p0
  obtain ⟨kd1, k1, p1_, rfl, h2⟩ := zd_op hD (by decide) p1
  obtain ⟨s, rfl⟩ := zd_loc p2
  obtain ⟨qc0, hc⟩ := zc1 hc
  have qc0 : s ≤ (0 : Int) + -1 := qc0
  refine ⟨_, List.mem_singleton.mpr rfl, fun cc hcc => (by cases hcc), fun ff hff => ?_⟩
  rw [List.mem_singleton.mp hff]
  refine (hD.1 178 (by decide) _ _ _).mpr ⟨zd_ty hD (by decide) p0, s, kd0, k0, p0_, kd1, k1, p1_, -2, by simp, ?_⟩
  rw [if_neg (by omega), if_neg (by omega)]
theorem rU190_ok (hD : zk_d2 D ua) : zr_okU D rU190 := by
  intro ty H Ls hT hp hc
  obtain ⟨l0, Ls', rfl, p0, hp⟩ := zr_cons hp
  obtain ⟨l1, Ls', rfl, p1, hp⟩ := zr_cons hp
  obtain ⟨l2, Ls', rfl, p2, hp⟩ := zr_cons hp
  cases zr_nil hp
  obtain ⟨kd0, k0, p0_, rfl, h1⟩ := zd_op hD (by decide) p0
  obtain ⟨kd1, k1, p1_, rfl, h2⟩ := zd_op hD (by decide) p1
  obtain ⟨s, rfl⟩ := zd_loc p2
  obtain ⟨qc0, hc⟩ := zc1 hc
  have qc0 : (0 : Int) ≤ s + -2 := qc0
  refine ⟨_, List.mem_singleton.mpr rfl, fun cc hcc => (by cases hcc), fun ff hff => ?_⟩
  rw [List.mem_singleton.mp hff]
  refine (hD.1 178 (by decide) _ _ _).mpr ⟨zd_ty hD (by decide) p0, s, kd0, k0, p0_, kd1, k1, p1_, -2, by simp, ?_⟩
  rw [if_neg (by omega), if_neg (by omega)]
theorem rU196_ok (hD : zk_d2 D ua) : zr_okU D rU196 := by
  intro ty H Ls hT hp hc
  obtain ⟨l0, Ls', rfl, p0, hp⟩ := zr_cons hp
  obtain ⟨l1, Ls', rfl, p1, hp⟩ := zr_cons hp
  obtain ⟨l2, Ls', rfl, p2, hp⟩ := zr_cons hp
  obtain ⟨l3, Ls', rfl, p3, hp⟩ := zr_cons hp
  cases zr_nil hp
  obtain ⟨kd, k, p, r, rfl, h0⟩ := zd_op hD (by decide) p0
  obtain ⟨kd0, k0, p0_, rfl, h1⟩ := zd_op hD (by decide) p1
  obtain ⟨kd1, k1, p1_, rfl, h2⟩ := zd_op hD (by decide) p2
  obtain ⟨s, rfl⟩ := zd_loc p3
  obtain ⟨qc0, hc⟩ := zc1 hc
  have qc0 : s ≤ (0 : Int) + 0 := qc0
  obtain ⟨qc1, hc⟩ := zc1 hc
  have qc1 : (0 : Int) ≤ s + 0 := qc1
  obtain ⟨qc2, hc⟩ := zc1 hc
  have qc2 : kd ≤ kd0 + 0 := qc2
  obtain ⟨qc3, hc⟩ := zc1 hc
  have qc3 : kd0 ≤ kd + 0 := qc3
  obtain ⟨qc4, hc⟩ := zc1 hc
  have qc4 : k ≤ k0 + 0 := qc4
  obtain ⟨qc5, hc⟩ := zc1 hc
  have qc5 : k0 ≤ k + 0 := qc5
  obtain ⟨qc6, hc⟩ := zc1 hc
  have qc6 : p ≤ p0_ + 0 := qc6
  obtain ⟨qc7, hc⟩ := zc1 hc
  have qc7 : p0_ ≤ p + 0 := qc7
  refine ⟨_, List.mem_singleton.mpr rfl, fun cc hcc => (by cases hcc), fun ff hff => ?_⟩
  rw [List.mem_singleton.mp hff]
  refine (hD.1 179 (by decide) _ _ _).mpr ⟨zd_ty hD (by decide) p0, s, kd0, k0, p0_, kd1, k1, p1_, r, by simp, ?_⟩
  rw [if_pos (by omega), h0, show kd = kd0 by omega, show k = k0 by omega, show p = p0_ by omega]
theorem rU197_ok (hD : zk_d2 D ua) : zr_okU D rU197 := by
  intro ty H Ls hT hp hc
  obtain ⟨l0, Ls', rfl, p0, hp⟩ := zr_cons hp
  obtain ⟨l1, Ls', rfl, p1, hp⟩ := zr_cons hp
  obtain ⟨l2, Ls', rfl, p2, hp⟩ := zr_cons hp
  obtain ⟨l3, Ls', rfl, p3, hp⟩ := zr_cons hp
  cases zr_nil hp
  obtain ⟨kd, k, p, r, rfl, h0⟩ := zd_op hD (by decide) p0
  obtain ⟨kd0, k0, p0_, rfl, h1⟩ := zd_op hD (by decide) p1
  obtain ⟨kd1, k1, p1_, rfl, h2⟩ := zd_op hD (by decide) p2
  obtain ⟨s, rfl⟩ := zd_loc p3
  obtain ⟨qc0, hc⟩ := zc1 hc
  have qc0 : s ≤ (0 : Int) + 1 := qc0
  obtain ⟨qc1, hc⟩ := zc1 hc
  have qc1 : (0 : Int) ≤ s + -1 := qc1
  obtain ⟨qc2, hc⟩ := zc1 hc
  have qc2 : kd ≤ kd1 + 0 := qc2
  obtain ⟨qc3, hc⟩ := zc1 hc
  have qc3 : kd1 ≤ kd + 0 := qc3
  obtain ⟨qc4, hc⟩ := zc1 hc
  have qc4 : k ≤ k1 + 0 := qc4
  obtain ⟨qc5, hc⟩ := zc1 hc
  have qc5 : k1 ≤ k + 0 := qc5
  obtain ⟨qc6, hc⟩ := zc1 hc
  have qc6 : p ≤ p1_ + 0 := qc6
  obtain ⟨qc7, hc⟩ := zc1 hc
  have qc7 : p1_ ≤ p + 0 := qc7
  refine ⟨_, List.mem_singleton.mpr rfl, fun cc hcc => (by cases hcc), fun ff hff => ?_⟩
  rw [List.mem_singleton.mp hff]
  refine (hD.1 179 (by decide) _ _ _).mpr ⟨zd_ty hD (by decide) p0, s, kd0, k0, p0_, kd1, k1, p1_, r, by simp, ?_⟩
  rw [if_neg (by omega), if_pos (by omega), h0, show kd = kd1 by omega, show k = k1 by omega, show p = p1_ by omega]
theorem rU198_ok (hD : zk_d2 D ua) : zr_okU D rU198 := by
  intro ty H Ls hT hp hc
  obtain ⟨l0, Ls', rfl, p0, hp⟩ := zr_cons hp
  obtain ⟨l1, Ls', rfl, p1, hp⟩ := zr_cons hp
  obtain ⟨l2, Ls', rfl, p2, hp⟩ := zr_cons hp
  cases zr_nil hp
  obtain ⟨kd0, k0, p0_, rfl, h1⟩ := zd_op hD (by decide) p0
  obtain ⟨kd1, k1, p1_, rfl, h2⟩ := zd_op hD (by decide) p1
  obtain ⟨s, rfl⟩ := zd_loc p2
  obtain ⟨qc0, hc⟩ := zc1 hc
  have qc0 : s ≤ (0 : Int) + -1 := qc0
  refine ⟨_, List.mem_singleton.mpr rfl, fun cc hcc => (by cases hcc), fun ff hff => ?_⟩
  rw [List.mem_singleton.mp hff]
  refine (hD.1 179 (by decide) _ _ _).mpr ⟨zd_ty hD (by decide) p0, s, kd0, k0, p0_, kd1, k1, p1_, -2, by simp, ?_⟩
  rw [if_neg (by omega), if_neg (by omega)]
theorem rU199_ok (hD : zk_d2 D ua) : zr_okU D rU199 := by
  intro ty H Ls hT hp hc
  obtain ⟨l0, Ls', rfl, p0, hp⟩ := zr_cons hp
  obtain ⟨l1, Ls', rfl, p1, hp⟩ := zr_cons hp
  obtain ⟨l2, Ls', rfl, p2, hp⟩ := zr_cons hp
  cases zr_nil hp
  obtain ⟨kd0, k0, p0_, rfl, h1⟩ := zd_op hD (by decide) p0
  obtain ⟨kd1, k1, p1_, rfl, h2⟩ := zd_op hD (by decide) p1
  obtain ⟨s, rfl⟩ := zd_loc p2
  obtain ⟨qc0, hc⟩ := zc1 hc
  have qc0 : (0 : Int) ≤ s + -2 := qc0
  refine ⟨_, List.mem_singleton.mpr rfl, fun cc hcc => (by cases hcc), fun ff hff => ?_⟩
  rw [List.mem_singleton.mp hff]
  refine (hD.1 179 (by decide) _ _ _).mpr ⟨zd_ty hD (by decide) p0, s, kd0, k0, p0_, kd1, k1, p1_, -2, by simp, ?_⟩
  rw [if_neg (by omega), if_neg (by omega)]
theorem rU200_ok (hD : zk_d2 D ua) : zr_okU D rU200 := by
  intro ty H Ls hT hp hc
  obtain ⟨l0, Ls', rfl, p0, hp⟩ := zr_cons hp
  obtain ⟨l1, Ls', rfl, p1, hp⟩ := zr_cons hp
  cases zr_nil hp
  obtain ⟨s, kd0, k0, p0_, kd1, k1, p1_, r, rfl, h0⟩ := zd_op hD (by decide) p0
  obtain ⟨sx, kd0x, k0x, p0_x, kd1x, k1x, p1_x, r1, rfl, h1⟩ := zd_op hD (by decide) p1
  obtain ⟨qc0, hc⟩ := zc1 hc
  have qc0 : sx ≤ s + 0 := qc0
  obtain ⟨qc1, hc⟩ := zc1 hc
  have qc1 : s ≤ sx + 0 := qc1
  obtain ⟨qc2, hc⟩ := zc1 hc
  have qc2 : kd0x ≤ kd0 + 0 := qc2
  obtain ⟨qc3, hc⟩ := zc1 hc
  have qc3 : kd0 ≤ kd0x + 0 := qc3
  obtain ⟨qc4, hc⟩ := zc1 hc
  have qc4 : k0x ≤ k0 + 0 := qc4
  obtain ⟨qc5, hc⟩ := zc1 hc
  have qc5 : k0 ≤ k0x + 0 := qc5
  obtain ⟨qc6, hc⟩ := zc1 hc
  have qc6 : p0_x ≤ p0_ + 0 := qc6
  obtain ⟨qc7, hc⟩ := zc1 hc
  have qc7 : p0_ ≤ p0_x + 0 := qc7
  obtain ⟨qc8, hc⟩ := zc1 hc
  have qc8 : kd1x ≤ kd1 + 0 := qc8
  obtain ⟨qc9, hc⟩ := zc1 hc
  have qc9 : kd1 ≤ kd1x + 0 := qc9
  obtain ⟨qc10, hc⟩ := zc1 hc
  have qc10 : k1x ≤ k1 + 0 := qc10
  obtain ⟨qc11, hc⟩ := zc1 hc
  have qc11 : k1 ≤ k1x + 0 := qc11
  obtain ⟨qc12, hc⟩ := zc1 hc
  have qc12 : p1_x ≤ p1_ + 0 := qc12
  obtain ⟨qc13, hc⟩ := zc1 hc
  have qc13 : p1_ ≤ p1_x + 0 := qc13
  rw [show sx = s by omega, show kd0x = kd0 by omega, show k0x = k0 by omega, show p0_x = p0_ by omega, show kd1x = kd1 by omega, show k1x = k1 by omega, show p1_x = p1_ by omega] at h1
  refine ⟨_, List.mem_singleton.mpr rfl, fun cc hcc => ?_, fun ff hff => (by cases hff)⟩
  simp only [List.mem_cons, List.not_mem_nil, or_false] at hcc
  rcases hcc with rfl | rfl
  · show r ≤ r1 + 0
    omega
  · show r1 ≤ r + 0
    omega
end
