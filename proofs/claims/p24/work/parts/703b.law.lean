/-! THE LAW, 4: the texts differ. -/
def zs_pr0 : List (Nat × Nat × Nat) := [(0, 1, 25), (0, 2, 36), (1, 2, 37), (0, 3, 47), (1, 3, 48), (2, 3, 49), (0, 4, 57), (1, 4, 58), (2, 4, 59), (3, 4, 60), (0, 5, 68), (1, 5, 69), (2, 5, 70), (3, 5, 71), (4, 5, 72)]
theorem zs_pr0_ok : ∀ q ∈ zs_pr0, (flatC (Jvm.Cond.and given_1 narrow_1))[q.2.2]? = some (Cond.not (Cond.eq (zs_tm q.1) (zs_tm q.2.1))) := by decide +kernel
def zs_pr1 : List (Nat × Nat × Nat) := [(0, 6, 82), (1, 6, 83), (2, 6, 84), (3, 6, 85), (4, 6, 86), (5, 6, 87), (0, 7, 97), (1, 7, 98), (2, 7, 99), (3, 7, 100), (4, 7, 101), (5, 7, 102), (6, 7, 103), (0, 8, 113), (1, 8, 114)]
theorem zs_pr1_ok : ∀ q ∈ zs_pr1, (flatC (Jvm.Cond.and given_1 narrow_1))[q.2.2]? = some (Cond.not (Cond.eq (zs_tm q.1) (zs_tm q.2.1))) := by decide +kernel
def zs_pr2 : List (Nat × Nat × Nat) := [(2, 8, 115), (3, 8, 116), (4, 8, 117), (5, 8, 118), (6, 8, 119), (7, 8, 120), (0, 9, 130), (1, 9, 131), (2, 9, 132), (3, 9, 133), (4, 9, 134), (5, 9, 135), (6, 9, 136), (7, 9, 137), (8, 9, 138)]
theorem zs_pr2_ok : ∀ q ∈ zs_pr2, (flatC (Jvm.Cond.and given_1 narrow_1))[q.2.2]? = some (Cond.not (Cond.eq (zs_tm q.1) (zs_tm q.2.1))) := by decide +kernel
def zs_pr3 : List (Nat × Nat × Nat) := [(0, 10, 149), (1, 10, 150), (2, 10, 151), (3, 10, 152), (4, 10, 153), (5, 10, 154), (6, 10, 155), (7, 10, 156), (8, 10, 157), (9, 10, 158), (0, 11, 167), (1, 11, 168), (2, 11, 169), (3, 11, 170), (4, 11, 171)]
theorem zs_pr3_ok : ∀ q ∈ zs_pr3, (flatC (Jvm.Cond.and given_1 narrow_1))[q.2.2]? = some (Cond.not (Cond.eq (zs_tm q.1) (zs_tm q.2.1))) := by decide +kernel
def zs_pr4 : List (Nat × Nat × Nat) := [(5, 11, 172), (6, 11, 173), (7, 11, 174), (8, 11, 175), (9, 11, 176), (10, 11, 177), (0, 12, 187), (1, 12, 188), (2, 12, 189), (3, 12, 190), (4, 12, 191), (5, 12, 192), (6, 12, 193), (7, 12, 194), (8, 12, 195)]
theorem zs_pr4_ok : ∀ q ∈ zs_pr4, (flatC (Jvm.Cond.and given_1 narrow_1))[q.2.2]? = some (Cond.not (Cond.eq (zs_tm q.1) (zs_tm q.2.1))) := by decide +kernel
def zs_pr5 : List (Nat × Nat × Nat) := [(9, 12, 196), (10, 12, 197), (11, 12, 198), (0, 13, 207), (1, 13, 208), (2, 13, 209), (3, 13, 210), (4, 13, 211), (5, 13, 212), (6, 13, 213), (7, 13, 214), (8, 13, 215), (9, 13, 216), (10, 13, 217), (11, 13, 218)]
theorem zs_pr5_ok : ∀ q ∈ zs_pr5, (flatC (Jvm.Cond.and given_1 narrow_1))[q.2.2]? = some (Cond.not (Cond.eq (zs_tm q.1) (zs_tm q.2.1))) := by decide +kernel
def zs_pr6 : List (Nat × Nat × Nat) := [(12, 13, 219), (0, 14, 302), (1, 14, 303), (2, 14, 304), (3, 14, 305), (4, 14, 306), (5, 14, 307), (6, 14, 308), (7, 14, 309), (8, 14, 310), (9, 14, 311), (10, 14, 312), (11, 14, 313), (12, 14, 314), (13, 14, 315)]
theorem zs_pr6_ok : ∀ q ∈ zs_pr6, (flatC (Jvm.Cond.and given_1 narrow_1))[q.2.2]? = some (Cond.not (Cond.eq (zs_tm q.1) (zs_tm q.2.1))) := by decide +kernel
def zs_pr : List (Nat × Nat × Nat) := zs_pr0 ++ (zs_pr1 ++ (zs_pr2 ++ (zs_pr3 ++ (zs_pr4 ++ (zs_pr5 ++ (zs_pr6))))))
theorem zs_pr_ok : ∀ q ∈ zs_pr, (flatC (Jvm.Cond.and given_1 narrow_1))[q.2.2]? = some (Cond.not (Cond.eq (zs_tm q.1) (zs_tm q.2.1))) := List.forall_mem_append.mpr ⟨zs_pr0_ok, List.forall_mem_append.mpr ⟨zs_pr1_ok, List.forall_mem_append.mpr ⟨zs_pr2_ok, List.forall_mem_append.mpr ⟨zs_pr3_ok, List.forall_mem_append.mpr ⟨zs_pr4_ok, List.forall_mem_append.mpr ⟨zs_pr5_ok, zs_pr6_ok⟩⟩⟩⟩⟩⟩
theorem zs_pr_all : ∀ i, i < 15 → ∀ j, j < 15 → i ≠ j → (∃ q ∈ zs_pr, q.1 = i ∧ q.2.1 = j) ∨ ∃ q ∈ zs_pr, q.1 = j ∧ q.2.1 = i := by decide +kernel
theorem zs_n6 : ∀ i, i < 15 → ∀ j, j < 15 → i ≠ j → Cond.not (Cond.eq (zs_tm i) (zs_tm j)) ∈ flatC (Jvm.Cond.and given_1 narrow_1) ∨ Cond.not (Cond.eq (zs_tm j) (zs_tm i)) ∈ flatC (Jvm.Cond.and given_1 narrow_1) := by
  intro i hi j hj hn
  rcases zs_pr_all i hi j hj hn with ⟨q, hq, rfl, rfl⟩ | ⟨q, hq, rfl, rfl⟩
  · exact Or.inl (List.mem_of_getElem? (zs_pr_ok q hq))
  · exact Or.inr (List.mem_of_getElem? (zs_pr_ok q hq))
