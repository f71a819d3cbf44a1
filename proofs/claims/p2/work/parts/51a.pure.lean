/-! THE FACTS, 1: what is told of the heap's places, as pure statements about numbers. ua: where the one cell of a type lies. -/
theorem zr_cons {D : zD} {ty : Nat → Nat} {H : Heap} {p : zRp} {ps : List zRp} {Ls : List (List Int)} (h : zr_all D ty H (p :: ps) Ls) : ∃ l Ls', Ls = l :: Ls' ∧ zr_pr D ty H p l ∧ zr_all D ty H ps Ls' := by
  cases Ls with
  | nil => exact absurd h (by simp [zr_all])
  | cons l Ls' => exact ⟨l, Ls', rfl, h.1, h.2⟩
theorem zr_nil {D : zD} {ty : Nat → Nat} {H : Heap} {Ls : List (List Int)} (h : zr_all D ty H [] Ls) : Ls = [] := by
  cases Ls with
  | nil => rfl
  | cons l Ls' => exact absurd h (by simp [zr_all])
theorem zk_T_RO {D : zD} {ty : Nat → Nat} {H : Heap} {a t : Nat} (hT : zk_T D ty H) (h : ty a = t + 1) (h9 : (D.TT t).1 ≠ 9) : D.RO t a := by
  have g := hT.2 a t h
  rw [if_neg h9] at g
  exact g.1.2
/-- lines 0 .. k - 1 of the way: 12 and 13 have a second bag -/
def zf_ln (ua : Nat → Nat) (F : Nat → Nat → Int) (o : Nat) (k : Int) : Prop := ∀ j : Nat, (j : Int) < k → (F (ua 86) (o + j) ≤ 5 ∨ 12 ≤ F (ua 86) (o + j)) → 0 ≤ F (ua 88) (o + j)
/-- the two ways: their acts and second numbers; 6 and 7 have a bag there. e: what is left out -/
def zf_wy (ua : Nat → Nat) (dI : Nat → Nat → Nat) (F : Nat → Nat → Int) (e : Nat → Nat → Prop) : Prop := ∀ p, p = 0 ∨ p = 1 → F (ua (1000 + p)) (dI 10 1) = (ua (1010 + p) : Int) ∧ F (ua (1000 + p)) (dI 10 3) = (ua (1020 + p) : Int) ∧ ∀ j : Nat, ¬ e (ua (1000 + p)) j → 6 ≤ F (ua (1010 + p)) j → F (ua (1020 + p)) j ≤ 7
def zPP (ua : Nat → Nat) (dI : Nat → Nat → Nat) (j : Nat) (F : Nat → Nat → Int) (vs : List Int) : Prop :=
  if j = 102 then vs = [] ∧ F (ua 84) 0 ≤ 30 ∧ zf_ln ua F 0 (F (ua 84) 0)
  else if j = 103 then vs = [] ∧ F (ua 84) 1 ≤ 30 ∧ zf_ln ua F 30 (F (ua 84) 1)
  else if j = 104 then ∃ k : Int, vs = [k] ∧ zf_ln ua F 0 k
  else if j = 100 then vs = [] ∧ zf_wy ua dI F (fun _ _ => False)
  else if j = 101 then ∃ x i : Int, vs = [x, i] ∧ zf_wy ua dI F (fun a j => a = x.toNat ∧ j = i.toNat)
  else False
def zUq : List Nat := [84, 86, 88]
def zUa : List Nat := [84, 86, 88, 1000, 1001, 1010, 1011, 1020, 1021]
theorem zUq_a : ∀ t ∈ zUq, t ∈ zUa := by decide
/-- the cells that the facts speak of, with their types -/
def zUt : List (Nat × Nat) := [(84, 84), (86, 86), (88, 88), (1000, 33), (1001, 33), (1010, 53), (1011, 53), (1020, 55), (1021, 55)]
def zty (ua : Nat → Nat) (ty : Nat → Nat) : Prop := ∀ q ∈ zUt, ty (ua q.1) = q.2 + 1
def zk_d2 (D : zD) (ua : Nat → Nat) : Prop := (∀ j, 100 ≤ j → ∀ (ty : Nat → Nat) (H : Heap) (vs : List Int), D.OP j ty H vs ↔ zty ua ty ∧ zPP ua D.dI j (zi H) vs) ∧ (∀ t ∈ zUq, ∀ a, D.RO t a → a = ua t) ∧ (∀ t ∈ zUq, (D.TT t).1 ≠ 9) ∧ (∀ t ∈ zUa, ∀ u ∈ zUa, ua t = ua u → t = u) ∧ (∀ t, (D.TT t).1 = 0 → (D.TT t).1 ≠ 9) ∧ (D.TT 33).1 = 0 ∧ (D.TT 33).2.1 = 10 ∧ ∀ a, D.RO 33 a → a = ua 1000 ∨ a = ua 1001
section
variable {D : zD} {ua : Nat → Nat} {ty : Nat → Nat} {H H' : Heap}
theorem zd_at (hD : zk_d2 D ua) (hT : zk_T D ty H) {x : Int} {t : Nat} (h : ty x.toNat = t + 1) (ht : t ∈ zUq) : x.toNat = ua t := hD.2.1 t ht _ (zk_T_RO hT h (hD.2.2.1 t ht))
theorem zd_em (hD : zk_d2 D ua) (hT : zk_T D ty H) {t : Nat} (ht : t ∈ zUq) {l : List Int} (h : zr_pr D ty H (1, t, 0) l) : ∃ x i v : Int, l = [x, i, v] ∧ 0 ≤ i ∧ zi H (ua t) i.toNat = v := by
  unfold zr_pr at h
  rw [if_neg (show ¬ (1 : Nat) = 0 by decide), if_pos rfl] at h
  obtain ⟨x, i, v, e, -, h1, h2, h3⟩ := h
  exact ⟨x, i, v, e, h2, by rw [← zd_at hD hT h1 ht]; exact h3⟩
theorem zd_op {j : Nat} {l : List Int} (hD : zk_d2 D ua) (hj : 100 ≤ j) (h : zr_pr D ty H (0, j, 0) l) : zPP ua D.dI j (zi H) l := by
  unfold zr_pr at h
  rw [if_pos rfl] at h
  exact ((hD.1 j hj _ _ _).mp h).2
theorem zd_ty {j : Nat} {l : List Int} (hD : zk_d2 D ua) (hj : 100 ≤ j) (h : zr_pr D ty H (0, j, 0) l) : zty ua ty := by
  unfold zr_pr at h
  rw [if_pos rfl] at h
  exact ((hD.1 j hj _ _ _).mp h).1
/-- a store outside -/
theorem zd_ne (hD : zk_d2 D ua) (hT : zk_T D ty H) {a : Int} {t i : Nat} (ha : ty a.toNat = t + 1) (ht : t ∈ zUq) (ho : ∀ b k, ¬ (b = a.toNat ∧ k = i) → zi H' b k = zi H b k) {u k : Nat} (hu : u ∈ zUq) (hn : u ≠ t ∨ k ≠ i) : zi H' (ua u) k = zi H (ua u) k := by
  have e := zd_at hD hT ha ht
  refine ho _ _ (fun z => ?_)
  rcases hn with h | h
  · exact h (hD.2.2.2.1 u (zUq_a u hu) t (zUq_a t ht) (by rw [z.1, e]))
  · exact h z.2
end
section
variable {D : zD} {ua : Nat → Nat}
/-- a store into the one array of a type, as a statement about numbers -/
def zs_A (D : zD) (ua : Nat → Nat) (R : zRs) : Prop := ∀ (ty : Nat → Nat) (H H' : Heap) (w a : Int) (i : Nat) (Ls : List (List Int)), zk_T D ty H → zr_all D ty H R.2.1 Ls → zr_cs (0 :: w :: a :: (i : Int) :: Ls.flatten) R.2.2.1 → zi H' (ua R.1.2.1) i = w → (∀ u k, u ∈ zUq → (u ≠ R.1.2.1 ∨ k ≠ i) → zi H' (ua u) k = zi H (ua u) k) → zPP ua D.dI R.2.2.2.1 (zi H') (R.2.2.2.2.map (fun t => (0 :: w :: a :: (i : Int) :: Ls.flatten).getD t.1 0 + t.2))
theorem zs_A_ok (hD : zk_d2 D ua) {R : zRs} (h1 : R.1.1 = 1) (ht : R.1.2.1 ∈ zUq) (hj : 100 ≤ R.2.2.2.1) (h0 : ∃ j ps, R.2.1 = (0, j, 0) :: ps ∧ 100 ≤ j) (h : zs_A D ua R) : zr_okS D R := by
  intro ty H H' w a i hd Ls hT hT' ha hty hh hp hc hw ho
  rw [if_neg (by rw [h1]; decide)] at hh
  subst hh
  obtain ⟨j0, ps0, e0, h0⟩ := h0
  have hz : zty ua ty := by
    have hp' := hp
    rw [e0] at hp'
    obtain ⟨l0, Ls0, -, p0, -⟩ := zr_cons hp'
    exact zd_ty hD h0 p0
  refine (hD.1 _ hj _ _ _).mpr ⟨hz, ?_⟩
  refine h ty H H' w a i Ls hT hp hc (by rw [← zd_at hD hT hty ht]; exact hw) (fun u k hu hn => zd_ne hD hT hty ht ho hu hn)
theorem zc1 {es : List Int} {c : Nat × Nat × Int} {cs : List (Nat × Nat × Int)} (h : zr_cs es (c :: cs)) : es.getD c.1 0 ≤ es.getD c.2.1 0 + c.2.2 ∧ zr_cs es cs := ⟨h c List.mem_cons_self, fun c' hc' => h c' (List.mem_cons_of_mem _ hc')⟩
/-- a field of one of the ways -/
theorem zd_wy (hD : zk_d2 D ua) {ty : Nat → Nat} {H : Heap} (hT : zk_T D ty H) {k : Nat} {l : List Int} (h : zr_pr D ty H (2, 33, k) l) : ∃ x v : Int, l = [x, v] ∧ 0 ≤ x ∧ (∃ p, (p = 0 ∨ p = 1) ∧ x.toNat = ua (1000 + p)) ∧ zi H x.toNat (D.dI 10 k) = v := by
  unfold zr_pr at h
  rw [if_neg (show ¬ (2 : Nat) = 0 by decide), if_neg (show ¬ (2 : Nat) = 1 by decide)] at h
  obtain ⟨x, v, e, h0, h1, h2⟩ := h
  dsimp only at h1 h2
  rw [hD.2.2.2.2.2.2.1] at h2
  have := hD.2.2.2.2.2.2.2 _ (zk_T_RO hT h1 (by rw [hD.2.2.2.2.2.1]; decide))
  refine ⟨x, v, e, h0, ?_, h2⟩
  rcases this with e | e
  · exact ⟨0, Or.inl rfl, e⟩
  · exact ⟨1, Or.inr rfl, e⟩
theorem zd_pl {ty : Nat → Nat} {H : Heap} {t : Nat} {l : List Int} (h : zr_pr D ty H (1, t, 0) l) : ∃ x i v : Int, l = [x, i, v] ∧ 0 ≤ x ∧ 0 ≤ i ∧ zi H x.toNat i.toNat = v := by
  unfold zr_pr at h
  rw [if_neg (show ¬ (1 : Nat) = 0 by decide), if_pos rfl] at h
  obtain ⟨x, i, v, e, h0, h1, h2, h3⟩ := h
  exact ⟨x, i, v, e, h0, h2, h3⟩
theorem zd_ww (hD : zk_d2 D ua) {t u : Nat} (ht : t ∈ zUa) (hu : u ∈ zUa) (h : t ≠ u) : ua t ≠ ua u := fun e => h (hD.2.2.2.1 t ht u hu e)
end
def rS1_86 : zRs := ((1, 86, 0), [(0, 102, 0)], [(0, 3, -30)], (102, []))
def rS5_86 : zRs := ((1, 86, 0), [(0, 103, 0), (1, 84, 0)], [(5, 0, 1), (0, 5, -1), (6, 3, -30)], (103, []))
def rS7_86 : zRs := ((1, 86, 0), [(0, 103, 0)], [(3, 0, 29)], (103, []))
def rS12_86 : zRs := ((1, 86, 0), [(0, 104, 0)], [(4, 3, 0)], (104, [(4, 0)]))
def rS1_88 : zRs := ((1, 88, 0), [(0, 102, 0)], [(0, 3, -30)], (102, []))
def rS5_88 : zRs := ((1, 88, 0), [(0, 103, 0), (1, 84, 0)], [(5, 0, 1), (0, 5, -1), (6, 3, -30)], (103, []))
def rS7_88 : zRs := ((1, 88, 0), [(0, 103, 0)], [(3, 0, 29)], (103, []))
def rS12_88 : zRs := ((1, 88, 0), [(0, 104, 0)], [(4, 3, 0)], (104, [(4, 0)]))
def rS3 : zRs := ((1, 84, 0), [(0, 102, 0)], [(0, 3, -1)], (102, []))
def rS4 : zRs := ((1, 84, 0), [(0, 102, 0)], [(3, 0, 1), (0, 3, -1), (1, 0, 0)], (103, []))
def rS9 : zRs := ((1, 84, 0), [(0, 103, 0), (1, 84, 0), (1, 86, 0)], [(5, 0, 1), (0, 5, -1), (3, 0, 1), (0, 3, -1), (1, 6, 1), (1, 0, 30), (8, 6, 30), (6, 8, -30), (9, 0, 11), (0, 9, -6)], (103, []))
def rS10 : zRs := ((1, 84, 0), [(0, 103, 0), (1, 84, 0), (1, 88, 0)], [(5, 0, 1), (0, 5, -1), (3, 0, 1), (0, 3, -1), (1, 6, 1), (1, 0, 30), (8, 6, 30), (6, 8, -30), (0, 9, 0)], (103, []))
def rS11 : zRs := ((1, 84, 0), [(0, 103, 0)], [(3, 0, 0)], (103, []))
def rW1 : zRs := ((1, 53, 0), [(0, 100, 0), (2, 33, 1)], [(5, 2, 0), (2, 5, 0)], (101, [(4, 0), (3, 0)]))
def rW2 : zRs := ((1, 55, 0), [(0, 101, 0), (2, 33, 3)], [(6, 4, 0), (4, 6, 0), (7, 2, 0), (2, 7, 0), (3, 5, 0), (5, 3, 0), (1, 0, 7)], (100, []))
def rW3 : zRs := ((1, 55, 0), [(0, 101, 0), (2, 33, 3), (2, 33, 1), (1, 53, 0)], [(6, 4, 0), (4, 6, 0), (7, 2, 0), (2, 7, 0), (3, 5, 0), (5, 3, 0), (8, 4, 0), (4, 8, 0), (10, 9, 0), (9, 10, 0), (11, 5, 0), (5, 11, 0), (12, 0, 5)], (100, []))
def rU10 : zRu := (10, [(0, 103, 0)], [], [([], [(104, [(0, 0)])])])
def rU11 : zRu := (11, [(0, 103, 0), (0, 104, 0), (1, 84, 0), (1, 86, 0), (1, 86, 0), (1, 88, 0), (1, 88, 0)], [(3, 0, 1), (0, 3, -1), (6, 1, 0), (1, 6, 0), (9, 1, 30), (1, 9, -30), (12, 1, 0), (1, 12, 0), (15, 1, 30), (1, 15, -30), (1, 4, -1), (7, 10, 0), (10, 7, 0), (16, 13, 0)], [([], [(104, [(1, 1)])])])
def rU12 : zRu := (12, [(0, 104, 0), (1, 84, 0)], [(3, 0, 0), (4, 1, 0), (4, 0, 30)], [([], [(102, [])])])
def rU13 : zRu := (13, [(0, 102, 0), (1, 84, 0), (1, 86, 0), (1, 88, 0)], [(2, 0, 0), (5, 3, -1), (8, 5, 0), (5, 8, 0), (0, 6, -12)], [([(0, 9, 0)], [])])
def rU14 : zRu := (14, [(0, 102, 0), (1, 84, 0), (1, 86, 0), (1, 88, 0)], [(2, 0, 0), (5, 3, -1), (8, 5, 0), (5, 8, 0), (6, 0, 5)], [([(0, 9, 0)], [])])
def rU20 : zRu := (20, [(0, 100, 0), (2, 33, 1), (1, 53, 0), (2, 33, 3), (1, 55, 0)], [(6, 1, 0), (1, 6, 0), (3, 2, 0), (2, 3, 0), (8, 7, 0), (7, 8, 0), (9, 4, 0), (4, 9, 0), (0, 5, -6)], [([(10, 0, 7)], [])])
def zRSl : List zRs := [rS1_86, rS5_86, rS7_86, rS12_86, rS1_88, rS5_88, rS7_88, rS12_88, rS3, rS4, rS9, rS10, rS11, rW1, rW2, rW3]
def zRUl : List zRu := [rU10, rU11, rU12, rU13, rU14, rU20]
section
variable {D : zD} {ua : Nat → Nat}
theorem rS1_86_ok (hD : zk_d2 D ua) : zr_okS D rS1_86 := by
  refine zs_A_ok hD rfl (by decide) (by decide) ⟨_, _, rfl, by decide⟩ ?_
  intro ty H H' w a i Ls hT hp hc hw hk
  obtain ⟨l0, Ls', rfl, p0, hp⟩ := zr_cons hp
  cases zr_nil hp
  obtain ⟨rfl, h0_1, h0_2⟩ := zd_op hD (by decide) p0
  obtain ⟨c0, hc⟩ := zc1 hc
  have c0 : (0 : Int) ≤ (i : Int) + -30 := c0
  have e0 := hk 84 0 (by decide) (Or.inl (by decide))
  refine ⟨rfl, by rw [e0]; exact h0_1, fun j hj h => ?_⟩
  rw [e0] at hj
  rw [hk 86 _ (by decide) (Or.inr (by omega))] at h
  rw [hk 88 _ (by decide) (Or.inr (by omega))]
  exact h0_2 j hj h
theorem rS5_86_ok (hD : zk_d2 D ua) : zr_okS D rS5_86 := by
  refine zs_A_ok hD rfl (by decide) (by decide) ⟨_, _, rfl, by decide⟩ ?_
  intro ty H H' w a i Ls hT hp hc hw hk
  obtain ⟨l0, Ls', rfl, p0, hp⟩ := zr_cons hp
  obtain ⟨l1, Ls', rfl, p1, hp⟩ := zr_cons hp
  cases zr_nil hp
  obtain ⟨rfl, h0_1, h0_2⟩ := zd_op hD (by decide) p0
  obtain ⟨x, i1, v, rfl, hi1, hv⟩ := zd_em hD hT (by decide) p1
  obtain ⟨c0, hc⟩ := zc1 hc
  have c0 : i1 ≤ (0 : Int) + 1 := c0
  obtain ⟨c1, hc⟩ := zc1 hc
  have c1 : (0 : Int) ≤ i1 + -1 := c1
  obtain ⟨c2, hc⟩ := zc1 hc
  have c2 : v ≤ (i : Int) + -30 := c2
  rw [show i1.toNat = 1 by omega] at hv
  have e0 := hk 84 1 (by decide) (Or.inl (by decide))
  refine ⟨rfl, by rw [e0]; exact h0_1, fun j hj h => ?_⟩
  rw [e0] at hj
  rw [hk 86 _ (by decide) (Or.inr (by omega))] at h
  rw [hk 88 _ (by decide) (Or.inr (by omega))]
  exact h0_2 j hj h
theorem rS7_86_ok (hD : zk_d2 D ua) : zr_okS D rS7_86 := by
  refine zs_A_ok hD rfl (by decide) (by decide) ⟨_, _, rfl, by decide⟩ ?_
  intro ty H H' w a i Ls hT hp hc hw hk
  obtain ⟨l0, Ls', rfl, p0, hp⟩ := zr_cons hp
  cases zr_nil hp
  obtain ⟨rfl, h0_1, h0_2⟩ := zd_op hD (by decide) p0
  obtain ⟨c0, hc⟩ := zc1 hc
  have c0 : (i : Int) ≤ (0 : Int) + 29 := c0
  have e0 := hk 84 1 (by decide) (Or.inl (by decide))
  refine ⟨rfl, by rw [e0]; exact h0_1, fun j hj h => ?_⟩
  rw [e0] at hj
  rw [hk 86 _ (by decide) (Or.inr (by omega))] at h
  rw [hk 88 _ (by decide) (Or.inr (by omega))]
  exact h0_2 j hj h
theorem rS12_86_ok (hD : zk_d2 D ua) : zr_okS D rS12_86 := by
  refine zs_A_ok hD rfl (by decide) (by decide) ⟨_, _, rfl, by decide⟩ ?_
  intro ty H H' w a i Ls hT hp hc hw hk
  obtain ⟨l0, Ls', rfl, p0, hp⟩ := zr_cons hp
  cases zr_nil hp
  obtain ⟨k, rfl, h0_1⟩ := zd_op hD (by decide) p0
  obtain ⟨c0, hc⟩ := zc1 hc
  have c0 : k ≤ (i : Int) + 0 := c0
  refine ⟨k, by simp [rS12_86], fun j hj h => ?_⟩
  rw [hk 86 _ (by decide) (Or.inr (by omega))] at h
  rw [hk 88 _ (by decide) (Or.inr (by omega))]
  exact h0_1 j hj h
theorem rS1_88_ok (hD : zk_d2 D ua) : zr_okS D rS1_88 := by
  refine zs_A_ok hD rfl (by decide) (by decide) ⟨_, _, rfl, by decide⟩ ?_
  intro ty H H' w a i Ls hT hp hc hw hk
  obtain ⟨l0, Ls', rfl, p0, hp⟩ := zr_cons hp
  cases zr_nil hp
  obtain ⟨rfl, h0_1, h0_2⟩ := zd_op hD (by decide) p0
  obtain ⟨c0, hc⟩ := zc1 hc
  have c0 : (0 : Int) ≤ (i : Int) + -30 := c0
  have e0 := hk 84 0 (by decide) (Or.inl (by decide))
  refine ⟨rfl, by rw [e0]; exact h0_1, fun j hj h => ?_⟩
  rw [e0] at hj
  rw [hk 86 _ (by decide) (Or.inr (by omega))] at h
  rw [hk 88 _ (by decide) (Or.inr (by omega))]
  exact h0_2 j hj h
theorem rS5_88_ok (hD : zk_d2 D ua) : zr_okS D rS5_88 := by
  refine zs_A_ok hD rfl (by decide) (by decide) ⟨_, _, rfl, by decide⟩ ?_
  intro ty H H' w a i Ls hT hp hc hw hk
  obtain ⟨l0, Ls', rfl, p0, hp⟩ := zr_cons hp
  obtain ⟨l1, Ls', rfl, p1, hp⟩ := zr_cons hp
  cases zr_nil hp
  obtain ⟨rfl, h0_1, h0_2⟩ := zd_op hD (by decide) p0
  obtain ⟨x, i1, v, rfl, hi1, hv⟩ := zd_em hD hT (by decide) p1
  obtain ⟨c0, hc⟩ := zc1 hc
  have c0 : i1 ≤ (0 : Int) + 1 := c0
  obtain ⟨c1, hc⟩ := zc1 hc
  have c1 : (0 : Int) ≤ i1 + -1 := c1
  obtain ⟨c2, hc⟩ := zc1 hc
  have c2 : v ≤ (i : Int) + -30 := c2
  rw [show i1.toNat = 1 by omega] at hv
  have e0 := hk 84 1 (by decide) (Or.inl (by decide))
  refine ⟨rfl, by rw [e0]; exact h0_1, fun j hj h => ?_⟩
  rw [e0] at hj
  rw [hk 86 _ (by decide) (Or.inr (by omega))] at h
  rw [hk 88 _ (by decide) (Or.inr (by omega))]
  exact h0_2 j hj h
theorem rS7_88_ok (hD : zk_d2 D ua) : zr_okS D rS7_88 := by
  refine zs_A_ok hD rfl (by decide) (by decide) ⟨_, _, rfl, by decide⟩ ?_
  intro ty H H' w a i Ls hT hp hc hw hk
  obtain ⟨l0, Ls', rfl, p0, hp⟩ := zr_cons hp
  cases zr_nil hp
  obtain ⟨rfl, h0_1, h0_2⟩ := zd_op hD (by decide) p0
  obtain ⟨c0, hc⟩ := zc1 hc
  have c0 : (i : Int) ≤ (0 : Int) + 29 := c0
  have e0 := hk 84 1 (by decide) (Or.inl (by decide))
  refine ⟨rfl, by rw [e0]; exact h0_1, fun j hj h => ?_⟩
  rw [e0] at hj
  rw [hk 86 _ (by decide) (Or.inr (by omega))] at h
  rw [hk 88 _ (by decide) (Or.inr (by omega))]
  exact h0_2 j hj h
theorem rS12_88_ok (hD : zk_d2 D ua) : zr_okS D rS12_88 := by
  refine zs_A_ok hD rfl (by decide) (by decide) ⟨_, _, rfl, by decide⟩ ?_
  intro ty H H' w a i Ls hT hp hc hw hk
  obtain ⟨l0, Ls', rfl, p0, hp⟩ := zr_cons hp
  cases zr_nil hp
  obtain ⟨k, rfl, h0_1⟩ := zd_op hD (by decide) p0
  obtain ⟨c0, hc⟩ := zc1 hc
  have c0 : k ≤ (i : Int) + 0 := c0
  refine ⟨k, by simp [rS12_88], fun j hj h => ?_⟩
  rw [hk 86 _ (by decide) (Or.inr (by omega))] at h
  rw [hk 88 _ (by decide) (Or.inr (by omega))]
  exact h0_1 j hj h
theorem rS3_ok (hD : zk_d2 D ua) : zr_okS D rS3 := by
  refine zs_A_ok hD rfl (by decide) (by decide) ⟨_, _, rfl, by decide⟩ ?_
  intro ty H H' w a i Ls hT hp hc hw hk
  obtain ⟨l0, Ls', rfl, p0, hp⟩ := zr_cons hp
  cases zr_nil hp
  obtain ⟨rfl, h0_1, h0_2⟩ := zd_op hD (by decide) p0
  obtain ⟨c0, hc⟩ := zc1 hc
  have c0 : (0 : Int) ≤ (i : Int) + -1 := c0
  have e0 := hk 84 0 (by decide) (Or.inr (by omega))
  refine ⟨rfl, by rw [e0]; exact h0_1, fun j hj h => ?_⟩
  rw [e0] at hj
  rw [hk 86 _ (by decide) (Or.inl (by decide))] at h
  rw [hk 88 _ (by decide) (Or.inl (by decide))]
  exact h0_2 j hj h
theorem rS4_ok (hD : zk_d2 D ua) : zr_okS D rS4 := by
  refine zs_A_ok hD rfl (by decide) (by decide) ⟨_, _, rfl, by decide⟩ ?_
  intro ty H H' w a i Ls hT hp hc hw hk
  obtain ⟨l0, Ls', rfl, p0, hp⟩ := zr_cons hp
  cases zr_nil hp
  obtain ⟨rfl, h0_1, h0_2⟩ := zd_op hD (by decide) p0
  obtain ⟨c0, hc⟩ := zc1 hc
  have c0 : (i : Int) ≤ (0 : Int) + 1 := c0
  obtain ⟨c1, hc⟩ := zc1 hc
  have c1 : (0 : Int) ≤ (i : Int) + -1 := c1
  obtain ⟨c2, hc⟩ := zc1 hc
  have c2 : w ≤ (0 : Int) + 0 := c2
  have e : i = 1 := by omega
  subst e
  have hw : zi H' (ua 84) 1 = w := hw
  refine ⟨rfl, by omega, fun j hj h => ?_⟩
  omega
theorem rS9_ok (hD : zk_d2 D ua) : zr_okS D rS9 := by
  refine zs_A_ok hD rfl (by decide) (by decide) ⟨_, _, rfl, by decide⟩ ?_
  intro ty H H' w a i Ls hT hp hc hw hk
  obtain ⟨l0, Ls', rfl, p0, hp⟩ := zr_cons hp
  obtain ⟨l1, Ls', rfl, p1, hp⟩ := zr_cons hp
  obtain ⟨l2, Ls', rfl, p2, hp⟩ := zr_cons hp
  cases zr_nil hp
  obtain ⟨rfl, h0_1, h0_2⟩ := zd_op hD (by decide) p0
  obtain ⟨x, i1, v, rfl, hi1, hv⟩ := zd_em hD hT (by decide) p1
  obtain ⟨x2, i2, v2, rfl, hi2, hv2⟩ := zd_em hD hT (by decide) p2
  obtain ⟨c0, hc⟩ := zc1 hc
  have c0 : i1 ≤ (0 : Int) + 1 := c0
  obtain ⟨c1, hc⟩ := zc1 hc
  have c1 : (0 : Int) ≤ i1 + -1 := c1
  obtain ⟨c2, hc⟩ := zc1 hc
  have c2 : (i : Int) ≤ (0 : Int) + 1 := c2
  obtain ⟨c3, hc⟩ := zc1 hc
  have c3 : (0 : Int) ≤ (i : Int) + -1 := c3
  obtain ⟨c4, hc⟩ := zc1 hc
  have c4 : w ≤ v + 1 := c4
  obtain ⟨c5, hc⟩ := zc1 hc
  have c5 : w ≤ (0 : Int) + 30 := c5
  obtain ⟨c6, hc⟩ := zc1 hc
  have c6 : i2 ≤ v + 30 := c6
  obtain ⟨c7, hc⟩ := zc1 hc
  have c7 : v ≤ i2 + -30 := c7
  obtain ⟨c8, hc⟩ := zc1 hc
  have c8 : v2 ≤ (0 : Int) + 11 := c8
  obtain ⟨c9, hc⟩ := zc1 hc
  have c9 : (0 : Int) ≤ v2 + -6 := c9
  rw [show i1.toNat = 1 by omega] at hv
  have e : i = 1 := by omega
  subst e
  have hw : zi H' (ua 84) 1 = w := hw
  refine ⟨rfl, by omega, fun j hj h => ?_⟩
  rw [hk 86 _ (by decide) (Or.inl (by decide))] at h
  rw [hk 88 _ (by decide) (Or.inl (by decide))]
  by_cases e : (j : Int) < v
  · exact h0_2 j (by omega) h
  · rw [show i2.toNat = 30 + j by omega] at hv2
    omega
theorem rS10_ok (hD : zk_d2 D ua) : zr_okS D rS10 := by
  refine zs_A_ok hD rfl (by decide) (by decide) ⟨_, _, rfl, by decide⟩ ?_
  intro ty H H' w a i Ls hT hp hc hw hk
  obtain ⟨l0, Ls', rfl, p0, hp⟩ := zr_cons hp
  obtain ⟨l1, Ls', rfl, p1, hp⟩ := zr_cons hp
  obtain ⟨l2, Ls', rfl, p2, hp⟩ := zr_cons hp
  cases zr_nil hp
  obtain ⟨rfl, h0_1, h0_2⟩ := zd_op hD (by decide) p0
  obtain ⟨x, i1, v, rfl, hi1, hv⟩ := zd_em hD hT (by decide) p1
  obtain ⟨x2, i2, v2, rfl, hi2, hv2⟩ := zd_em hD hT (by decide) p2
  obtain ⟨c0, hc⟩ := zc1 hc
  have c0 : i1 ≤ (0 : Int) + 1 := c0
  obtain ⟨c1, hc⟩ := zc1 hc
  have c1 : (0 : Int) ≤ i1 + -1 := c1
  obtain ⟨c2, hc⟩ := zc1 hc
  have c2 : (i : Int) ≤ (0 : Int) + 1 := c2
  obtain ⟨c3, hc⟩ := zc1 hc
  have c3 : (0 : Int) ≤ (i : Int) + -1 := c3
  obtain ⟨c4, hc⟩ := zc1 hc
  have c4 : w ≤ v + 1 := c4
  obtain ⟨c5, hc⟩ := zc1 hc
  have c5 : w ≤ (0 : Int) + 30 := c5
  obtain ⟨c6, hc⟩ := zc1 hc
  have c6 : i2 ≤ v + 30 := c6
  obtain ⟨c7, hc⟩ := zc1 hc
  have c7 : v ≤ i2 + -30 := c7
  obtain ⟨c8, hc⟩ := zc1 hc
  have c8 : (0 : Int) ≤ v2 + 0 := c8
  rw [show i1.toNat = 1 by omega] at hv
  have e : i = 1 := by omega
  subst e
  have hw : zi H' (ua 84) 1 = w := hw
  refine ⟨rfl, by omega, fun j hj h => ?_⟩
  rw [hk 86 _ (by decide) (Or.inl (by decide))] at h
  rw [hk 88 _ (by decide) (Or.inl (by decide))]
  by_cases e : (j : Int) < v
  · exact h0_2 j (by omega) h
  · rw [show i2.toNat = 30 + j by omega] at hv2
    omega
theorem rS11_ok (hD : zk_d2 D ua) : zr_okS D rS11 := by
  refine zs_A_ok hD rfl (by decide) (by decide) ⟨_, _, rfl, by decide⟩ ?_
  intro ty H H' w a i Ls hT hp hc hw hk
  obtain ⟨l0, Ls', rfl, p0, hp⟩ := zr_cons hp
  cases zr_nil hp
  obtain ⟨rfl, h0_1, h0_2⟩ := zd_op hD (by decide) p0
  obtain ⟨c0, hc⟩ := zc1 hc
  have c0 : (i : Int) ≤ (0 : Int) + 0 := c0
  have e0 := hk 84 1 (by decide) (Or.inr (by omega))
  refine ⟨rfl, by rw [e0]; exact h0_1, fun j hj h => ?_⟩
  rw [e0] at hj
  rw [hk 86 _ (by decide) (Or.inl (by decide))] at h
  rw [hk 88 _ (by decide) (Or.inl (by decide))]
  exact h0_2 j hj h
theorem rW1_ok (hD : zk_d2 D ua) : zr_okS D rW1 := by
  intro ty H H' w a i hd Ls hT hT' ha hty hh hp hc hw ho
  rw [if_neg (show ¬ rW1.1.1 = 0 by decide)] at hh
  subst hh
  obtain ⟨l0, Ls', rfl, p0, hp⟩ := zr_cons hp
  obtain ⟨l1, Ls', rfl, p1, hp⟩ := zr_cons hp
  cases zr_nil hp
  obtain ⟨rfl, h0⟩ := zd_op hD (by decide) p0
  obtain ⟨x, y, rfl, x0, ⟨q, hq, ex⟩, hy⟩ := zd_wy hD hT p1
  obtain ⟨c0, hc⟩ := zc1 hc
  obtain ⟨c1, -⟩ := zc1 hc
  have c0 : y ≤ a + 0 := c0
  have c1 : a ≤ y + 0 := c1
  have e1 : a.toNat = ua (1010 + q) := by
    have := (h0 q hq).1
    rw [ex] at hy
    omega
  refine (hD.1 _ (by decide) _ _ _).mpr ⟨zd_ty hD (by decide) p0, x, i, by simp [rW1], fun p hp => ?_⟩
  obtain ⟨g1, g2, g3⟩ := h0 p hp
  have n1 : ua (1000 + p) ≠ a.toNat := by rw [e1]; exact zd_ww hD (by rcases hp with rfl | rfl <;> decide) (by rcases hq with rfl | rfl <;> decide) (by omega)
  have n2 : ua (1020 + p) ≠ a.toNat := by rw [e1]; exact zd_ww hD (by rcases hp with rfl | rfl <;> decide) (by rcases hq with rfl | rfl <;> decide) (by omega)
  refine ⟨by rw [ho _ _ (fun z => n1 z.1)]; exact g1, by rw [ho _ _ (fun z => n1 z.1)]; exact g2, fun j hj h => ?_⟩
  rw [ho _ _ (fun z => n2 z.1)]
  rw [ho _ _ (fun z => ?_)] at h
  · exact g3 j (fun z => z) h
  · refine hj ⟨?_, by omega⟩
    rw [ex]
    have : p = q := by
      rcases hp with rfl | rfl <;> rcases hq with rfl | rfl
      · rfl
      · exact absurd (z.1.trans e1) (zd_ww hD (by decide) (by decide) (by decide))
      · exact absurd (z.1.trans e1) (zd_ww hD (by decide) (by decide) (by decide))
      · rfl
    rw [this]
theorem rW2_ok (hD : zk_d2 D ua) : zr_okS D rW2 := by
  intro ty H H' w a i hd Ls hT hT' ha hty hh hp hc hw ho
  rw [if_neg (show ¬ rW2.1.1 = 0 by decide)] at hh
  subst hh
  obtain ⟨l0, Ls', rfl, p0, hp⟩ := zr_cons hp
  obtain ⟨l1, Ls', rfl, p1, hp⟩ := zr_cons hp
  cases zr_nil hp
  obtain ⟨x0, k, rfl, h0⟩ := zd_op hD (by decide) p0
  obtain ⟨x, z, rfl, hx0, ⟨q, hq, ex⟩, hz⟩ := zd_wy hD hT p1
  obtain ⟨c0, hc⟩ := zc1 hc
  obtain ⟨c1, hc⟩ := zc1 hc
  obtain ⟨c2, hc⟩ := zc1 hc
  obtain ⟨c3, hc⟩ := zc1 hc
  obtain ⟨c4, hc⟩ := zc1 hc
  obtain ⟨c5, hc⟩ := zc1 hc
  have c0 : x ≤ x0 + 0 := c0
  have c1 : x0 ≤ x + 0 := c1
  have c2 : z ≤ a + 0 := c2
  have c3 : a ≤ z + 0 := c3
  have c4 : (i : Int) ≤ k + 0 := c4
  have c5 : k ≤ (i : Int) + 0 := c5
  obtain ⟨c6, -⟩ := zc1 hc
  have c6 : w ≤ (0 : Int) + 7 := c6
  have e1 : a.toNat = ua (1020 + q) := by
    have := (h0 q hq).2.1
    rw [ex] at hz
    omega
  refine (hD.1 _ (by decide) _ _ _).mpr ⟨zd_ty hD (by decide) p0, by simp [rW2], fun p hp => ?_⟩
  obtain ⟨g1, g2, g3⟩ := h0 p hp
  have n1 : ua (1000 + p) ≠ a.toNat := by rw [e1]; exact zd_ww hD (by rcases hp with rfl | rfl <;> decide) (by rcases hq with rfl | rfl <;> decide) (by omega)
  have n2 : ua (1010 + p) ≠ a.toNat := by rw [e1]; exact zd_ww hD (by rcases hp with rfl | rfl <;> decide) (by rcases hq with rfl | rfl <;> decide) (by omega)
  refine ⟨by rw [ho _ _ (fun z => n1 z.1)]; exact g1, by rw [ho _ _ (fun z => n1 z.1)]; exact g2, fun j hj h => ?_⟩
  rw [ho _ _ (fun z => n2 z.1)] at h
  by_cases ej : p = q ∧ j = i
  · obtain ⟨rfl, rfl⟩ := ej
    rw [← e1, hw]
    omega
  · rw [ho _ _ (fun z => ej ⟨?_, z.2⟩)]
    · refine g3 j (fun z => ej ⟨?_, by omega⟩) h
      have z1 := z.1
      have : x0.toNat = ua (1000 + q) := by rw [← ex]; congr 1; omega
      rw [this] at z1
      rcases hp with rfl | rfl <;> rcases hq with rfl | rfl
      · rfl
      · exact absurd z1 (zd_ww hD (by decide) (by decide) (by decide))
      · exact absurd z1 (zd_ww hD (by decide) (by decide) (by decide))
      · rfl
    · have z1 := z.1.trans e1
      rcases hp with rfl | rfl <;> rcases hq with rfl | rfl
      · rfl
      · exact absurd z1 (zd_ww hD (by decide) (by decide) (by decide))
      · exact absurd z1 (zd_ww hD (by decide) (by decide) (by decide))
      · rfl
theorem rW3_ok (hD : zk_d2 D ua) : zr_okS D rW3 := by
  intro ty H H' w a i hd Ls hT hT' ha hty hh hp hc hw ho
  rw [if_neg (show ¬ rW3.1.1 = 0 by decide)] at hh
  subst hh
  obtain ⟨l0, Ls', rfl, p0, hp⟩ := zr_cons hp
  obtain ⟨l1, Ls', rfl, p1, hp⟩ := zr_cons hp
  obtain ⟨l2, Ls', rfl, p2, hp⟩ := zr_cons hp
  obtain ⟨l3, Ls', rfl, p3, hp⟩ := zr_cons hp
  cases zr_nil hp
  obtain ⟨x0, k, rfl, h0⟩ := zd_op hD (by decide) p0
  obtain ⟨x, z, rfl, hx0, ⟨q, hq, ex⟩, hz⟩ := zd_wy hD hT p1
  obtain ⟨x2, y, rfl, hx2, -, hy⟩ := zd_wy hD hT p2
  obtain ⟨y2, i1, v, rfl, hy2, hi1, hv⟩ := zd_pl p3
  obtain ⟨c0, hc⟩ := zc1 hc
  obtain ⟨c1, hc⟩ := zc1 hc
  obtain ⟨c2, hc⟩ := zc1 hc
  obtain ⟨c3, hc⟩ := zc1 hc
  obtain ⟨c4, hc⟩ := zc1 hc
  obtain ⟨c5, hc⟩ := zc1 hc
  have c0 : x ≤ x0 + 0 := c0
  have c1 : x0 ≤ x + 0 := c1
  have c2 : z ≤ a + 0 := c2
  have c3 : a ≤ z + 0 := c3
  have c4 : (i : Int) ≤ k + 0 := c4
  have c5 : k ≤ (i : Int) + 0 := c5
  obtain ⟨c6, hc⟩ := zc1 hc
  obtain ⟨c7, hc⟩ := zc1 hc
  obtain ⟨c8, hc⟩ := zc1 hc
  obtain ⟨c9, hc⟩ := zc1 hc
  obtain ⟨c10, hc⟩ := zc1 hc
  obtain ⟨c11, hc⟩ := zc1 hc
  obtain ⟨c12, -⟩ := zc1 hc
  have c6 : x2 ≤ x0 + 0 := c6
  have c7 : x0 ≤ x2 + 0 := c7
  have c8 : y2 ≤ y + 0 := c8
  have c9 : y ≤ y2 + 0 := c9
  have c10 : i1 ≤ k + 0 := c10
  have c11 : k ≤ i1 + 0 := c11
  have c12 : v ≤ (0 : Int) + 5 := c12
  have e1 : a.toNat = ua (1020 + q) := by
    have := (h0 q hq).2.1
    rw [ex] at hz
    omega
  refine (hD.1 _ (by decide) _ _ _).mpr ⟨zd_ty hD (by decide) p0, by simp [rW3], fun p hp => ?_⟩
  obtain ⟨g1, g2, g3⟩ := h0 p hp
  have n1 : ua (1000 + p) ≠ a.toNat := by rw [e1]; exact zd_ww hD (by rcases hp with rfl | rfl <;> decide) (by rcases hq with rfl | rfl <;> decide) (by omega)
  have n2 : ua (1010 + p) ≠ a.toNat := by rw [e1]; exact zd_ww hD (by rcases hp with rfl | rfl <;> decide) (by rcases hq with rfl | rfl <;> decide) (by omega)
  refine ⟨by rw [ho _ _ (fun z => n1 z.1)]; exact g1, by rw [ho _ _ (fun z => n1 z.1)]; exact g2, fun j hj h => ?_⟩
  rw [ho _ _ (fun z => n2 z.1)] at h
  by_cases ej : p = q ∧ j = i
  · obtain ⟨rfl, rfl⟩ := ej
    rw [← e1, hw]
    have e2 : y2.toNat = ua (1010 + p) := by
      have : x2.toNat = ua (1000 + p) := by rw [← ex]; congr 1; omega
      rw [this] at hy
      omega
    rw [e2, show i1.toNat = j by omega] at hv
    omega
  · rw [ho _ _ (fun z => ej ⟨?_, z.2⟩)]
    · refine g3 j (fun z => ej ⟨?_, by omega⟩) h
      have z1 := z.1
      have : x0.toNat = ua (1000 + q) := by rw [← ex]; congr 1; omega
      rw [this] at z1
      rcases hp with rfl | rfl <;> rcases hq with rfl | rfl
      · rfl
      · exact absurd z1 (zd_ww hD (by decide) (by decide) (by decide))
      · exact absurd z1 (zd_ww hD (by decide) (by decide) (by decide))
      · rfl
    · have z1 := z.1.trans e1
      rcases hp with rfl | rfl <;> rcases hq with rfl | rfl
      · rfl
      · exact absurd z1 (zd_ww hD (by decide) (by decide) (by decide))
      · exact absurd z1 (zd_ww hD (by decide) (by decide) (by decide))
      · rfl
theorem rU10_ok (hD : zk_d2 D ua) : zr_okU D rU10 := by
  intro ty H Ls hT hp hc
  obtain ⟨l0, Ls', rfl, p0, hp⟩ := zr_cons hp
  cases zr_nil hp
  obtain ⟨rfl, h0_1, h0_2⟩ := zd_op hD (by decide) p0
  refine ⟨_, List.mem_singleton.mpr rfl, fun c hc => (by cases hc), fun f hf => ?_⟩
  rw [List.mem_singleton.mp hf]
  exact (hD.1 104 (by decide) _ _ _).mpr ⟨zd_ty hD (by decide) p0, 0, by simp, fun j hj => by omega⟩
theorem rU11_ok (hD : zk_d2 D ua) : zr_okU D rU11 := by
  intro ty H Ls hT hp hc
  obtain ⟨l0, Ls', rfl, p0, hp⟩ := zr_cons hp
  obtain ⟨l1, Ls', rfl, p1, hp⟩ := zr_cons hp
  obtain ⟨l2, Ls', rfl, p2, hp⟩ := zr_cons hp
  obtain ⟨l3, Ls', rfl, p3, hp⟩ := zr_cons hp
  obtain ⟨l4, Ls', rfl, p4, hp⟩ := zr_cons hp
  obtain ⟨l5, Ls', rfl, p5, hp⟩ := zr_cons hp
  obtain ⟨l6, Ls', rfl, p6, hp⟩ := zr_cons hp
  cases zr_nil hp
  obtain ⟨rfl, h0_1, h0_2⟩ := zd_op hD (by decide) p0
  obtain ⟨k, rfl, h1_1⟩ := zd_op hD (by decide) p1
  obtain ⟨x, i1, v, rfl, hi1, hv⟩ := zd_em hD hT (by decide) p2
  obtain ⟨x3, i3, v3, rfl, hi3, hv3⟩ := zd_em hD hT (by decide) p3
  obtain ⟨x4, i4, v4, rfl, hi4, hv4⟩ := zd_em hD hT (by decide) p4
  obtain ⟨x5, i5, v5, rfl, hi5, hv5⟩ := zd_em hD hT (by decide) p5
  obtain ⟨x6, i6, v6, rfl, hi6, hv6⟩ := zd_em hD hT (by decide) p6
  obtain ⟨c0, hc⟩ := zc1 hc
  have c0 : i1 ≤ (0 : Int) + 1 := c0
  obtain ⟨c1, hc⟩ := zc1 hc
  have c1 : (0 : Int) ≤ i1 + -1 := c1
  obtain ⟨c2, hc⟩ := zc1 hc
  have c2 : i3 ≤ k + 0 := c2
  obtain ⟨c3, hc⟩ := zc1 hc
  have c3 : k ≤ i3 + 0 := c3
  obtain ⟨c4, hc⟩ := zc1 hc
  have c4 : i4 ≤ k + 30 := c4
  obtain ⟨c5, hc⟩ := zc1 hc
  have c5 : k ≤ i4 + -30 := c5
  obtain ⟨c6, hc⟩ := zc1 hc
  have c6 : i5 ≤ k + 0 := c6
  obtain ⟨c7, hc⟩ := zc1 hc
  have c7 : k ≤ i5 + 0 := c7
  obtain ⟨c8, hc⟩ := zc1 hc
  have c8 : i6 ≤ k + 30 := c8
  obtain ⟨c9, hc⟩ := zc1 hc
  have c9 : k ≤ i6 + -30 := c9
  obtain ⟨c10, hc⟩ := zc1 hc
  have c10 : k ≤ v + -1 := c10
  obtain ⟨c11, hc⟩ := zc1 hc
  have c11 : v3 ≤ v4 + 0 := c11
  obtain ⟨c12, hc⟩ := zc1 hc
  have c12 : v4 ≤ v3 + 0 := c12
  obtain ⟨c13, hc⟩ := zc1 hc
  have c13 : v6 ≤ v5 + 0 := c13
  rw [show i1.toNat = 1 by omega] at hv
  refine ⟨_, List.mem_singleton.mpr rfl, fun c hc => (by cases hc), fun f hf => ?_⟩
  rw [List.mem_singleton.mp hf]
  refine (hD.1 104 (by decide) _ _ _).mpr ⟨zd_ty hD (by decide) p0, k + 1, by simp, fun j hj h => ?_⟩
  by_cases e : (j : Int) < k
  · exact h1_1 j e h
  · rw [show i3.toNat = 0 + j by omega] at hv3
    rw [show i4.toNat = 30 + j by omega] at hv4
    rw [show i5.toNat = 0 + j by omega] at hv5
    rw [show i6.toNat = 30 + j by omega] at hv6
    have := h0_2 j (by omega) (by omega)
    omega
theorem rU12_ok (hD : zk_d2 D ua) : zr_okU D rU12 := by
  intro ty H Ls hT hp hc
  obtain ⟨l0, Ls', rfl, p0, hp⟩ := zr_cons hp
  obtain ⟨l1, Ls', rfl, p1, hp⟩ := zr_cons hp
  cases zr_nil hp
  obtain ⟨k, rfl, h0_1⟩ := zd_op hD (by decide) p0
  obtain ⟨x, i1, v, rfl, hi1, hv⟩ := zd_em hD hT (by decide) p1
  obtain ⟨c0, hc⟩ := zc1 hc
  have c0 : i1 ≤ (0 : Int) + 0 := c0
  obtain ⟨c1, hc⟩ := zc1 hc
  have c1 : v ≤ k + 0 := c1
  obtain ⟨c2, hc⟩ := zc1 hc
  have c2 : v ≤ (0 : Int) + 30 := c2
  rw [show i1.toNat = 0 by omega] at hv
  refine ⟨_, List.mem_singleton.mpr rfl, fun c hc => (by cases hc), fun f hf => ?_⟩
  rw [List.mem_singleton.mp hf]
  exact (hD.1 102 (by decide) _ _ _).mpr ⟨zd_ty hD (by decide) p0, by simp, by omega, fun j hj h => h0_1 j (by omega) h⟩
theorem rU13_ok (hD : zk_d2 D ua) : zr_okU D rU13 := by
  intro ty H Ls hT hp hc
  obtain ⟨l0, Ls', rfl, p0, hp⟩ := zr_cons hp
  obtain ⟨l1, Ls', rfl, p1, hp⟩ := zr_cons hp
  obtain ⟨l2, Ls', rfl, p2, hp⟩ := zr_cons hp
  obtain ⟨l3, Ls', rfl, p3, hp⟩ := zr_cons hp
  cases zr_nil hp
  obtain ⟨rfl, h0_1, h0_2⟩ := zd_op hD (by decide) p0
  obtain ⟨x, i1, v, rfl, hi1, hv⟩ := zd_em hD hT (by decide) p1
  obtain ⟨x2, i2, v2, rfl, hi2, hv2⟩ := zd_em hD hT (by decide) p2
  obtain ⟨x3, i3, v3, rfl, hi3, hv3⟩ := zd_em hD hT (by decide) p3
  obtain ⟨c0, hc⟩ := zc1 hc
  have c0 : i1 ≤ (0 : Int) + 0 := c0
  obtain ⟨c1, hc⟩ := zc1 hc
  have c1 : i2 ≤ v + -1 := c1
  obtain ⟨c2, hc⟩ := zc1 hc
  have c2 : i3 ≤ i2 + 0 := c2
  obtain ⟨c3, hc⟩ := zc1 hc
  have c3 : i2 ≤ i3 + 0 := c3
  obtain ⟨c4, hc⟩ := zc1 hc
  have c4 : (0 : Int) ≤ v2 + -12 := c4
  rw [show i1.toNat = 0 by omega] at hv
  refine ⟨_, List.mem_singleton.mpr rfl, fun c hc => ?_, fun f hf => (by cases hf)⟩
  rw [List.mem_singleton.mp hc]
  show 0 ≤ v3 + 0
  rw [show i2.toNat = 0 + i3.toNat by omega] at hv2
  have := h0_2 i3.toNat (by omega) (by omega)
  rw [Nat.zero_add] at this
  omega
theorem rU14_ok (hD : zk_d2 D ua) : zr_okU D rU14 := by
  intro ty H Ls hT hp hc
  obtain ⟨l0, Ls', rfl, p0, hp⟩ := zr_cons hp
  obtain ⟨l1, Ls', rfl, p1, hp⟩ := zr_cons hp
  obtain ⟨l2, Ls', rfl, p2, hp⟩ := zr_cons hp
  obtain ⟨l3, Ls', rfl, p3, hp⟩ := zr_cons hp
  cases zr_nil hp
  obtain ⟨rfl, h0_1, h0_2⟩ := zd_op hD (by decide) p0
  obtain ⟨x, i1, v, rfl, hi1, hv⟩ := zd_em hD hT (by decide) p1
  obtain ⟨x2, i2, v2, rfl, hi2, hv2⟩ := zd_em hD hT (by decide) p2
  obtain ⟨x3, i3, v3, rfl, hi3, hv3⟩ := zd_em hD hT (by decide) p3
  obtain ⟨c0, hc⟩ := zc1 hc
  have c0 : i1 ≤ (0 : Int) + 0 := c0
  obtain ⟨c1, hc⟩ := zc1 hc
  have c1 : i2 ≤ v + -1 := c1
  obtain ⟨c2, hc⟩ := zc1 hc
  have c2 : i3 ≤ i2 + 0 := c2
  obtain ⟨c3, hc⟩ := zc1 hc
  have c3 : i2 ≤ i3 + 0 := c3
  obtain ⟨c4, hc⟩ := zc1 hc
  have c4 : v2 ≤ (0 : Int) + 5 := c4
  rw [show i1.toNat = 0 by omega] at hv
  refine ⟨_, List.mem_singleton.mpr rfl, fun c hc => ?_, fun f hf => (by cases hf)⟩
  rw [List.mem_singleton.mp hc]
  show 0 ≤ v3 + 0
  rw [show i2.toNat = 0 + i3.toNat by omega] at hv2
  have := h0_2 i3.toNat (by omega) (by omega)
  rw [Nat.zero_add] at this
  omega
theorem rU20_ok (hD : zk_d2 D ua) : zr_okU D rU20 := by
  intro ty H Ls hT hp hc
  obtain ⟨l0, Ls', rfl, p0, hp⟩ := zr_cons hp
  obtain ⟨l1, Ls', rfl, p1, hp⟩ := zr_cons hp
  obtain ⟨l2, Ls', rfl, p2, hp⟩ := zr_cons hp
  obtain ⟨l3, Ls', rfl, p3, hp⟩ := zr_cons hp
  obtain ⟨l4, Ls', rfl, p4, hp⟩ := zr_cons hp
  cases zr_nil hp
  obtain ⟨rfl, h0⟩ := zd_op hD (by decide) p0
  obtain ⟨x, y, rfl, hx, ⟨q, hq, ex⟩, hy⟩ := zd_wy hD hT p1
  obtain ⟨y2, i1, v1, rfl, hy2, hi1, hv1⟩ := zd_pl p2
  obtain ⟨x3, z, rfl, hx3, -, hz⟩ := zd_wy hD hT p3
  obtain ⟨z2, i2, v2, rfl, hz2, hi2, hv2⟩ := zd_pl p4
  obtain ⟨c0, hc⟩ := zc1 hc
  obtain ⟨c1, hc⟩ := zc1 hc
  obtain ⟨c2, hc⟩ := zc1 hc
  obtain ⟨c3, hc⟩ := zc1 hc
  obtain ⟨c4, hc⟩ := zc1 hc
  obtain ⟨c5, hc⟩ := zc1 hc
  obtain ⟨c6, hc⟩ := zc1 hc
  obtain ⟨c7, hc⟩ := zc1 hc
  obtain ⟨c8, -⟩ := zc1 hc
  have c0 : x3 ≤ x + 0 := c0
  have c1 : x ≤ x3 + 0 := c1
  have c2 : y2 ≤ y + 0 := c2
  have c3 : y ≤ y2 + 0 := c3
  have c4 : z2 ≤ z + 0 := c4
  have c5 : z ≤ z2 + 0 := c5
  have c6 : i2 ≤ i1 + 0 := c6
  have c7 : i1 ≤ i2 + 0 := c7
  have c8 : (0 : Int) ≤ v1 + -6 := c8
  refine ⟨_, List.mem_singleton.mpr rfl, fun c hc => ?_, fun f hf => (by cases hf)⟩
  rw [List.mem_singleton.mp hc]
  show v2 ≤ 0 + 7
  obtain ⟨g1, g2, g3⟩ := h0 q hq
  rw [ex] at hy
  rw [show x3.toNat = ua (1000 + q) by rw [← ex]; congr 1; omega] at hz
  have e1 : y2.toNat = ua (1010 + q) := by omega
  have e2 : z2.toNat = ua (1020 + q) := by omega
  rw [e1] at hv1
  rw [e2, show i2.toNat = i1.toNat by omega] at hv2
  have := g3 i1.toNat (fun z => z) (by omega)
  omega
theorem zRS_ok (hD : zk_d2 D ua) : ∀ R ∈ zRSl, zr_okS D R := by
  intro R hR
  simp only [zRSl, List.mem_cons, List.not_mem_nil, or_false] at hR
  rcases hR with rfl | rfl | rfl | rfl | rfl | rfl | rfl | rfl | rfl | rfl | rfl | rfl | rfl | rfl | rfl | rfl
  · exact rS1_86_ok hD
  · exact rS5_86_ok hD
  · exact rS7_86_ok hD
  · exact rS12_86_ok hD
  · exact rS1_88_ok hD
  · exact rS5_88_ok hD
  · exact rS7_88_ok hD
  · exact rS12_88_ok hD
  · exact rS3_ok hD
  · exact rS4_ok hD
  · exact rS9_ok hD
  · exact rS10_ok hD
  · exact rS11_ok hD
  · exact rW1_ok hD
  · exact rW2_ok hD
  · exact rW3_ok hD
theorem zRU_ok (hD : zk_d2 D ua) : ∀ R ∈ zRUl, zr_okU D R := by
  intro R hR
  simp only [zRUl, List.mem_cons, List.not_mem_nil, or_false] at hR
  rcases hR with rfl | rfl | rfl | rfl | rfl | rfl
  · exact rU10_ok hD
  · exact rU11_ok hD
  · exact rU12_ok hD
  · exact rU13_ok hD
  · exact rU14_ok hD
  · exact rU20_ok hD
end
/-- what the facts hang on -/
def zPF : Nat → List (Nat × Nat) := fun j => if Nat.beq j 100 then [(33, 1), (33, 3)] else if Nat.beq j 101 then [(33, 1), (33, 3)] else []
def zPB : Nat → List Nat := fun j => if Nat.beq j 0 then [0, 1, 2, 3, 4, 5, 6, 7, 8, 9, 10, 11, 12, 13, 14, 15, 16] else if Nat.beq j 100 then [53, 55] else if Nat.beq j 101 then [53, 55] else if Nat.beq j 102 then [84, 86, 88] else if Nat.beq j 103 then [84, 86, 88] else if Nat.beq j 104 then [86, 88] else []
def zPF1 : Nat → List (Nat × Nat) := fun _ => []
def zPB1 : Nat → List Nat := fun j => if Nat.beq j 0 then [0, 1, 2, 3, 4, 5, 6, 7, 8, 9, 10, 11, 12, 13, 14, 15, 16] else []
section
variable {D : zD} {ua : Nat → Nat} {ty ty' : Nat → Nat} {H H' : Heap} {j : Nat}
theorem zst_ar (hTT : D.TT = zTT) (hz : zty ua ty) (hst : zk_st D (zPF j) (zPB j) ty H ty' H') {q : Nat × Nat} (hq : q ∈ zUt) (h1 : q.2 ∈ zPB j) (h2 : (zTT q.2).1 ≠ 0) (k : Nat) : zi H' (ua q.1) k = zi H (ua q.1) k := by
  have := hst.2.1 _ _ (hz q hq) (by rw [hTT]; exact h2) h1
  unfold zi
  rw [this]
theorem zst_fd (hTT : D.TT = zTT) (hz : zty ua ty) (hst : zk_st D (zPF j) (zPB j) ty H ty' H') (hT : zk_T D ty H) (hT' : zk_T D ty' H') {q : Nat × Nat} (hq : q ∈ zUt) {k : Nat} (h1 : (q.2, k) ∈ zPF j) (h2 : (zTT q.2).1 = 0) (h3 : k < (zTT q.2).2.2.length) {c : Nat} (h4 : (zTT q.2).2.1 = c) : zi H' (ua q.1) (D.dI c k) = zi H (ua q.1) (D.dI c k) := by
  subst h4
  have a1 := zk_T_lt hT (a := ua q.1) (by rw [hz q hq]; omega)
  have a2 := zk_T_lt hT' (a := ua q.1) (by rw [hst.1 _ _ (hz q hq)]; omega)
  have e0 : H[ua q.1]? = some H[ua q.1] := Array.getElem?_eq_getElem a1
  have e1 : H'[ua q.1]? = some H'[ua q.1] := Array.getElem?_eq_getElem a2
  have := hst.2.2 _ _ (hz q hq) (by rw [hTT]; exact h2) k (by rw [hTT]; exact h3) h1 _ _ e0 e1
  rw [hTT] at this
  unfold zi
  rw [e0, e1]
  dsimp only
  rw [this]
theorem zPP_st (hD : zk_d2 D ua) (hTT : D.TT = zTT) (hj : 100 ≤ j) {vs : List Int} (hst : zk_st D (zPF j) (zPB j) ty H ty' H') (hT : zk_T D ty H) (hT' : zk_T D ty' H') (h : D.OP j ty H vs) : D.OP j ty' H' vs := by
  obtain ⟨hz, hp⟩ := (hD.1 j hj _ _ _).mp h
  refine (hD.1 j hj _ _ _).mpr ⟨fun q hq => hst.1 _ _ (hz q hq), ?_⟩
  unfold zPP at hp ⊢
  split at hp
  · rename_i e
    subst e
    rw [if_pos rfl]
    obtain ⟨h1, h2, h3⟩ := hp
    have e0 := zst_ar hTT hz hst (q := (84, 84)) (by decide) (by decide) (by decide) 0
    refine ⟨h1, by rw [e0]; exact h2, fun i hi h => ?_⟩
    rw [e0] at hi
    rw [zst_ar hTT hz hst (q := (86, 86)) (by decide) (by decide) (by decide)] at h
    rw [zst_ar hTT hz hst (q := (88, 88)) (by decide) (by decide) (by decide)]
    exact h3 i hi h
  rename_i n1
  rw [if_neg n1]
  split at hp
  · rename_i e
    subst e
    rw [if_pos rfl]
    obtain ⟨h1, h2, h3⟩ := hp
    have e0 := zst_ar hTT hz hst (q := (84, 84)) (by decide) (by decide) (by decide) 1
    refine ⟨h1, by rw [e0]; exact h2, fun i hi h => ?_⟩
    rw [e0] at hi
    rw [zst_ar hTT hz hst (q := (86, 86)) (by decide) (by decide) (by decide)] at h
    rw [zst_ar hTT hz hst (q := (88, 88)) (by decide) (by decide) (by decide)]
    exact h3 i hi h
  rename_i n2
  rw [if_neg n2]
  split at hp
  · rename_i e
    subst e
    rw [if_pos rfl]
    obtain ⟨k, h1, h3⟩ := hp
    refine ⟨k, h1, fun i hi h => ?_⟩
    rw [zst_ar hTT hz hst (q := (86, 86)) (by decide) (by decide) (by decide)] at h
    rw [zst_ar hTT hz hst (q := (88, 88)) (by decide) (by decide) (by decide)]
    exact h3 i hi h
  rename_i n3
  rw [if_neg n3]
  have hw : (j = 100 ∨ j = 101) → ∀ e, zf_wy ua D.dI (zi H) e → zf_wy ua D.dI (zi H') e := by
    intro hj e h p hp
    obtain ⟨g1, g2, g3⟩ := h p hp
    have m1 : 53 ∈ zPB j ∧ 55 ∈ zPB j ∧ (33, 1) ∈ zPF j ∧ (33, 3) ∈ zPF j := by rcases hj with rfl | rfl <;> decide
    have q0 : (1000 + p, 33) ∈ zUt ∧ (1010 + p, 53) ∈ zUt ∧ (1020 + p, 55) ∈ zUt := by rcases hp with rfl | rfl <;> decide
    refine ⟨by rw [zst_fd hTT hz hst hT hT' q0.1 m1.2.2.1 (show (zTT 33).1 = 0 by decide) (show 1 < (zTT 33).2.2.length by decide) (show (zTT 33).2.1 = 10 by decide)]; exact g1, by rw [zst_fd hTT hz hst hT hT' q0.1 m1.2.2.2 (show (zTT 33).1 = 0 by decide) (show 3 < (zTT 33).2.2.length by decide) (show (zTT 33).2.1 = 10 by decide)]; exact g2, fun i hi h => ?_⟩
    rw [zst_ar hTT hz hst q0.2.1 m1.1 (show (zTT 53).1 ≠ 0 by decide)] at h
    rw [zst_ar hTT hz hst q0.2.2 m1.2.1 (show (zTT 55).1 ≠ 0 by decide)]
    exact g3 i hi h
  split at hp
  · rename_i e
    subst e
    rw [if_pos rfl]
    exact ⟨hp.1, hw (Or.inl rfl) _ hp.2⟩
  rename_i n4
  rw [if_neg n4]
  split at hp
  · rename_i e
    subst e
    rw [if_pos rfl]
    obtain ⟨x, i, h1, h2⟩ := hp
    exact ⟨x, i, h1, hw (Or.inr rfl) _ h2⟩
  · exact absurd hp (fun z => z)
end
