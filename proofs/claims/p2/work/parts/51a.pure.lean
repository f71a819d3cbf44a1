/-! THE FACTS, 1: what is told of the heap's places, as pure statements about numbers. ua: where the one cell of a type lies. -/
theorem zr_cons {D : zD} {ty : Nat → Nat} {H : Heap} {p : zRp} {ps : List zRp} {Ls : List (List Int)} (h : zr_all D ty H (p :: ps) Ls) : ∃ l Ls', Ls = l :: Ls' ∧ zr_pr D ty H p l ∧ zr_all D ty H ps Ls' := by
  cases Ls with
  | nil => exact absurd h (by simp [zr_all])
  | cons l Ls' => exact ⟨l, Ls', rfl, h.1, h.2⟩
theorem zr_nil {D : zD} {ty : Nat → Nat} {H : Heap} {Ls : List (List Int)} (h : zr_all D ty H [] Ls) : Ls = [] := by
  cases Ls with
  | nil => rfl
  | cons l Ls' => exact absurd h (by simp [zr_all])
theorem zr_c {α : Type} {P : α → Prop} {a : α} {l : List α} (h : P a) (hl : ∀ x ∈ l, P x) : ∀ x ∈ a :: l, P x := by
  intro x hx
  rcases List.mem_cons.mp hx with e | e
  · rw [e]; exact h
  · exact hl x e
theorem zk_T_RO {D : zD} {ty : Nat → Nat} {H : Heap} {a t : Nat} (hT : zk_T D ty H) (h : ty a = t + 1) (h9 : (D.TT t).1 ≠ 9) : D.RO t a := by
  have g := hT.2 a t h
  rw [if_neg h9] at g
  exact g.1.2
/-- blocks: a header of -1 with a count behind it, or a size and its numbers -/
def zb_l (v : Int) : Nat := if v = -1 then 2 else 1 + v.toNat
def zb_p (f : Nat → Int) (s : Nat) : Nat → Nat
  | 0 => s
  | i + 1 => zb_p f s i + zb_l (f (zb_p f s i))
/-- n blocks lead from s to e -/
def zb_k (f : Nat → Int) (s e : Nat) : Prop := ∃ n, zb_p f s n = e ∧ ∀ i, i < n → -1 ≤ f (zb_p f s i) ∧ f (zb_p f s i) ≤ 60
/-- a walk over the blocks, at k -/
def zb_w (f : Nat → Int) (s k e : Nat) : Prop := ∃ n i, i ≤ n ∧ zb_p f s i = k ∧ zb_p f s n = e ∧ ∀ j, j < n → -1 ≤ f (zb_p f s j) ∧ f (zb_p f s j) ≤ 60
theorem zb_l_pos (v : Int) : 1 ≤ zb_l v := by unfold zb_l; split <;> omega
theorem zb_p_lt (f : Nat → Int) (s : Nat) : ∀ d i, zb_p f s i + d ≤ zb_p f s (i + d)
  | 0, _ => Nat.le_refl _
  | d + 1, i => by
    have h := zb_p_lt f s d i
    have h2 := zb_l_pos (f (zb_p f s (i + d)))
    show zb_p f s i + (d + 1) ≤ zb_p f s (i + d) + zb_l (f (zb_p f s (i + d)))
    omega
theorem zb_p_mono (f : Nat → Int) (s : Nat) {i j : Nat} (h : i ≤ j) : zb_p f s i ≤ zb_p f s j := by
  have := zb_p_lt f s (j - i) i
  rw [show i + (j - i) = j by omega] at this
  omega
theorem zb_p_strict (f : Nat → Int) (s : Nat) {i j : Nat} (h : i < j) : zb_p f s i < zb_p f s j := by
  have := zb_p_lt f s (j - i) i
  rw [show i + (j - i) = j by omega] at this
  omega
theorem zb_p_eq {f g : Nat → Int} {s e : Nat} (h : ∀ j, s ≤ j → j < e → g j = f j) : ∀ {n : Nat}, zb_p f s n ≤ e → ∀ i, i ≤ n → zb_p g s i = zb_p f s i
  | n, he, 0, _ => rfl
  | n, he, i + 1, hi => by
    have h1 := zb_p_eq h he i (by omega)
    have h2 := zb_p_strict f s (i := i) (j := n) (by omega)
    have h3 := zb_p_mono f s (Nat.zero_le i)
    show zb_p g s i + zb_l (g (zb_p g s i)) = zb_p f s i + zb_l (f (zb_p f s i))
    rw [h1, h (zb_p f s i) h3 (by omega)]
theorem zb_k_nil (f : Nat → Int) (s : Nat) : zb_k f s s := ⟨0, rfl, fun i hi => by omega⟩
theorem zb_k_le {f : Nat → Int} {s e : Nat} (h : zb_k f s e) : s ≤ e := by
  obtain ⟨n, h1, -⟩ := h
  have := zb_p_mono f s (Nat.zero_le n)
  rw [h1] at this
  exact this
theorem zb_k_keep {f g : Nat → Int} {s e : Nat} (h : zb_k f s e) (hg : ∀ j, s ≤ j → j < e → g j = f j) : zb_k g s e := by
  obtain ⟨n, h1, h2⟩ := h
  have hp := zb_p_eq hg (n := n) (by omega)
  refine ⟨n, by rw [hp n (Nat.le_refl _)]; exact h1, fun i hi => ?_⟩
  have h3 := zb_p_strict f s hi
  have h4 := zb_p_mono f s (Nat.zero_le i)
  rw [hp i (by omega), hg _ h4 (by omega)]
  exact h2 i hi
theorem zb_k_snoc {f : Nat → Int} {s e : Nat} (h : zb_k f s e) (h1 : -1 ≤ f e) (h2 : f e ≤ 60) : zb_k f s (e + zb_l (f e)) := by
  obtain ⟨n, e1, h3⟩ := h
  refine ⟨n + 1, by show zb_p f s n + zb_l (f (zb_p f s n)) = _; rw [e1], fun i hi => ?_⟩
  rcases Nat.lt_or_eq_of_le (Nat.le_of_lt_succ hi) with h | h
  · exact h3 i h
  · rw [h, e1]; exact ⟨h1, h2⟩
theorem zb_w_start {f : Nat → Int} {s e : Nat} (h : zb_k f s e) : zb_w f s s e := by
  obtain ⟨n, h1, h2⟩ := h
  exact ⟨n, 0, Nat.zero_le n, rfl, h1, h2⟩
theorem zb_w_le {f : Nat → Int} {s k e : Nat} (h : zb_w f s k e) : s ≤ k ∧ k ≤ e := by
  obtain ⟨n, i, h1, h2, h3, -⟩ := h
  have a := zb_p_mono f s h1
  have b := zb_p_mono f s (Nat.zero_le i)
  have c : zb_p f s 0 = s := rfl
  omega
theorem zb_w_step {f : Nat → Int} {s k e : Nat} (h : zb_w f s k e) (hk : k < e) : -1 ≤ f k ∧ f k ≤ 60 ∧ zb_w f s (k + zb_l (f k)) e := by
  obtain ⟨n, i, h1, h2, h3, h4⟩ := h
  have hi : i < n := by
    rcases Nat.lt_or_eq_of_le h1 with h | h
    · exact h
    · rw [h] at h2; omega
  have g := h4 i hi
  rw [h2] at g
  exact ⟨g.1, g.2, n, i + 1, hi, by show zb_p f s i + zb_l (f (zb_p f s i)) = _; rw [h2], h3, h4⟩
/-- lines 0 .. k - 1 of the way: 12 and 13 have a second bag -/
def zf_ln (ua : Nat → Nat) (F : Nat → Nat → Int) (o : Nat) (k : Int) : Prop := ∀ j : Nat, (j : Int) < k → (F (ua 86) (o + j) ≤ 5 ∨ 12 ≤ F (ua 86) (o + j)) → 0 ≤ F (ua 88) (o + j)
/-- the two ways: their acts and second numbers; 6 and 7 have a bag there. e: what is left out -/
def zf_wy (ua : Nat → Nat) (dI : Nat → Nat → Nat) (F : Nat → Nat → Int) (e : Nat → Nat → Prop) : Prop := ∀ p, p = 0 ∨ p = 1 → F (ua (1000 + p)) (dI 10 1) = (ua (1010 + p) : Int) ∧ F (ua (1000 + p)) (dI 10 3) = (ua (1020 + p) : Int) ∧ ∀ j : Nat, ¬ e (ua (1000 + p)) j → 6 ≤ F (ua (1010 + p)) j → F (ua (1020 + p)) j ≤ 7
/-- what a side saw: n numbers, in blocks -/
def zf_sw (ua : Nat → Nat) (F : Nat → Nat → Int) (s : Nat) (n : Int) : Prop := 0 ≤ n ∧ zb_k (F (ua 105)) (2000 * s) (2000 * s + n.toNat)
/-- side s is inside a block: a blocks' numbers, then c of a block with header v (h: it is written) -/
def zf_in (ua : Nat → Nat) (F : Nat → Nat → Int) (s : Nat) (h : Prop) (c v k : Int) : Prop := 0 ≤ k ∧ k ≤ 29 ∧ 0 ≤ c ∧ c ≤ 61 ∧ zf_sw ua F (1 - s) (F (ua 106) (1 - s)) ∧ F (ua 106) (1 - s) ≤ 61 * (k + 1) ∧ ∃ a : Int, zf_sw ua F s a ∧ a ≤ 61 * k ∧ F (ua 106) s = a + c ∧ (h → F (ua 105) (2000 * s + a.toNat) = v)
/-- what was told of a side, in blocks -/
def zf_td (ua : Nat → Nat) (F : Nat → Nat → Int) (s : Nat) : Prop := 0 ≤ F (ua 112) s ∧ F (ua 112) s ≤ 1830 ∧ zb_k (F (ua 111)) (2000 * s) (2000 * s + (F (ua 112) s).toNat)
def zf_wk (ua : Nat → Nat) (F : Nat → Nat → Int) (s : Nat) (k : Int) : Prop := 0 ≤ k ∧ 0 ≤ F (ua 112) s ∧ F (ua 112) s ≤ 1830 ∧ zb_w (F (ua 111)) (2000 * s) k.toNat (2000 * s + (F (ua 112) s).toNat)
def zPQ (ua : Nat → Nat) (j : Nat) (F : Nat → Nat → Int) (vs : List Int) : Prop :=
  if j = 120 then ∃ k : Int, vs = [k] ∧ ∀ s, s = 0 ∨ s = 1 → zf_sw ua F s (F (ua 106) s) ∧ F (ua 106) s ≤ 61 * k
  else if j = 121 then ∃ c v k : Int, vs = [c, v, k] ∧ zf_in ua F 0 (1 ≤ c) c v k
  else if j = 122 then ∃ c v k : Int, vs = [c, v, k] ∧ zf_in ua F 1 (1 ≤ c) c v k
  else if j = 123 then ∃ v k : Int, vs = [v, k] ∧ zf_in ua F 0 True 0 v k
  else if j = 124 then ∃ v k : Int, vs = [v, k] ∧ zf_in ua F 1 True 0 v k
  else if j = 132 then vs = [] ∧ zf_td ua F 0
  else if j = 133 then vs = [] ∧ zf_td ua F 1
  else if j = 134 then ∃ k : Int, vs = [k] ∧ ∀ i : Nat, (i : Int) < k → F (ua 111) i = F (ua 105) i
  else if j = 135 then ∃ k : Int, vs = [k] ∧ ∀ i : Nat, (i : Int) < k → F (ua 111) (2000 + i) = F (ua 105) (2000 + i)
  else if j = 136 then ∃ k : Int, vs = [k] ∧ zf_wk ua F 0 k
  else if j = 137 then ∃ k : Int, vs = [k] ∧ zf_wk ua F 1 k
  else if j = 138 then ∃ k n : Int, vs = [k, n] ∧ 0 ≤ n ∧ n ≤ 60 ∧ zf_wk ua F 0 (k + 1 + n)
  else if j = 139 then ∃ k n : Int, vs = [k, n] ∧ 0 ≤ n ∧ n ≤ 60 ∧ zf_wk ua F 1 (k + 1 + n)
  else False
def zPP (ua : Nat → Nat) (dI : Nat → Nat → Nat) (j : Nat) (F : Nat → Nat → Int) (vs : List Int) : Prop :=
  if j = 102 then vs = [] ∧ F (ua 84) 0 ≤ 30 ∧ zf_ln ua F 0 (F (ua 84) 0)
  else if j = 103 then vs = [] ∧ F (ua 84) 1 ≤ 30 ∧ zf_ln ua F 30 (F (ua 84) 1)
  else if j = 104 then ∃ k : Int, vs = [k] ∧ zf_ln ua F 0 k
  else if j = 100 then vs = [] ∧ zf_wy ua dI F (fun _ _ => False)
  else if j = 101 then ∃ x i : Int, vs = [x, i] ∧ zf_wy ua dI F (fun a j => a = x.toNat ∧ j = i.toNat)
  else zPQ ua j F vs
def zUq : List Nat := [84, 86, 88, 105, 106, 111, 112]
def zUa : List Nat := [84, 86, 88, 105, 106, 111, 112, 1000, 1001, 1010, 1011, 1020, 1021]
theorem zUq_a : ∀ t ∈ zUq, t ∈ zUa := by decide
/-- the cells that the facts speak of, with their types -/
def zUt : List (Nat × Nat) := [(84, 84), (86, 86), (88, 88), (105, 105), (106, 106), (111, 111), (112, 112), (1000, 33), (1001, 33), (1010, 53), (1011, 53), (1020, 55), (1021, 55)]
def zty (ua : Nat → Nat) (ty : Nat → Nat) : Prop := ∀ q ∈ zUt, ty (ua q.1) = q.2 + 1
def zk_d2 (D : zD) (ua : Nat → Nat) : Prop := (∀ j, 100 ≤ j → ∀ (ty : Nat → Nat) (H : Heap) (vs : List Int), D.OP j ty H vs ↔ zty ua ty ∧ zPP ua D.dI j (zi H) vs) ∧ (∀ t ∈ zUq, ∀ a, D.RO t a → a = ua t) ∧ (∀ t ∈ zUq, (D.TT t).1 ≠ 9) ∧ (∀ t ∈ zUa, ∀ u ∈ zUa, ua t = ua u → t = u) ∧ (∀ t, (D.TT t).1 = 0 → (D.TT t).1 ≠ 9) ∧ (D.TT 33).1 = 0 ∧ (D.TT 33).2.1 = 10 ∧ (∀ a, D.RO 33 a → a = ua 1000 ∨ a = ua 1001) ∧ ∀ (ty : Nat → Nat) (H : Heap) (l : List Int), D.OP 26 ty H l → ∃ a b c : Int, l = [a, b, c] ∧ Int32.ofInt a + Int32.ofInt b = Int32.ofInt c
section
variable {D : zD} {ua : Nat → Nat} {ty : Nat → Nat} {H H' : Heap}
theorem zd_at (hD : zk_d2 D ua) (hT : zk_T D ty H) {x : Int} {t : Nat} (h : ty x.toNat = t + 1) (ht : t ∈ zUq) : x.toNat = ua t := hD.2.1 t ht _ (zk_T_RO hT h (hD.2.2.1 t ht))
theorem zd_em (hD : zk_d2 D ua) (hT : zk_T D ty H) {t : Nat} (ht : t ∈ zUq) {l : List Int} (h : zr_pr D ty H (1, t, 0) l) : ∃ x i v : Int, l = [x, i, v] ∧ 0 ≤ i ∧ zi H (ua t) i.toNat = v := by
  unfold zr_pr at h
  rw [if_neg (show ¬ (1 : Nat) = 0 by decide), if_pos rfl] at h
  obtain ⟨x, i, v, e, -, h1, h2, h3⟩ := h
  exact ⟨x, i, v, e, h2, by rw [← zd_at hD hT h1 ht]; exact h3⟩
theorem zd_op {j : Nat} {l : List Int} (hD : zk_d2 D ua) (hj : 100 ≤ j) (h : zr_pr D ty H (0, j, 0) l) : zPP ua D.dI j (zi H) l := by
  unfold zr_pr at h
  rw [if_pos rfl] at h
  exact ((hD.1 j hj _ _ _).mp h).2
theorem zd_ty {j : Nat} {l : List Int} (hD : zk_d2 D ua) (hj : 100 ≤ j) (h : zr_pr D ty H (0, j, 0) l) : zty ua ty := by
  unfold zr_pr at h
  rw [if_pos rfl] at h
  exact ((hD.1 j hj _ _ _).mp h).1
/-- a store outside -/
theorem zd_ne (hD : zk_d2 D ua) (hT : zk_T D ty H) {a : Int} {t i : Nat} (ha : ty a.toNat = t + 1) (ht : t ∈ zUq) (ho : ∀ b k, ¬ (b = a.toNat ∧ k = i) → zi H' b k = zi H b k) {u k : Nat} (hu : u ∈ zUq) (hn : u ≠ t ∨ k ≠ i) : zi H' (ua u) k = zi H (ua u) k := by
  have e := zd_at hD hT ha ht
  refine ho _ _ (fun z => ?_)
  rcases hn with h | h
  · exact h (hD.2.2.2.1 u (zUq_a u hu) t (zUq_a t ht) (by rw [z.1, e]))
  · exact h z.2
end
section
variable {D : zD} {ua : Nat → Nat}
/-- a store into the one array of a type, as a statement about numbers -/
def zs_A (D : zD) (ua : Nat → Nat) (R : zRs) : Prop := ∀ (ty : Nat → Nat) (H H' : Heap) (w a : Int) (i : Nat) (Ls : List (List Int)), zk_T D ty H → zr_all D ty H R.2.1 Ls → zr_cs (0 :: w :: a :: (i : Int) :: Ls.flatten) R.2.2.1 → zi H' (ua R.1.2.1) i = w → (∀ u k, u ∈ zUq → (u ≠ R.1.2.1 ∨ k ≠ i) → zi H' (ua u) k = zi H (ua u) k) → zPP ua D.dI R.2.2.2.1 (zi H') (R.2.2.2.2.map (fun t => (0 :: w :: a :: (i : Int) :: Ls.flatten).getD t.1 0 + t.2))
theorem zs_A_ok (hD : zk_d2 D ua) {R : zRs} (h1 : R.1.1 = 1) (ht : R.1.2.1 ∈ zUq) (hj : 100 ≤ R.2.2.2.1) (h0 : ∃ j ps, R.2.1 = (0, j, 0) :: ps ∧ 100 ≤ j) (h : zs_A D ua R) : zr_okS D R := by
  intro ty H H' w a i hd Ls hT hT' ha hty hh hp hc hw ho
  rw [if_neg (by rw [h1]; decide)] at hh
  subst hh
  obtain ⟨j0, ps0, e0, h0⟩ := h0
  have hz : zty ua ty := by
    have hp' := hp
    rw [e0] at hp'
    obtain ⟨l0, Ls0, -, p0, -⟩ := zr_cons hp'
    exact zd_ty hD h0 p0
  refine (hD.1 _ hj _ _ _).mpr ⟨hz, ?_⟩
  refine h ty H H' w a i Ls hT hp hc (by rw [← zd_at hD hT hty ht]; exact hw) (fun u k hu hn => zd_ne hD hT hty ht ho hu hn)
theorem zc1 {es : List Int} {c : Nat × Nat × Int} {cs : List (Nat × Nat × Int)} (h : zr_cs es (c :: cs)) : es.getD c.1 0 ≤ es.getD c.2.1 0 + c.2.2 ∧ zr_cs es cs := ⟨h c List.mem_cons_self, fun c' hc' => h c' (List.mem_cons_of_mem _ hc')⟩
/-- a field of one of the ways -/
theorem zd_wy (hD : zk_d2 D ua) {ty : Nat → Nat} {H : Heap} (hT : zk_T D ty H) {k : Nat} {l : List Int} (h : zr_pr D ty H (2, 33, k) l) : ∃ x v : Int, l = [x, v] ∧ 0 ≤ x ∧ (∃ p, (p = 0 ∨ p = 1) ∧ x.toNat = ua (1000 + p)) ∧ zi H x.toNat (D.dI 10 k) = v := by
  unfold zr_pr at h
  rw [if_neg (show ¬ (2 : Nat) = 0 by decide), if_neg (show ¬ (2 : Nat) = 1 by decide), if_neg (show ¬ (2 : Nat) = 3 by decide)] at h
  obtain ⟨x, v, e, h0, h1, h2⟩ := h
  dsimp only at h1 h2
  rw [hD.2.2.2.2.2.2.1] at h2
  have := hD.2.2.2.2.2.2.2.1 _ (zk_T_RO hT h1 (by rw [hD.2.2.2.2.2.1]; decide))
  refine ⟨x, v, e, h0, ?_, h2⟩
  rcases this with e | e
  · exact ⟨0, Or.inl rfl, e⟩
  · exact ⟨1, Or.inr rfl, e⟩
theorem zd_pl {ty : Nat → Nat} {H : Heap} {t : Nat} {l : List Int} (h : zr_pr D ty H (1, t, 0) l) : ∃ x i v : Int, l = [x, i, v] ∧ 0 ≤ x ∧ 0 ≤ i ∧ zi H x.toNat i.toNat = v := by
  unfold zr_pr at h
  rw [if_neg (show ¬ (1 : Nat) = 0 by decide), if_pos rfl] at h
  obtain ⟨x, i, v, e, h0, h1, h2, h3⟩ := h
  exact ⟨x, i, v, e, h0, h2, h3⟩
theorem zd_ww (hD : zk_d2 D ua) {t u : Nat} (ht : t ∈ zUa) (hu : u ∈ zUa) (h : t ≠ u) : ua t ≠ ua u := fun e => h (hD.2.2.2.1 t ht u hu e)
/-- a sum that was taken -/
theorem zd_26 (hD : zk_d2 D ua) {ty : Nat → Nat} {H : Heap} {l : List Int} (h : zr_pr D ty H (0, 26, 0) l) : ∃ a b c : Int, l = [a, b, c] ∧ Int32.ofInt a + Int32.ofInt b = Int32.ofInt c := by
  unfold zr_pr at h
  rw [if_pos rfl] at h
  exact hD.2.2.2.2.2.2.2.2 _ _ _ h
theorem zd_sum {a b c : Int} (h : Int32.ofInt a + Int32.ofInt b = Int32.ofInt c) (h1 : -2147483648 ≤ a + b) (h2 : a + b ≤ 2147483647) (h3 : -2147483648 ≤ c) (h4 : c ≤ 2147483647) : c = a + b := by
  rw [← Int32.ofInt_add] at h
  have := congrArg Int32.toInt h
  rw [zk_i32 h1 h2, zk_i32 h3 h4] at this
  exact this.symm
end
def rS1_86 : zRs := ((1, 86, 0), [(0, 102, 0)], [(0, 3, -30)], (102, []))
def rS5_86 : zRs := ((1, 86, 0), [(0, 103, 0), (1, 84, 0)], [(5, 0, 1), (0, 5, -1), (6, 3, -30)], (103, []))
def rS7_86 : zRs := ((1, 86, 0), [(0, 103, 0)], [(3, 0, 29)], (103, []))
def rS12_86 : zRs := ((1, 86, 0), [(0, 104, 0)], [(4, 3, 0)], (104, [(4, 0)]))
def rS1_88 : zRs := ((1, 88, 0), [(0, 102, 0)], [(0, 3, -30)], (102, []))
def rS5_88 : zRs := ((1, 88, 0), [(0, 103, 0), (1, 84, 0)], [(5, 0, 1), (0, 5, -1), (6, 3, -30)], (103, []))
def rS7_88 : zRs := ((1, 88, 0), [(0, 103, 0)], [(3, 0, 29)], (103, []))
def rS12_88 : zRs := ((1, 88, 0), [(0, 104, 0)], [(4, 3, 0)], (104, [(4, 0)]))
def rS3 : zRs := ((1, 84, 0), [(0, 102, 0)], [(0, 3, -1)], (102, []))
def rS4 : zRs := ((1, 84, 0), [(0, 102, 0)], [(3, 0, 1), (0, 3, -1), (1, 0, 0)], (103, []))
def rS9 : zRs := ((1, 84, 0), [(0, 103, 0), (1, 84, 0), (1, 86, 0)], [(5, 0, 1), (0, 5, -1), (3, 0, 1), (0, 3, -1), (1, 6, 1), (1, 0, 30), (8, 6, 30), (6, 8, -30), (9, 0, 11), (0, 9, -6)], (103, []))
def rS10 : zRs := ((1, 84, 0), [(0, 103, 0), (1, 84, 0), (1, 88, 0)], [(5, 0, 1), (0, 5, -1), (3, 0, 1), (0, 3, -1), (1, 6, 1), (1, 0, 30), (8, 6, 30), (6, 8, -30), (0, 9, 0)], (103, []))
def rS11 : zRs := ((1, 84, 0), [(0, 103, 0)], [(3, 0, 0)], (103, []))
def rW1 : zRs := ((1, 53, 0), [(0, 100, 0), (2, 33, 1)], [(5, 2, 0), (2, 5, 0)], (101, [(4, 0), (3, 0)]))
def rW2 : zRs := ((1, 55, 0), [(0, 101, 0), (2, 33, 3)], [(6, 4, 0), (4, 6, 0), (7, 2, 0), (2, 7, 0), (3, 5, 0), (5, 3, 0), (1, 0, 7)], (100, []))
def rW3 : zRs := ((1, 55, 0), [(0, 101, 0), (2, 33, 3), (2, 33, 1), (1, 53, 0)], [(6, 4, 0), (4, 6, 0), (7, 2, 0), (2, 7, 0), (3, 5, 0), (5, 3, 0), (8, 4, 0), (4, 8, 0), (10, 9, 0), (9, 10, 0), (11, 5, 0), (5, 11, 0), (12, 0, 5)], (100, []))
def rH1_0 : zRs := ((1, 105, 0), [(0, 121, 0), (1, 106, 0)], [(4, 0, 0), (0, 4, 0), (8, 0, 0), (0, 8, 0), (3, 9, 0), (9, 3, 0)], (123, [(1, 0), (6, 0)]))
def rH2_0 : zRs := ((1, 105, 0), [(0, 121, 0), (1, 106, 0)], [(0, 4, -1), (4, 0, 60), (8, 0, 0), (0, 8, 0), (3, 9, 0), (9, 3, 0)], (121, [(4, 0), (5, 0), (6, 0)]))
def rH3_0 : zRs := ((1, 106, 0), [(0, 123, 0), (1, 106, 0)], [(7, 0, 0), (0, 7, 0), (3, 0, 0), (0, 3, 0), (1, 8, 1), (8, 1, -1)], (121, [(0, 1), (4, 0), (5, 0)]))
def rH4_0 : zRs := ((1, 106, 0), [(0, 121, 0), (1, 106, 0)], [(0, 4, -1), (4, 0, 60), (8, 0, 0), (0, 8, 0), (3, 0, 0), (0, 3, 0), (1, 9, 1), (9, 1, -1)], (121, [(4, 1), (5, 0), (6, 0)]))
def rH1_1 : zRs := ((1, 105, 0), [(0, 122, 0), (1, 106, 0)], [(4, 0, 0), (0, 4, 0), (8, 0, 1), (0, 8, -1), (3, 9, 2000), (9, 3, -2000)], (124, [(1, 0), (6, 0)]))
def rH2_1 : zRs := ((1, 105, 0), [(0, 122, 0), (1, 106, 0)], [(0, 4, -1), (4, 0, 60), (8, 0, 1), (0, 8, -1), (3, 9, 2000), (9, 3, -2000)], (122, [(4, 0), (5, 0), (6, 0)]))
def rH3_1 : zRs := ((1, 106, 0), [(0, 124, 0), (1, 106, 0)], [(7, 0, 1), (0, 7, -1), (3, 0, 1), (0, 3, -1), (1, 8, 1), (8, 1, -1)], (122, [(0, 1), (4, 0), (5, 0)]))
def rH4_1 : zRs := ((1, 106, 0), [(0, 122, 0), (1, 106, 0)], [(0, 4, -1), (4, 0, 60), (8, 0, 1), (0, 8, -1), (3, 0, 1), (0, 3, -1), (1, 9, 1), (9, 1, -1)], (122, [(4, 1), (5, 0), (6, 0)]))
def rT1_0 : zRs := ((1, 111, 0), [(0, 132, 0)], [(0, 3, -2000)], (132, []))
def rT2_0 : zRs := ((1, 112, 0), [(0, 132, 0)], [(0, 3, -1)], (132, []))
def rT3_0 : zRs := ((1, 111, 0), [(0, 134, 0), (1, 105, 0)], [(3, 4, 0), (4, 3, 0), (6, 4, 0), (4, 6, 0), (1, 7, 0), (7, 1, 0)], (134, [(4, 1)]))
def rT1_1 : zRs := ((1, 111, 0), [(0, 133, 0)], [(3, 0, 1999)], (133, []))
def rT2_1 : zRs := ((1, 112, 0), [(0, 133, 0)], [(3, 0, 0)], (133, []))
def rT3_1 : zRs := ((1, 111, 0), [(0, 135, 0), (1, 105, 0)], [(3, 4, 2000), (4, 3, -2000), (6, 4, 2000), (4, 6, -2000), (1, 7, 0), (7, 1, 0)], (135, [(4, 1)]))
def rU10 : zRu := (10, [(0, 103, 0)], [], [([], [(104, [(0, 0)])])])
def rU11 : zRu := (11, [(0, 103, 0), (0, 104, 0), (1, 84, 0), (1, 86, 0), (1, 86, 0), (1, 88, 0), (1, 88, 0)], [(3, 0, 1), (0, 3, -1), (6, 1, 0), (1, 6, 0), (9, 1, 30), (1, 9, -30), (12, 1, 0), (1, 12, 0), (15, 1, 30), (1, 15, -30), (1, 4, -1), (7, 10, 0), (10, 7, 0), (16, 13, 0)], [([], [(104, [(1, 1)])])])
def rU12 : zRu := (12, [(0, 104, 0), (1, 84, 0)], [(3, 0, 0), (4, 1, 0), (4, 0, 30)], [([], [(102, [])])])
def rU13 : zRu := (13, [(0, 102, 0), (1, 84, 0), (1, 86, 0), (1, 88, 0)], [(2, 0, 0), (5, 3, -1), (8, 5, 0), (5, 8, 0), (0, 6, -12)], [([(0, 9, 0)], [])])
def rU14 : zRu := (14, [(0, 102, 0), (1, 84, 0), (1, 86, 0), (1, 88, 0)], [(2, 0, 0), (5, 3, -1), (8, 5, 0), (5, 8, 0), (6, 0, 5)], [([(0, 9, 0)], [])])
def rU20 : zRu := (20, [(0, 100, 0), (2, 33, 1), (1, 53, 0), (2, 33, 3), (1, 55, 0)], [(6, 1, 0), (1, 6, 0), (3, 2, 0), (2, 3, 0), (8, 7, 0), (7, 8, 0), (9, 4, 0), (4, 9, 0), (0, 5, -6)], [([(10, 0, 7)], [])])
def rU30 : zRu := (30, [(0, 120, 0)], [(1, 0, 29), (0, 1, 0)], [([], [(121, [(0, 0), (0, 0), (1, 0)])])])
def rU32 : zRu := (32, [(0, 121, 0), (1, 106, 0)], [(5, 0, 0), (0, 5, 0), (1, 0, 60)], [([(6, 0, 1829), (0, 6, 0)], [])])
def rU34 : zRu := (34, [(0, 121, 0)], [(2, 0, -1), (0, 2, 1), (1, 0, 2), (0, 1, -2)], [([], [(120, [(3, 1)])])])
def rU36 : zRu := (36, [(0, 121, 0)], [(0, 2, 0), (2, 0, 60), (1, 2, 1), (2, 1, -1)], [([], [(120, [(3, 1)])])])
def rU31 : zRu := (31, [(0, 120, 0)], [(1, 0, 29), (0, 1, 0)], [([], [(122, [(0, 0), (0, 0), (1, 0)])])])
def rU33 : zRu := (33, [(0, 122, 0), (1, 106, 0)], [(5, 0, 1), (0, 5, -1), (1, 0, 60)], [([(6, 0, 1829), (0, 6, 0)], [])])
def rU35 : zRu := (35, [(0, 122, 0)], [(2, 0, -1), (0, 2, 1), (1, 0, 2), (0, 1, -2)], [([], [(120, [(3, 1)])])])
def rU37 : zRu := (37, [(0, 122, 0)], [(0, 2, 0), (2, 0, 60), (1, 2, 1), (2, 1, -1)], [([], [(120, [(3, 1)])])])
def rU38 : zRu := (38, [(0, 120, 0), (1, 86, 0)], [(3, 1, 0), (1, 3, 0)], [([], [(120, [(1, 1)])])])
def rU29 : zRu := (29, [(0, 120, 0)], [(1, 0, 30)], [([], [(120, [(0, 30)])])])
def rU39 : zRu := (39, [(0, 102, 0), (1, 106, 0), (1, 106, 0)], [(2, 0, 0), (5, 0, 1), (0, 5, -1), (3, 0, 0), (0, 3, 0), (6, 0, 0), (0, 6, 0)], [([], [(120, [(0, 0)])])])
def rU40 : zRu := (40, [(0, 102, 0)], [], [([], [(134, [(0, 0)])])])
def rU42 : zRu := (42, [(0, 134, 0), (0, 120, 0), (1, 106, 0), (1, 112, 0)], [(4, 0, 0), (0, 4, 0), (7, 0, 0), (0, 7, 0), (5, 1, 0), (2, 0, 30), (8, 5, 0), (5, 8, 0)], [([], [(132, [])])])
def rU44 : zRu := (44, [(0, 132, 0)], [], [([], [(136, [(0, 0)])])])
def rU46 : zRu := (46, [(0, 136, 0), (1, 112, 0), (1, 111, 0)], [(3, 0, 0), (0, 3, 0), (6, 1, 0), (1, 6, 0), (1, 4, -1)], [([(7, 0, -1), (0, 7, 1), (4, 0, 1830), (1, 4, -1), (0, 1, 0)], [(136, [(1, 2)])]), ([(0, 7, 0), (7, 0, 60), (4, 0, 1830), (1, 4, -1), (0, 1, 0)], [(138, [(1, 0), (7, 0)])])])
def rU41 : zRu := (41, [(0, 102, 0)], [], [([], [(135, [(0, 0)])])])
def rU43 : zRu := (43, [(0, 135, 0), (0, 120, 0), (1, 106, 0), (1, 112, 0)], [(4, 0, 1), (0, 4, -1), (7, 0, 1), (0, 7, -1), (5, 1, 0), (2, 0, 30), (8, 5, 0), (5, 8, 0)], [([], [(133, [])])])
def rU45 : zRu := (45, [(0, 133, 0)], [], [([], [(137, [(0, 2000)])])])
def rU47 : zRu := (47, [(0, 137, 0), (1, 112, 0), (1, 111, 0)], [(3, 0, 1), (0, 3, -1), (6, 1, 0), (1, 6, 0), (1, 4, 1999)], [([(7, 0, -1), (0, 7, 1), (4, 0, 1830), (1, 4, 1999), (0, 1, -2000)], [(137, [(1, 2)])]), ([(0, 7, 0), (7, 0, 60), (4, 0, 1830), (1, 4, 1999), (0, 1, -2000)], [(139, [(1, 0), (7, 0)])])])
def rU48 : zRu := (48, [(0, 138, 0), (0, 26, 0)], [(3, 1, 0), (1, 3, 0), (4, 2, 1), (2, 4, -1), (3, 0, 100000), (5, 0, 2147483647), (0, 5, 2147483648)], [([], [(136, [(5, 0)])])])
def rU49 : zRu := (49, [(0, 139, 0), (0, 26, 0)], [(3, 1, 0), (1, 3, 0), (4, 2, 1), (2, 4, -1), (3, 0, 100000), (5, 0, 2147483647), (0, 5, 2147483648)], [([], [(137, [(5, 0)])])])
def zRSl : List zRs := [rS1_86, rS5_86, rS7_86, rS12_86, rS1_88, rS5_88, rS7_88, rS12_88, rS3, rS4, rS9, rS10, rS11, rW1, rW2, rW3, rH1_0, rH2_0, rH3_0, rH4_0, rH1_1, rH2_1, rH3_1, rH4_1, rT1_0, rT2_0, rT3_0, rT1_1, rT2_1, rT3_1]
def zRUl : List zRu := [rU10, rU11, rU12, rU13, rU14, rU20, rU30, rU32, rU34, rU36, rU31, rU33, rU35, rU37, rU38, rU29, rU39, rU40, rU42, rU44, rU46, rU41, rU43, rU45, rU47, rU48, rU49]
section
variable {D : zD} {ua : Nat → Nat}
theorem rS1_86_ok (hD : zk_d2 D ua) : zr_okS D rS1_86 := by
  refine zs_A_ok hD rfl (by decide) (by decide) ⟨_, _, rfl, by decide⟩ ?_
  intro ty H H' w a i Ls hT hp hc hw hk
  obtain ⟨l0, Ls', rfl, p0, hp⟩ := zr_cons hp
  cases zr_nil hp
  obtain ⟨rfl, h0_1, h0_2⟩ := zd_op hD (by decide) p0
  obtain ⟨c0, hc⟩ := zc1 hc
  have c0 : (0 : Int) ≤ (i : Int) + -30 := c0
  have e0 := hk 84 0 (by decide) (Or.inl (by decide))
  refine ⟨rfl, by rw [e0]; exact h0_1, fun j hj h => ?_⟩
  rw [e0] at hj
  rw [hk 86 _ (by decide) (Or.inr (by omega))] at h
  rw [hk 88 _ (by decide) (Or.inr (by omega))]
  exact h0_2 j hj h
theorem rS5_86_ok (hD : zk_d2 D ua) : zr_okS D rS5_86 := by
  refine zs_A_ok hD rfl (by decide) (by decide) ⟨_, _, rfl, by decide⟩ ?_
  intro ty H H' w a i Ls hT hp hc hw hk
  obtain ⟨l0, Ls', rfl, p0, hp⟩ := zr_cons hp
  obtain ⟨l1, Ls', rfl, p1, hp⟩ := zr_cons hp
  cases zr_nil hp
  obtain ⟨rfl, h0_1, h0_2⟩ := zd_op hD (by decide) p0
  obtain ⟨x, i1, v, rfl, hi1, hv⟩ := zd_em hD hT (by decide) p1
  obtain ⟨c0, hc⟩ := zc1 hc
  have c0 : i1 ≤ (0 : Int) + 1 := c0
  obtain ⟨c1, hc⟩ := zc1 hc
  have c1 : (0 : Int) ≤ i1 + -1 := c1
  obtain ⟨c2, hc⟩ := zc1 hc
  have c2 : v ≤ (i : Int) + -30 := c2
  rw [show i1.toNat = 1 by omega] at hv
  have e0 := hk 84 1 (by decide) (Or.inl (by decide))
  refine ⟨rfl, by rw [e0]; exact h0_1, fun j hj h => ?_⟩
  rw [e0] at hj
  rw [hk 86 _ (by decide) (Or.inr (by omega))] at h
  rw [hk 88 _ (by decide) (Or.inr (by omega))]
  exact h0_2 j hj h
theorem rS7_86_ok (hD : zk_d2 D ua) : zr_okS D rS7_86 := by
  refine zs_A_ok hD rfl (by decide) (by decide) ⟨_, _, rfl, by decide⟩ ?_
  intro ty H H' w a i Ls hT hp hc hw hk
  obtain ⟨l0, Ls', rfl, p0, hp⟩ := zr_cons hp
  cases zr_nil hp
  obtain ⟨rfl, h0_1, h0_2⟩ := zd_op hD (by decide) p0
  obtain ⟨c0, hc⟩ := zc1 hc
  have c0 : (i : Int) ≤ (0 : Int) + 29 := c0
  have e0 := hk 84 1 (by decide) (Or.inl (by decide))
  refine ⟨rfl, by rw [e0]; exact h0_1, fun j hj h => ?_⟩
  rw [e0] at hj
  rw [hk 86 _ (by decide) (Or.inr (by omega))] at h
  rw [hk 88 _ (by decide) (Or.inr (by omega))]
  exact h0_2 j hj h
theorem rS12_86_ok (hD : zk_d2 D ua) : zr_okS D rS12_86 := by
  refine zs_A_ok hD rfl (by decide) (by decide) ⟨_, _, rfl, by decide⟩ ?_
  intro ty H H' w a i Ls hT hp hc hw hk
  obtain ⟨l0, Ls', rfl, p0, hp⟩ := zr_cons hp
  cases zr_nil hp
  obtain ⟨k, rfl, h0_1⟩ := zd_op hD (by decide) p0
  obtain ⟨c0, hc⟩ := zc1 hc
  have c0 : k ≤ (i : Int) + 0 := c0
  refine ⟨k, by simp [rS12_86], fun j hj h => ?_⟩
  rw [hk 86 _ (by decide) (Or.inr (by omega))] at h
  rw [hk 88 _ (by decide) (Or.inr (by omega))]
  exact h0_1 j hj h
theorem rS1_88_ok (hD : zk_d2 D ua) : zr_okS D rS1_88 := by
  refine zs_A_ok hD rfl (by decide) (by decide) ⟨_, _, rfl, by decide⟩ ?_
  intro ty H H' w a i Ls hT hp hc hw hk
  obtain ⟨l0, Ls', rfl, p0, hp⟩ := zr_cons hp
  cases zr_nil hp
  obtain ⟨rfl, h0_1, h0_2⟩ := zd_op hD (by decide) p0
  obtain ⟨c0, hc⟩ := zc1 hc
  have c0 : (0 : Int) ≤ (i : Int) + -30 := c0
  have e0 := hk 84 0 (by decide) (Or.inl (by decide))
  refine ⟨rfl, by rw [e0]; exact h0_1, fun j hj h => ?_⟩
  rw [e0] at hj
  rw [hk 86 _ (by decide) (Or.inr (by omega))] at h
  rw [hk 88 _ (by decide) (Or.inr (by omega))]
  exact h0_2 j hj h
theorem rS5_88_ok (hD : zk_d2 D ua) : zr_okS D rS5_88 := by
  refine zs_A_ok hD rfl (by decide) (by decide) ⟨_, _, rfl, by decide⟩ ?_
  intro ty H H' w a i Ls hT hp hc hw hk
  obtain ⟨l0, Ls', rfl, p0, hp⟩ := zr_cons hp
  obtain ⟨l1, Ls', rfl, p1, hp⟩ := zr_cons hp
  cases zr_nil hp
  obtain ⟨rfl, h0_1, h0_2⟩ := zd_op hD (by decide) p0
  obtain ⟨x, i1, v, rfl, hi1, hv⟩ := zd_em hD hT (by decide) p1
  obtain ⟨c0, hc⟩ := zc1 hc
  have c0 : i1 ≤ (0 : Int) + 1 := c0
  obtain ⟨c1, hc⟩ := zc1 hc
  have c1 : (0 : Int) ≤ i1 + -1 := c1
  obtain ⟨c2, hc⟩ := zc1 hc
  have c2 : v ≤ (i : Int) + -30 := c2
  rw [show i1.toNat = 1 by omega] at hv
  have e0 := hk 84 1 (by decide) (Or.inl (by decide))
  refine ⟨rfl, by rw [e0]; exact h0_1, fun j hj h => ?_⟩
  rw [e0] at hj
  rw [hk 86 _ (by decide) (Or.inr (by omega))] at h
  rw [hk 88 _ (by decide) (Or.inr (by omega))]
  exact h0_2 j hj h
theorem rS7_88_ok (hD : zk_d2 D ua) : zr_okS D rS7_88 := by
  refine zs_A_ok hD rfl (by decide) (by decide) ⟨_, _, rfl, by decide⟩ ?_
  intro ty H H' w a i Ls hT hp hc hw hk
  obtain ⟨l0, Ls', rfl, p0, hp⟩ := zr_cons hp
  cases zr_nil hp
  obtain ⟨rfl, h0_1, h0_2⟩ := zd_op hD (by decide) p0
  obtain ⟨c0, hc⟩ := zc1 hc
  have c0 : (i : Int) ≤ (0 : Int) + 29 := c0
  have e0 := hk 84 1 (by decide) (Or.inl (by decide))
  refine ⟨rfl, by rw [e0]; exact h0_1, fun j hj h => ?_⟩
  rw [e0] at hj
  rw [hk 86 _ (by decide) (Or.inr (by omega))] at h
  rw [hk 88 _ (by decide) (Or.inr (by omega))]
  exact h0_2 j hj h
theorem rS12_88_ok (hD : zk_d2 D ua) : zr_okS D rS12_88 := by
  refine zs_A_ok hD rfl (by decide) (by decide) ⟨_, _, rfl, by decide⟩ ?_
  intro ty H H' w a i Ls hT hp hc hw hk
  obtain ⟨l0, Ls', rfl, p0, hp⟩ := zr_cons hp
  cases zr_nil hp
  obtain ⟨k, rfl, h0_1⟩ := zd_op hD (by decide) p0
  obtain ⟨c0, hc⟩ := zc1 hc
  have c0 : k ≤ (i : Int) + 0 := c0
  refine ⟨k, by simp [rS12_88], fun j hj h => ?_⟩
  rw [hk 86 _ (by decide) (Or.inr (by omega))] at h
  rw [hk 88 _ (by decide) (Or.inr (by omega))]
  exact h0_1 j hj h
theorem rS3_ok (hD : zk_d2 D ua) : zr_okS D rS3 := by
  refine zs_A_ok hD rfl (by decide) (by decide) ⟨_, _, rfl, by decide⟩ ?_
  intro ty H H' w a i Ls hT hp hc hw hk
  obtain ⟨l0, Ls', rfl, p0, hp⟩ := zr_cons hp
  cases zr_nil hp
  obtain ⟨rfl, h0_1, h0_2⟩ := zd_op hD (by decide) p0
  obtain ⟨c0, hc⟩ := zc1 hc
  have c0 : (0 : Int) ≤ (i : Int) + -1 := c0
  have e0 := hk 84 0 (by decide) (Or.inr (by omega))
  refine ⟨rfl, by rw [e0]; exact h0_1, fun j hj h => ?_⟩
  rw [e0] at hj
  rw [hk 86 _ (by decide) (Or.inl (by decide))] at h
  rw [hk 88 _ (by decide) (Or.inl (by decide))]
  exact h0_2 j hj h
theorem rS4_ok (hD : zk_d2 D ua) : zr_okS D rS4 := by
  refine zs_A_ok hD rfl (by decide) (by decide) ⟨_, _, rfl, by decide⟩ ?_
  intro ty H H' w a i Ls hT hp hc hw hk
  obtain ⟨l0, Ls', rfl, p0, hp⟩ := zr_cons hp
  cases zr_nil hp
  obtain ⟨rfl, h0_1, h0_2⟩ := zd_op hD (by decide) p0
  obtain ⟨c0, hc⟩ := zc1 hc
  have c0 : (i : Int) ≤ (0 : Int) + 1 := c0
  obtain ⟨c1, hc⟩ := zc1 hc
  have c1 : (0 : Int) ≤ (i : Int) + -1 := c1
  obtain ⟨c2, hc⟩ := zc1 hc
  have c2 : w ≤ (0 : Int) + 0 := c2
  have e : i = 1 := by omega
  subst e
  have hw : zi H' (ua 84) 1 = w := hw
  refine ⟨rfl, by omega, fun j hj h => ?_⟩
  omega
theorem rS9_ok (hD : zk_d2 D ua) : zr_okS D rS9 := by
  refine zs_A_ok hD rfl (by decide) (by decide) ⟨_, _, rfl, by decide⟩ ?_
  intro ty H H' w a i Ls hT hp hc hw hk
  obtain ⟨l0, Ls', rfl, p0, hp⟩ := zr_cons hp
  obtain ⟨l1, Ls', rfl, p1, hp⟩ := zr_cons hp
  obtain ⟨l2, Ls', rfl, p2, hp⟩ := zr_cons hp
  cases zr_nil hp
  obtain ⟨rfl, h0_1, h0_2⟩ := zd_op hD (by decide) p0
  obtain ⟨x, i1, v, rfl, hi1, hv⟩ := zd_em hD hT (by decide) p1
  obtain ⟨x2, i2, v2, rfl, hi2, hv2⟩ := zd_em hD hT (by decide) p2
  obtain ⟨c0, hc⟩ := zc1 hc
  have c0 : i1 ≤ (0 : Int) + 1 := c0
  obtain ⟨c1, hc⟩ := zc1 hc
  have c1 : (0 : Int) ≤ i1 + -1 := c1
  obtain ⟨c2, hc⟩ := zc1 hc
  have c2 : (i : Int) ≤ (0 : Int) + 1 := c2
  obtain ⟨c3, hc⟩ := zc1 hc
  have c3 : (0 : Int) ≤ (i : Int) + -1 := c3
  obtain ⟨c4, hc⟩ := zc1 hc
  have c4 : w ≤ v + 1 := c4
  obtain ⟨c5, hc⟩ := zc1 hc
  have c5 : w ≤ (0 : Int) + 30 := c5
  obtain ⟨c6, hc⟩ := zc1 hc
  have c6 : i2 ≤ v + 30 := c6
  obtain ⟨c7, hc⟩ := zc1 hc
  have c7 : v ≤ i2 + -30 := c7
  obtain ⟨c8, hc⟩ := zc1 hc
  have c8 : v2 ≤ (0 : Int) + 11 := c8
  obtain ⟨c9, hc⟩ := zc1 hc
  have c9 : (0 : Int) ≤ v2 + -6 := c9
  rw [show i1.toNat = 1 by omega] at hv
  have e : i = 1 := by omega
  subst e
  have hw : zi H' (ua 84) 1 = w := hw
  refine ⟨rfl, by omega, fun j hj h => ?_⟩
  rw [hk 86 _ (by decide) (Or.inl (by decide))] at h
  rw [hk 88 _ (by decide) (Or.inl (by decide))]
  by_cases e : (j : Int) < v
  · exact h0_2 j (by omega) h
  · rw [show i2.toNat = 30 + j by omega] at hv2
    omega
theorem rS10_ok (hD : zk_d2 D ua) : zr_okS D rS10 := by
  refine zs_A_ok hD rfl (by decide) (by decide) ⟨_, _, rfl, by decide⟩ ?_
  intro ty H H' w a i Ls hT hp hc hw hk
  obtain ⟨l0, Ls', rfl, p0, hp⟩ := zr_cons hp
  obtain ⟨l1, Ls', rfl, p1, hp⟩ := zr_cons hp
  obtain ⟨l2, Ls', rfl, p2, hp⟩ := zr_cons hp
  cases zr_nil hp
  obtain ⟨rfl, h0_1, h0_2⟩ := zd_op hD (by decide) p0
  obtain ⟨x, i1, v, rfl, hi1, hv⟩ := zd_em hD hT (by decide) p1
  obtain ⟨x2, i2, v2, rfl, hi2, hv2⟩ := zd_em hD hT (by decide) p2
  obtain ⟨c0, hc⟩ := zc1 hc
  have c0 : i1 ≤ (0 : Int) + 1 := c0
  obtain ⟨c1, hc⟩ := zc1 hc
  have c1 : (0 : Int) ≤ i1 + -1 := c1
  obtain ⟨c2, hc⟩ := zc1 hc
  have c2 : (i : Int) ≤ (0 : Int) + 1 := c2
  obtain ⟨c3, hc⟩ := zc1 hc
  have c3 : (0 : Int) ≤ (i : Int) + -1 := c3
  obtain ⟨c4, hc⟩ := zc1 hc
  have c4 : w ≤ v + 1 := c4
  obtain ⟨c5, hc⟩ := zc1 hc
  have c5 : w ≤ (0 : Int) + 30 := c5
  obtain ⟨c6, hc⟩ := zc1 hc
  have c6 : i2 ≤ v + 30 := c6
  obtain ⟨c7, hc⟩ := zc1 hc
  have c7 : v ≤ i2 + -30 := c7
  obtain ⟨c8, hc⟩ := zc1 hc
  have c8 : (0 : Int) ≤ v2 + 0 := c8
  rw [show i1.toNat = 1 by omega] at hv
  have e : i = 1 := by omega
  subst e
  have hw : zi H' (ua 84) 1 = w := hw
  refine ⟨rfl, by omega, fun j hj h => ?_⟩
  rw [hk 86 _ (by decide) (Or.inl (by decide))] at h
  rw [hk 88 _ (by decide) (Or.inl (by decide))]
  by_cases e : (j : Int) < v
  · exact h0_2 j (by omega) h
  · rw [show i2.toNat = 30 + j by omega] at hv2
    omega
theorem rS11_ok (hD : zk_d2 D ua) : zr_okS D rS11 := by
  refine zs_A_ok hD rfl (by decide) (by decide) ⟨_, _, rfl, by decide⟩ ?_
  intro ty H H' w a i Ls hT hp hc hw hk
  obtain ⟨l0, Ls', rfl, p0, hp⟩ := zr_cons hp
  cases zr_nil hp
  obtain ⟨rfl, h0_1, h0_2⟩ := zd_op hD (by decide) p0
  obtain ⟨c0, hc⟩ := zc1 hc
  have c0 : (i : Int) ≤ (0 : Int) + 0 := c0
  have e0 := hk 84 1 (by decide) (Or.inr (by omega))
  refine ⟨rfl, by rw [e0]; exact h0_1, fun j hj h => ?_⟩
  rw [e0] at hj
  rw [hk 86 _ (by decide) (Or.inl (by decide))] at h
  rw [hk 88 _ (by decide) (Or.inl (by decide))]
  exact h0_2 j hj h
theorem rW1_ok (hD : zk_d2 D ua) : zr_okS D rW1 := by
  intro ty H H' w a i hd Ls hT hT' ha hty hh hp hc hw ho
  rw [if_neg (show ¬ rW1.1.1 = 0 by decide)] at hh
  subst hh
  obtain ⟨l0, Ls', rfl, p0, hp⟩ := zr_cons hp
  obtain ⟨l1, Ls', rfl, p1, hp⟩ := zr_cons hp
  cases zr_nil hp
  obtain ⟨rfl, h0⟩ := zd_op hD (by decide) p0
  obtain ⟨x, y, rfl, x0, ⟨q, hq, ex⟩, hy⟩ := zd_wy hD hT p1
  obtain ⟨c0, hc⟩ := zc1 hc
  obtain ⟨c1, -⟩ := zc1 hc
  have c0 : y ≤ a + 0 := c0
  have c1 : a ≤ y + 0 := c1
  have e1 : a.toNat = ua (1010 + q) := by
    have := (h0 q hq).1
    rw [ex] at hy
    omega
  refine (hD.1 _ (by decide) _ _ _).mpr ⟨zd_ty hD (by decide) p0, x, i, by simp [rW1], fun p hp => ?_⟩
  obtain ⟨g1, g2, g3⟩ := h0 p hp
  have n1 : ua (1000 + p) ≠ a.toNat := by rw [e1]; exact zd_ww hD (by rcases hp with rfl | rfl <;> decide) (by rcases hq with rfl | rfl <;> decide) (by omega)
  have n2 : ua (1020 + p) ≠ a.toNat := by rw [e1]; exact zd_ww hD (by rcases hp with rfl | rfl <;> decide) (by rcases hq with rfl | rfl <;> decide) (by omega)
  refine ⟨by rw [ho _ _ (fun z => n1 z.1)]; exact g1, by rw [ho _ _ (fun z => n1 z.1)]; exact g2, fun j hj h => ?_⟩
  rw [ho _ _ (fun z => n2 z.1)]
  rw [ho _ _ (fun z => ?_)] at h
  · exact g3 j (fun z => z) h
  · refine hj ⟨?_, by omega⟩
    rw [ex]
    have : p = q := by
      rcases hp with rfl | rfl <;> rcases hq with rfl | rfl
      · rfl
      · exact absurd (z.1.trans e1) (zd_ww hD (by decide) (by decide) (by decide))
      · exact absurd (z.1.trans e1) (zd_ww hD (by decide) (by decide) (by decide))
      · rfl
    rw [this]
theorem rW2_ok (hD : zk_d2 D ua) : zr_okS D rW2 := by
  intro ty H H' w a i hd Ls hT hT' ha hty hh hp hc hw ho
  rw [if_neg (show ¬ rW2.1.1 = 0 by decide)] at hh
  subst hh
  obtain ⟨l0, Ls', rfl, p0, hp⟩ := zr_cons hp
  obtain ⟨l1, Ls', rfl, p1, hp⟩ := zr_cons hp
  cases zr_nil hp
  obtain ⟨x0, k, rfl, h0⟩ := zd_op hD (by decide) p0
  obtain ⟨x, z, rfl, hx0, ⟨q, hq, ex⟩, hz⟩ := zd_wy hD hT p1
  obtain ⟨c0, hc⟩ := zc1 hc
  obtain ⟨c1, hc⟩ := zc1 hc
  obtain ⟨c2, hc⟩ := zc1 hc
  obtain ⟨c3, hc⟩ := zc1 hc
  obtain ⟨c4, hc⟩ := zc1 hc
  obtain ⟨c5, hc⟩ := zc1 hc
  have c0 : x ≤ x0 + 0 := c0
  have c1 : x0 ≤ x + 0 := c1
  have c2 : z ≤ a + 0 := c2
  have c3 : a ≤ z + 0 := c3
  have c4 : (i : Int) ≤ k + 0 := c4
  have c5 : k ≤ (i : Int) + 0 := c5
  obtain ⟨c6, -⟩ := zc1 hc
  have c6 : w ≤ (0 : Int) + 7 := c6
  have e1 : a.toNat = ua (1020 + q) := by
    have := (h0 q hq).2.1
    rw [ex] at hz
    omega
  refine (hD.1 _ (by decide) _ _ _).mpr ⟨zd_ty hD (by decide) p0, by simp [rW2], fun p hp => ?_⟩
  obtain ⟨g1, g2, g3⟩ := h0 p hp
  have n1 : ua (1000 + p) ≠ a.toNat := by rw [e1]; exact zd_ww hD (by rcases hp with rfl | rfl <;> decide) (by rcases hq with rfl | rfl <;> decide) (by omega)
  have n2 : ua (1010 + p) ≠ a.toNat := by rw [e1]; exact zd_ww hD (by rcases hp with rfl | rfl <;> decide) (by rcases hq with rfl | rfl <;> decide) (by omega)
  refine ⟨by rw [ho _ _ (fun z => n1 z.1)]; exact g1, by rw [ho _ _ (fun z => n1 z.1)]; exact g2, fun j hj h => ?_⟩
  rw [ho _ _ (fun z => n2 z.1)] at h
  by_cases ej : p = q ∧ j = i
  · obtain ⟨rfl, rfl⟩ := ej
    rw [← e1, hw]
    omega
  · rw [ho _ _ (fun z => ej ⟨?_, z.2⟩)]
    · refine g3 j (fun z => ej ⟨?_, by omega⟩) h
      have z1 := z.1
      have : x0.toNat = ua (1000 + q) := by rw [← ex]; congr 1; omega
      rw [this] at z1
      rcases hp with rfl | rfl <;> rcases hq with rfl | rfl
      · rfl
      · exact absurd z1 (zd_ww hD (by decide) (by decide) (by decide))
      · exact absurd z1 (zd_ww hD (by decide) (by decide) (by decide))
      · rfl
    · have z1 := z.1.trans e1
      rcases hp with rfl | rfl <;> rcases hq with rfl | rfl
      · rfl
      · exact absurd z1 (zd_ww hD (by decide) (by decide) (by decide))
      · exact absurd z1 (zd_ww hD (by decide) (by decide) (by decide))
      · rfl
theorem rW3_ok (hD : zk_d2 D ua) : zr_okS D rW3 := by
  intro ty H H' w a i hd Ls hT hT' ha hty hh hp hc hw ho
  rw [if_neg (show ¬ rW3.1.1 = 0 by decide)] at hh
  subst hh
  obtain ⟨l0, Ls', rfl, p0, hp⟩ := zr_cons hp
  obtain ⟨l1, Ls', rfl, p1, hp⟩ := zr_cons hp
  obtain ⟨l2, Ls', rfl, p2, hp⟩ := zr_cons hp
  obtain ⟨l3, Ls', rfl, p3, hp⟩ := zr_cons hp
  cases zr_nil hp
  obtain ⟨x0, k, rfl, h0⟩ := zd_op hD (by decide) p0
  obtain ⟨x, z, rfl, hx0, ⟨q, hq, ex⟩, hz⟩ := zd_wy hD hT p1
  obtain ⟨x2, y, rfl, hx2, -, hy⟩ := zd_wy hD hT p2
  obtain ⟨y2, i1, v, rfl, hy2, hi1, hv⟩ := zd_pl p3
  obtain ⟨c0, hc⟩ := zc1 hc
  obtain ⟨c1, hc⟩ := zc1 hc
  obtain ⟨c2, hc⟩ := zc1 hc
  obtain ⟨c3, hc⟩ := zc1 hc
  obtain ⟨c4, hc⟩ := zc1 hc
  obtain ⟨c5, hc⟩ := zc1 hc
  have c0 : x ≤ x0 + 0 := c0
  have c1 : x0 ≤ x + 0 := c1
  have c2 : z ≤ a + 0 := c2
  have c3 : a ≤ z + 0 := c3
  have c4 : (i : Int) ≤ k + 0 := c4
  have c5 : k ≤ (i : Int) + 0 := c5
  obtain ⟨c6, hc⟩ := zc1 hc
  obtain ⟨c7, hc⟩ := zc1 hc
  obtain ⟨c8, hc⟩ := zc1 hc
  obtain ⟨c9, hc⟩ := zc1 hc
  obtain ⟨c10, hc⟩ := zc1 hc
  obtain ⟨c11, hc⟩ := zc1 hc
  obtain ⟨c12, -⟩ := zc1 hc
  have c6 : x2 ≤ x0 + 0 := c6
  have c7 : x0 ≤ x2 + 0 := c7
  have c8 : y2 ≤ y + 0 := c8
  have c9 : y ≤ y2 + 0 := c9
  have c10 : i1 ≤ k + 0 := c10
  have c11 : k ≤ i1 + 0 := c11
  have c12 : v ≤ (0 : Int) + 5 := c12
  have e1 : a.toNat = ua (1020 + q) := by
    have := (h0 q hq).2.1
    rw [ex] at hz
    omega
  refine (hD.1 _ (by decide) _ _ _).mpr ⟨zd_ty hD (by decide) p0, by simp [rW3], fun p hp => ?_⟩
  obtain ⟨g1, g2, g3⟩ := h0 p hp
  have n1 : ua (1000 + p) ≠ a.toNat := by rw [e1]; exact zd_ww hD (by rcases hp with rfl | rfl <;> decide) (by rcases hq with rfl | rfl <;> decide) (by omega)
  have n2 : ua (1010 + p) ≠ a.toNat := by rw [e1]; exact zd_ww hD (by rcases hp with rfl | rfl <;> decide) (by rcases hq with rfl | rfl <;> decide) (by omega)
  refine ⟨by rw [ho _ _ (fun z => n1 z.1)]; exact g1, by rw [ho _ _ (fun z => n1 z.1)]; exact g2, fun j hj h => ?_⟩
  rw [ho _ _ (fun z => n2 z.1)] at h
  by_cases ej : p = q ∧ j = i
  · obtain ⟨rfl, rfl⟩ := ej
    rw [← e1, hw]
    have e2 : y2.toNat = ua (1010 + p) := by
      have : x2.toNat = ua (1000 + p) := by rw [← ex]; congr 1; omega
      rw [this] at hy
      omega
    rw [e2, show i1.toNat = j by omega] at hv
    omega
  · rw [ho _ _ (fun z => ej ⟨?_, z.2⟩)]
    · refine g3 j (fun z => ej ⟨?_, by omega⟩) h
      have z1 := z.1
      have : x0.toNat = ua (1000 + q) := by rw [← ex]; congr 1; omega
      rw [this] at z1
      rcases hp with rfl | rfl <;> rcases hq with rfl | rfl
      · rfl
      · exact absurd z1 (zd_ww hD (by decide) (by decide) (by decide))
      · exact absurd z1 (zd_ww hD (by decide) (by decide) (by decide))
      · rfl
    · have z1 := z.1.trans e1
      rcases hp with rfl | rfl <;> rcases hq with rfl | rfl
      · rfl
      · exact absurd z1 (zd_ww hD (by decide) (by decide) (by decide))
      · exact absurd z1 (zd_ww hD (by decide) (by decide) (by decide))
      · rfl
theorem rH1_0_ok (hD : zk_d2 D ua) : zr_okS D rH1_0 := by
  refine zs_A_ok hD rfl (by decide) (by decide) ⟨_, _, rfl, by decide⟩ ?_
  intro ty H H' w a i Ls hT hp hc hw hk
  obtain ⟨l0, Ls', rfl, p0, hp⟩ := zr_cons hp
  obtain ⟨l1, Ls', rfl, p1, hp⟩ := zr_cons hp
  cases zr_nil hp
  obtain ⟨c, v, k, rfl, k0, k1, b0, b1, o1, o2, a, a1, a2, a3, a4⟩ := zd_op hD (by decide) p0
  obtain ⟨x, j1, m, rfl, hj1, hm⟩ := zd_em hD hT (by decide) p1
  obtain ⟨c0, hc⟩ := zc1 hc
  have c0 : c ≤ (0 : Int) + 0 := c0
  obtain ⟨c1, hc⟩ := zc1 hc
  have c1 : (0 : Int) ≤ c + 0 := c1
  obtain ⟨c2, hc⟩ := zc1 hc
  have c2 : j1 ≤ (0 : Int) + 0 := c2
  obtain ⟨c3, hc⟩ := zc1 hc
  have c3 : (0 : Int) ≤ j1 + 0 := c3
  obtain ⟨c4, hc⟩ := zc1 hc
  have c4 : (i : Int) ≤ m + 0 := c4
  obtain ⟨c5, hc⟩ := zc1 hc
  have c5 : m ≤ (i : Int) + 0 := c5
  have hkeep : ∀ j, j ≠ i → zi H' (ua 105) j = zi H (ua 105) j := fun j hj => hk 105 j (by decide) (Or.inr hj)
  have e106 : ∀ j, zi H' (ua 106) j = zi H (ua 106) j := fun j => hk 106 j (by decide) (Or.inl (by decide))
  rw [show j1.toNat = 0 by omega] at hm
  have hoth : zf_sw ua (zi H') 1 (zi H' (ua 106) 1) := by
    rw [e106]
    have o3 := o1.1
    refine ⟨o1.1, zb_k_keep o1.2 (fun j h1 h2 => hkeep j ?_)⟩
    have h1 : 2000 * 1 ≤ j := h1
    have h2 : j < 2000 * 1 + (zi H (ua 106) 1).toNat := h2
    have o2 : zi H (ua 106) 1 ≤ 61 * (k + 1) := o2
    have a1 := a1.1
    omega
  have hme : zf_sw ua (zi H') 0 a := by
    refine ⟨a1.1, zb_k_keep a1.2 (fun j h1 h2 => hkeep j ?_)⟩
    have h1 : 2000 * 0 ≤ j := h1
    have a1 := a1.1
    omega
  refine ⟨w, k, by simp [rH1_0], k0, k1, by omega, by omega, hoth, by rw [e106]; exact o2, a, hme, a2, by rw [e106]; omega, fun _ => ?_⟩
  have hw : zi H' (ua 105) i = w := hw
  have a5 := a1.1
  rw [show 2000 * 0 + a.toNat = i by omega]
  exact hw
theorem rH2_0_ok (hD : zk_d2 D ua) : zr_okS D rH2_0 := by
  refine zs_A_ok hD rfl (by decide) (by decide) ⟨_, _, rfl, by decide⟩ ?_
  intro ty H H' w a i Ls hT hp hc hw hk
  obtain ⟨l0, Ls', rfl, p0, hp⟩ := zr_cons hp
  obtain ⟨l1, Ls', rfl, p1, hp⟩ := zr_cons hp
  cases zr_nil hp
  obtain ⟨c, v, k, rfl, k0, k1, b0, b1, o1, o2, a, a1, a2, a3, a4⟩ := zd_op hD (by decide) p0
  obtain ⟨x, j1, m, rfl, hj1, hm⟩ := zd_em hD hT (by decide) p1
  obtain ⟨c0, hc⟩ := zc1 hc
  have c0 : (0 : Int) ≤ c + -1 := c0
  obtain ⟨c1, hc⟩ := zc1 hc
  have c1 : c ≤ (0 : Int) + 60 := c1
  obtain ⟨c2, hc⟩ := zc1 hc
  have c2 : j1 ≤ (0 : Int) + 0 := c2
  obtain ⟨c3, hc⟩ := zc1 hc
  have c3 : (0 : Int) ≤ j1 + 0 := c3
  obtain ⟨c4, hc⟩ := zc1 hc
  have c4 : (i : Int) ≤ m + 0 := c4
  obtain ⟨c5, hc⟩ := zc1 hc
  have c5 : m ≤ (i : Int) + 0 := c5
  have hkeep : ∀ j, j ≠ i → zi H' (ua 105) j = zi H (ua 105) j := fun j hj => hk 105 j (by decide) (Or.inr hj)
  have e106 : ∀ j, zi H' (ua 106) j = zi H (ua 106) j := fun j => hk 106 j (by decide) (Or.inl (by decide))
  rw [show j1.toNat = 0 by omega] at hm
  have hoth : zf_sw ua (zi H') 1 (zi H' (ua 106) 1) := by
    rw [e106]
    have o3 := o1.1
    refine ⟨o1.1, zb_k_keep o1.2 (fun j h1 h2 => hkeep j ?_)⟩
    have h1 : 2000 * 1 ≤ j := h1
    have h2 : j < 2000 * 1 + (zi H (ua 106) 1).toNat := h2
    have o2 : zi H (ua 106) 1 ≤ 61 * (k + 1) := o2
    have a1 := a1.1
    omega
  have hme : zf_sw ua (zi H') 0 a := by
    refine ⟨a1.1, zb_k_keep a1.2 (fun j h1 h2 => hkeep j ?_)⟩
    have h1 : 2000 * 0 ≤ j := h1
    have a1 := a1.1
    omega
  refine ⟨c, v, k, by simp [rH2_0], k0, k1, b0, b1, hoth, by rw [e106]; exact o2, a, hme, a2, by rw [e106]; exact a3, fun h => ?_⟩
  have a5 := a1.1
  rw [hkeep _ (by omega)]
  exact a4 h
theorem rH3_0_ok (hD : zk_d2 D ua) : zr_okS D rH3_0 := by
  refine zs_A_ok hD rfl (by decide) (by decide) ⟨_, _, rfl, by decide⟩ ?_
  intro ty H H' w a i Ls hT hp hc hw hk
  obtain ⟨l0, Ls', rfl, p0, hp⟩ := zr_cons hp
  obtain ⟨l1, Ls', rfl, p1, hp⟩ := zr_cons hp
  cases zr_nil hp
  obtain ⟨v, k, rfl, k0, k1, b0, b1, o1, o2, a, a1, a2, a3, a4⟩ := zd_op hD (by decide) p0
  obtain ⟨x, j1, m, rfl, hj1, hm⟩ := zd_em hD hT (by decide) p1
  obtain ⟨c0, hc⟩ := zc1 hc
  have c0 : j1 ≤ (0 : Int) + 0 := c0
  obtain ⟨c1, hc⟩ := zc1 hc
  have c1 : (0 : Int) ≤ j1 + 0 := c1
  obtain ⟨c2, hc⟩ := zc1 hc
  have c2 : (i : Int) ≤ (0 : Int) + 0 := c2
  obtain ⟨c3, hc⟩ := zc1 hc
  have c3 : (0 : Int) ≤ (i : Int) + 0 := c3
  obtain ⟨c4, hc⟩ := zc1 hc
  have c4 : w ≤ m + 1 := c4
  obtain ⟨c5, hc⟩ := zc1 hc
  have c5 : m ≤ w + -1 := c5
  have e105 : ∀ j, zi H' (ua 105) j = zi H (ua 105) j := fun j => hk 105 j (by decide) (Or.inl (by decide))
  rw [show j1.toNat = 0 by omega] at hm
  have ei : i = 0 := by omega
  subst ei
  have e106 : zi H' (ua 106) 1 = zi H (ua 106) 1 := hk 106 1 (by decide) (Or.inr (by decide))
  have hw : zi H' (ua 106) 0 = w := hw
  have hoth : zf_sw ua (zi H') 1 (zi H' (ua 106) 1) := by
    rw [e106]
    exact ⟨o1.1, zb_k_keep o1.2 (fun j _ _ => e105 j)⟩
  have hme : zf_sw ua (zi H') 0 a := ⟨a1.1, zb_k_keep a1.2 (fun j _ _ => e105 j)⟩
  refine ⟨1, v, k, by simp [rH3_0], k0, k1, by omega, by omega, hoth, by rw [e106]; exact o2, a, hme, a2, by omega, fun _ => ?_⟩
  rw [e105]
  exact a4 trivial
theorem rH4_0_ok (hD : zk_d2 D ua) : zr_okS D rH4_0 := by
  refine zs_A_ok hD rfl (by decide) (by decide) ⟨_, _, rfl, by decide⟩ ?_
  intro ty H H' w a i Ls hT hp hc hw hk
  obtain ⟨l0, Ls', rfl, p0, hp⟩ := zr_cons hp
  obtain ⟨l1, Ls', rfl, p1, hp⟩ := zr_cons hp
  cases zr_nil hp
  obtain ⟨c, v, k, rfl, k0, k1, b0, b1, o1, o2, a, a1, a2, a3, a4⟩ := zd_op hD (by decide) p0
  obtain ⟨x, j1, m, rfl, hj1, hm⟩ := zd_em hD hT (by decide) p1
  obtain ⟨c0, hc⟩ := zc1 hc
  have c0 : (0 : Int) ≤ c + -1 := c0
  obtain ⟨c1, hc⟩ := zc1 hc
  have c1 : c ≤ (0 : Int) + 60 := c1
  obtain ⟨c2, hc⟩ := zc1 hc
  have c2 : j1 ≤ (0 : Int) + 0 := c2
  obtain ⟨c3, hc⟩ := zc1 hc
  have c3 : (0 : Int) ≤ j1 + 0 := c3
  obtain ⟨c4, hc⟩ := zc1 hc
  have c4 : (i : Int) ≤ (0 : Int) + 0 := c4
  obtain ⟨c5, hc⟩ := zc1 hc
  have c5 : (0 : Int) ≤ (i : Int) + 0 := c5
  obtain ⟨c6, hc⟩ := zc1 hc
  have c6 : w ≤ m + 1 := c6
  obtain ⟨c7, hc⟩ := zc1 hc
  have c7 : m ≤ w + -1 := c7
  have e105 : ∀ j, zi H' (ua 105) j = zi H (ua 105) j := fun j => hk 105 j (by decide) (Or.inl (by decide))
  rw [show j1.toNat = 0 by omega] at hm
  have ei : i = 0 := by omega
  subst ei
  have e106 : zi H' (ua 106) 1 = zi H (ua 106) 1 := hk 106 1 (by decide) (Or.inr (by decide))
  have hw : zi H' (ua 106) 0 = w := hw
  have hoth : zf_sw ua (zi H') 1 (zi H' (ua 106) 1) := by
    rw [e106]
    exact ⟨o1.1, zb_k_keep o1.2 (fun j _ _ => e105 j)⟩
  have hme : zf_sw ua (zi H') 0 a := ⟨a1.1, zb_k_keep a1.2 (fun j _ _ => e105 j)⟩
  refine ⟨c + 1, v, k, by simp [rH4_0], k0, k1, by omega, by omega, hoth, by rw [e106]; exact o2, a, hme, a2, by omega, fun _ => ?_⟩
  rw [e105]
  exact a4 (by omega)
theorem rH1_1_ok (hD : zk_d2 D ua) : zr_okS D rH1_1 := by
  refine zs_A_ok hD rfl (by decide) (by decide) ⟨_, _, rfl, by decide⟩ ?_
  intro ty H H' w a i Ls hT hp hc hw hk
  obtain ⟨l0, Ls', rfl, p0, hp⟩ := zr_cons hp
  obtain ⟨l1, Ls', rfl, p1, hp⟩ := zr_cons hp
  cases zr_nil hp
  obtain ⟨c, v, k, rfl, k0, k1, b0, b1, o1, o2, a, a1, a2, a3, a4⟩ := zd_op hD (by decide) p0
  obtain ⟨x, j1, m, rfl, hj1, hm⟩ := zd_em hD hT (by decide) p1
  obtain ⟨c0, hc⟩ := zc1 hc
  have c0 : c ≤ (0 : Int) + 0 := c0
  obtain ⟨c1, hc⟩ := zc1 hc
  have c1 : (0 : Int) ≤ c + 0 := c1
  obtain ⟨c2, hc⟩ := zc1 hc
  have c2 : j1 ≤ (0 : Int) + 1 := c2
  obtain ⟨c3, hc⟩ := zc1 hc
  have c3 : (0 : Int) ≤ j1 + -1 := c3
  obtain ⟨c4, hc⟩ := zc1 hc
  have c4 : (i : Int) ≤ m + 2000 := c4
  obtain ⟨c5, hc⟩ := zc1 hc
  have c5 : m ≤ (i : Int) + -2000 := c5
  have hkeep : ∀ j, j ≠ i → zi H' (ua 105) j = zi H (ua 105) j := fun j hj => hk 105 j (by decide) (Or.inr hj)
  have e106 : ∀ j, zi H' (ua 106) j = zi H (ua 106) j := fun j => hk 106 j (by decide) (Or.inl (by decide))
  rw [show j1.toNat = 1 by omega] at hm
  have hoth : zf_sw ua (zi H') 0 (zi H' (ua 106) 0) := by
    rw [e106]
    have o3 := o1.1
    refine ⟨o1.1, zb_k_keep o1.2 (fun j h1 h2 => hkeep j ?_)⟩
    have h1 : 2000 * 0 ≤ j := h1
    have h2 : j < 2000 * 0 + (zi H (ua 106) 0).toNat := h2
    have o2 : zi H (ua 106) 0 ≤ 61 * (k + 1) := o2
    have a1 := a1.1
    omega
  have hme : zf_sw ua (zi H') 1 a := by
    refine ⟨a1.1, zb_k_keep a1.2 (fun j h1 h2 => hkeep j ?_)⟩
    have h1 : 2000 * 1 ≤ j := h1
    have a1 := a1.1
    omega
  refine ⟨w, k, by simp [rH1_1], k0, k1, by omega, by omega, hoth, by rw [e106]; exact o2, a, hme, a2, by rw [e106]; omega, fun _ => ?_⟩
  have hw : zi H' (ua 105) i = w := hw
  have a5 := a1.1
  rw [show 2000 * 1 + a.toNat = i by omega]
  exact hw
theorem rH2_1_ok (hD : zk_d2 D ua) : zr_okS D rH2_1 := by
  refine zs_A_ok hD rfl (by decide) (by decide) ⟨_, _, rfl, by decide⟩ ?_
  intro ty H H' w a i Ls hT hp hc hw hk
  obtain ⟨l0, Ls', rfl, p0, hp⟩ := zr_cons hp
  obtain ⟨l1, Ls', rfl, p1, hp⟩ := zr_cons hp
  cases zr_nil hp
  obtain ⟨c, v, k, rfl, k0, k1, b0, b1, o1, o2, a, a1, a2, a3, a4⟩ := zd_op hD (by decide) p0
  obtain ⟨x, j1, m, rfl, hj1, hm⟩ := zd_em hD hT (by decide) p1
  obtain ⟨c0, hc⟩ := zc1 hc
  have c0 : (0 : Int) ≤ c + -1 := c0
  obtain ⟨c1, hc⟩ := zc1 hc
  have c1 : c ≤ (0 : Int) + 60 := c1
  obtain ⟨c2, hc⟩ := zc1 hc
  have c2 : j1 ≤ (0 : Int) + 1 := c2
  obtain ⟨c3, hc⟩ := zc1 hc
  have c3 : (0 : Int) ≤ j1 + -1 := c3
  obtain ⟨c4, hc⟩ := zc1 hc
  have c4 : (i : Int) ≤ m + 2000 := c4
  obtain ⟨c5, hc⟩ := zc1 hc
  have c5 : m ≤ (i : Int) + -2000 := c5
  have hkeep : ∀ j, j ≠ i → zi H' (ua 105) j = zi H (ua 105) j := fun j hj => hk 105 j (by decide) (Or.inr hj)
  have e106 : ∀ j, zi H' (ua 106) j = zi H (ua 106) j := fun j => hk 106 j (by decide) (Or.inl (by decide))
  rw [show j1.toNat = 1 by omega] at hm
  have hoth : zf_sw ua (zi H') 0 (zi H' (ua 106) 0) := by
    rw [e106]
    have o3 := o1.1
    refine ⟨o1.1, zb_k_keep o1.2 (fun j h1 h2 => hkeep j ?_)⟩
    have h1 : 2000 * 0 ≤ j := h1
    have h2 : j < 2000 * 0 + (zi H (ua 106) 0).toNat := h2
    have o2 : zi H (ua 106) 0 ≤ 61 * (k + 1) := o2
    have a1 := a1.1
    omega
  have hme : zf_sw ua (zi H') 1 a := by
    refine ⟨a1.1, zb_k_keep a1.2 (fun j h1 h2 => hkeep j ?_)⟩
    have h1 : 2000 * 1 ≤ j := h1
    have a1 := a1.1
    omega
  refine ⟨c, v, k, by simp [rH2_1], k0, k1, b0, b1, hoth, by rw [e106]; exact o2, a, hme, a2, by rw [e106]; exact a3, fun h => ?_⟩
  have a5 := a1.1
  rw [hkeep _ (by omega)]
  exact a4 h
theorem rH3_1_ok (hD : zk_d2 D ua) : zr_okS D rH3_1 := by
  refine zs_A_ok hD rfl (by decide) (by decide) ⟨_, _, rfl, by decide⟩ ?_
  intro ty H H' w a i Ls hT hp hc hw hk
  obtain ⟨l0, Ls', rfl, p0, hp⟩ := zr_cons hp
  obtain ⟨l1, Ls', rfl, p1, hp⟩ := zr_cons hp
  cases zr_nil hp
  obtain ⟨v, k, rfl, k0, k1, b0, b1, o1, o2, a, a1, a2, a3, a4⟩ := zd_op hD (by decide) p0
  obtain ⟨x, j1, m, rfl, hj1, hm⟩ := zd_em hD hT (by decide) p1
  obtain ⟨c0, hc⟩ := zc1 hc
  have c0 : j1 ≤ (0 : Int) + 1 := c0
  obtain ⟨c1, hc⟩ := zc1 hc
  have c1 : (0 : Int) ≤ j1 + -1 := c1
  obtain ⟨c2, hc⟩ := zc1 hc
  have c2 : (i : Int) ≤ (0 : Int) + 1 := c2
  obtain ⟨c3, hc⟩ := zc1 hc
  have c3 : (0 : Int) ≤ (i : Int) + -1 := c3
  obtain ⟨c4, hc⟩ := zc1 hc
  have c4 : w ≤ m + 1 := c4
  obtain ⟨c5, hc⟩ := zc1 hc
  have c5 : m ≤ w + -1 := c5
  have e105 : ∀ j, zi H' (ua 105) j = zi H (ua 105) j := fun j => hk 105 j (by decide) (Or.inl (by decide))
  rw [show j1.toNat = 1 by omega] at hm
  have ei : i = 1 := by omega
  subst ei
  have e106 : zi H' (ua 106) 0 = zi H (ua 106) 0 := hk 106 0 (by decide) (Or.inr (by decide))
  have hw : zi H' (ua 106) 1 = w := hw
  have hoth : zf_sw ua (zi H') 0 (zi H' (ua 106) 0) := by
    rw [e106]
    exact ⟨o1.1, zb_k_keep o1.2 (fun j _ _ => e105 j)⟩
  have hme : zf_sw ua (zi H') 1 a := ⟨a1.1, zb_k_keep a1.2 (fun j _ _ => e105 j)⟩
  refine ⟨1, v, k, by simp [rH3_1], k0, k1, by omega, by omega, hoth, by rw [e106]; exact o2, a, hme, a2, by omega, fun _ => ?_⟩
  rw [e105]
  exact a4 trivial
theorem rH4_1_ok (hD : zk_d2 D ua) : zr_okS D rH4_1 := by
  refine zs_A_ok hD rfl (by decide) (by decide) ⟨_, _, rfl, by decide⟩ ?_
  intro ty H H' w a i Ls hT hp hc hw hk
  obtain ⟨l0, Ls', rfl, p0, hp⟩ := zr_cons hp
  obtain ⟨l1, Ls', rfl, p1, hp⟩ := zr_cons hp
  cases zr_nil hp
  obtain ⟨c, v, k, rfl, k0, k1, b0, b1, o1, o2, a, a1, a2, a3, a4⟩ := zd_op hD (by decide) p0
  obtain ⟨x, j1, m, rfl, hj1, hm⟩ := zd_em hD hT (by decide) p1
  obtain ⟨c0, hc⟩ := zc1 hc
  have c0 : (0 : Int) ≤ c + -1 := c0
  obtain ⟨c1, hc⟩ := zc1 hc
  have c1 : c ≤ (0 : Int) + 60 := c1
  obtain ⟨c2, hc⟩ := zc1 hc
  have c2 : j1 ≤ (0 : Int) + 1 := c2
  obtain ⟨c3, hc⟩ := zc1 hc
  have c3 : (0 : Int) ≤ j1 + -1 := c3
  obtain ⟨c4, hc⟩ := zc1 hc
  have c4 : (i : Int) ≤ (0 : Int) + 1 := c4
  obtain ⟨c5, hc⟩ := zc1 hc
  have c5 : (0 : Int) ≤ (i : Int) + -1 := c5
  obtain ⟨c6, hc⟩ := zc1 hc
  have c6 : w ≤ m + 1 := c6
  obtain ⟨c7, hc⟩ := zc1 hc
  have c7 : m ≤ w + -1 := c7
  have e105 : ∀ j, zi H' (ua 105) j = zi H (ua 105) j := fun j => hk 105 j (by decide) (Or.inl (by decide))
  rw [show j1.toNat = 1 by omega] at hm
  have ei : i = 1 := by omega
  subst ei
  have e106 : zi H' (ua 106) 0 = zi H (ua 106) 0 := hk 106 0 (by decide) (Or.inr (by decide))
  have hw : zi H' (ua 106) 1 = w := hw
  have hoth : zf_sw ua (zi H') 0 (zi H' (ua 106) 0) := by
    rw [e106]
    exact ⟨o1.1, zb_k_keep o1.2 (fun j _ _ => e105 j)⟩
  have hme : zf_sw ua (zi H') 1 a := ⟨a1.1, zb_k_keep a1.2 (fun j _ _ => e105 j)⟩
  refine ⟨c + 1, v, k, by simp [rH4_1], k0, k1, by omega, by omega, hoth, by rw [e106]; exact o2, a, hme, a2, by omega, fun _ => ?_⟩
  rw [e105]
  exact a4 (by omega)
theorem rT1_0_ok (hD : zk_d2 D ua) : zr_okS D rT1_0 := by
  refine zs_A_ok hD rfl (by decide) (by decide) ⟨_, _, rfl, by decide⟩ ?_
  intro ty H H' w a i Ls hT hp hc hw hk
  obtain ⟨l0, Ls', rfl, p0, hp⟩ := zr_cons hp
  cases zr_nil hp
  obtain ⟨rfl, d0, d1, d2⟩ := zd_op hD (by decide) p0
  obtain ⟨c0, hc⟩ := zc1 hc
  have c0 : (0 : Int) ≤ (i : Int) + -2000 := c0
  have e112 := hk 112 0 (by decide) (Or.inl (by decide))
  have d0 : 0 ≤ zi H (ua 112) 0 := d0
  refine ⟨rfl, by rw [e112]; exact d0, by rw [e112]; exact d1, ?_⟩
  rw [e112]
  refine zb_k_keep d2 (fun j h1 h2 => hk 111 j (by decide) (Or.inr ?_))
  have h1 : 2000 * 0 ≤ j := h1
  have h2 : j < 2000 * 0 + (zi H (ua 112) 0).toNat := h2
  have d1 : zi H (ua 112) 0 ≤ 1830 := d1
  omega
theorem rT2_0_ok (hD : zk_d2 D ua) : zr_okS D rT2_0 := by
  refine zs_A_ok hD rfl (by decide) (by decide) ⟨_, _, rfl, by decide⟩ ?_
  intro ty H H' w a i Ls hT hp hc hw hk
  obtain ⟨l0, Ls', rfl, p0, hp⟩ := zr_cons hp
  cases zr_nil hp
  obtain ⟨rfl, d0, d1, d2⟩ := zd_op hD (by decide) p0
  obtain ⟨c0, hc⟩ := zc1 hc
  have c0 : (0 : Int) ≤ (i : Int) + -1 := c0
  have e112 := hk 112 0 (by decide) (Or.inr (by omega))
  refine ⟨rfl, by rw [e112]; exact d0, by rw [e112]; exact d1, ?_⟩
  rw [e112]
  exact zb_k_keep d2 (fun j _ _ => hk 111 j (by decide) (Or.inl (by decide)))
theorem rT3_0_ok (hD : zk_d2 D ua) : zr_okS D rT3_0 := by
  refine zs_A_ok hD rfl (by decide) (by decide) ⟨_, _, rfl, by decide⟩ ?_
  intro ty H H' w a i Ls hT hp hc hw hk
  obtain ⟨l0, Ls', rfl, p0, hp⟩ := zr_cons hp
  obtain ⟨l1, Ls', rfl, p1, hp⟩ := zr_cons hp
  cases zr_nil hp
  obtain ⟨k, rfl, h0_1⟩ := zd_op hD (by decide) p0
  obtain ⟨x, j1, v, rfl, hj1, hv⟩ := zd_em hD hT (by decide) p1
  obtain ⟨c0, hc⟩ := zc1 hc
  have c0 : (i : Int) ≤ k + 0 := c0
  obtain ⟨c1, hc⟩ := zc1 hc
  have c1 : k ≤ (i : Int) + 0 := c1
  obtain ⟨c2, hc⟩ := zc1 hc
  have c2 : j1 ≤ k + 0 := c2
  obtain ⟨c3, hc⟩ := zc1 hc
  have c3 : k ≤ j1 + 0 := c3
  obtain ⟨c4, hc⟩ := zc1 hc
  have c4 : w ≤ v + 0 := c4
  obtain ⟨c5, hc⟩ := zc1 hc
  have c5 : v ≤ w + 0 := c5
  refine ⟨k + 1, by simp [rT3_0], fun j hj => ?_⟩
  have hw : zi H' (ua 111) i = w := hw
  rw [hk 105 _ (by decide) (Or.inl (by decide))]
  by_cases e : (j : Int) < k
  · rw [hk 111 _ (by decide) (Or.inr (by omega))]
    exact h0_1 j e
  · have e1 : j1.toNat = i := by omega
    rw [e1] at hv
    rw [show j = i by omega]
    omega
theorem rT1_1_ok (hD : zk_d2 D ua) : zr_okS D rT1_1 := by
  refine zs_A_ok hD rfl (by decide) (by decide) ⟨_, _, rfl, by decide⟩ ?_
  intro ty H H' w a i Ls hT hp hc hw hk
  obtain ⟨l0, Ls', rfl, p0, hp⟩ := zr_cons hp
  cases zr_nil hp
  obtain ⟨rfl, d0, d1, d2⟩ := zd_op hD (by decide) p0
  obtain ⟨c0, hc⟩ := zc1 hc
  have c0 : (i : Int) ≤ (0 : Int) + 1999 := c0
  have e112 := hk 112 1 (by decide) (Or.inl (by decide))
  have d0 : 0 ≤ zi H (ua 112) 1 := d0
  refine ⟨rfl, by rw [e112]; exact d0, by rw [e112]; exact d1, ?_⟩
  rw [e112]
  refine zb_k_keep d2 (fun j h1 h2 => hk 111 j (by decide) (Or.inr ?_))
  have h1 : 2000 * 1 ≤ j := h1
  have h2 : j < 2000 * 1 + (zi H (ua 112) 1).toNat := h2
  have d1 : zi H (ua 112) 1 ≤ 1830 := d1
  omega
theorem rT2_1_ok (hD : zk_d2 D ua) : zr_okS D rT2_1 := by
  refine zs_A_ok hD rfl (by decide) (by decide) ⟨_, _, rfl, by decide⟩ ?_
  intro ty H H' w a i Ls hT hp hc hw hk
  obtain ⟨l0, Ls', rfl, p0, hp⟩ := zr_cons hp
  cases zr_nil hp
  obtain ⟨rfl, d0, d1, d2⟩ := zd_op hD (by decide) p0
  obtain ⟨c0, hc⟩ := zc1 hc
  have c0 : (i : Int) ≤ (0 : Int) + 0 := c0
  have e112 := hk 112 1 (by decide) (Or.inr (by omega))
  refine ⟨rfl, by rw [e112]; exact d0, by rw [e112]; exact d1, ?_⟩
  rw [e112]
  exact zb_k_keep d2 (fun j _ _ => hk 111 j (by decide) (Or.inl (by decide)))
theorem rT3_1_ok (hD : zk_d2 D ua) : zr_okS D rT3_1 := by
  refine zs_A_ok hD rfl (by decide) (by decide) ⟨_, _, rfl, by decide⟩ ?_
  intro ty H H' w a i Ls hT hp hc hw hk
  obtain ⟨l0, Ls', rfl, p0, hp⟩ := zr_cons hp
  obtain ⟨l1, Ls', rfl, p1, hp⟩ := zr_cons hp
  cases zr_nil hp
  obtain ⟨k, rfl, h0_1⟩ := zd_op hD (by decide) p0
  obtain ⟨x, j1, v, rfl, hj1, hv⟩ := zd_em hD hT (by decide) p1
  obtain ⟨c0, hc⟩ := zc1 hc
  have c0 : (i : Int) ≤ k + 2000 := c0
  obtain ⟨c1, hc⟩ := zc1 hc
  have c1 : k ≤ (i : Int) + -2000 := c1
  obtain ⟨c2, hc⟩ := zc1 hc
  have c2 : j1 ≤ k + 2000 := c2
  obtain ⟨c3, hc⟩ := zc1 hc
  have c3 : k ≤ j1 + -2000 := c3
  obtain ⟨c4, hc⟩ := zc1 hc
  have c4 : w ≤ v + 0 := c4
  obtain ⟨c5, hc⟩ := zc1 hc
  have c5 : v ≤ w + 0 := c5
  refine ⟨k + 1, by simp [rT3_1], fun j hj => ?_⟩
  have hw : zi H' (ua 111) i = w := hw
  rw [hk 105 _ (by decide) (Or.inl (by decide))]
  by_cases e : (j : Int) < k
  · rw [hk 111 _ (by decide) (Or.inr (by omega))]
    exact h0_1 j e
  · have e1 : j1.toNat = i := by omega
    rw [e1] at hv
    rw [show 2000 + j = i by omega]
    omega
theorem rU10_ok (hD : zk_d2 D ua) : zr_okU D rU10 := by
  intro ty H Ls hT hp hc
  obtain ⟨l0, Ls', rfl, p0, hp⟩ := zr_cons hp
  cases zr_nil hp
  obtain ⟨rfl, h0_1, h0_2⟩ := zd_op hD (by decide) p0
  refine ⟨_, List.mem_singleton.mpr rfl, fun c hc => (by cases hc), fun f hf => ?_⟩
  rw [List.mem_singleton.mp hf]
  exact (hD.1 104 (by decide) _ _ _).mpr ⟨zd_ty hD (by decide) p0, 0, by simp, fun j hj => by omega⟩
theorem rU11_ok (hD : zk_d2 D ua) : zr_okU D rU11 := by
  intro ty H Ls hT hp hc
  obtain ⟨l0, Ls', rfl, p0, hp⟩ := zr_cons hp
  obtain ⟨l1, Ls', rfl, p1, hp⟩ := zr_cons hp
  obtain ⟨l2, Ls', rfl, p2, hp⟩ := zr_cons hp
  obtain ⟨l3, Ls', rfl, p3, hp⟩ := zr_cons hp
  obtain ⟨l4, Ls', rfl, p4, hp⟩ := zr_cons hp
  obtain ⟨l5, Ls', rfl, p5, hp⟩ := zr_cons hp
  obtain ⟨l6, Ls', rfl, p6, hp⟩ := zr_cons hp
  cases zr_nil hp
  obtain ⟨rfl, h0_1, h0_2⟩ := zd_op hD (by decide) p0
  obtain ⟨k, rfl, h1_1⟩ := zd_op hD (by decide) p1
  obtain ⟨x, i1, v, rfl, hi1, hv⟩ := zd_em hD hT (by decide) p2
  obtain ⟨x3, i3, v3, rfl, hi3, hv3⟩ := zd_em hD hT (by decide) p3
  obtain ⟨x4, i4, v4, rfl, hi4, hv4⟩ := zd_em hD hT (by decide) p4
  obtain ⟨x5, i5, v5, rfl, hi5, hv5⟩ := zd_em hD hT (by decide) p5
  obtain ⟨x6, i6, v6, rfl, hi6, hv6⟩ := zd_em hD hT (by decide) p6
  obtain ⟨c0, hc⟩ := zc1 hc
  have c0 : i1 ≤ (0 : Int) + 1 := c0
  obtain ⟨c1, hc⟩ := zc1 hc
  have c1 : (0 : Int) ≤ i1 + -1 := c1
  obtain ⟨c2, hc⟩ := zc1 hc
  have c2 : i3 ≤ k + 0 := c2
  obtain ⟨c3, hc⟩ := zc1 hc
  have c3 : k ≤ i3 + 0 := c3
  obtain ⟨c4, hc⟩ := zc1 hc
  have c4 : i4 ≤ k + 30 := c4
  obtain ⟨c5, hc⟩ := zc1 hc
  have c5 : k ≤ i4 + -30 := c5
  obtain ⟨c6, hc⟩ := zc1 hc
  have c6 : i5 ≤ k + 0 := c6
  obtain ⟨c7, hc⟩ := zc1 hc
  have c7 : k ≤ i5 + 0 := c7
  obtain ⟨c8, hc⟩ := zc1 hc
  have c8 : i6 ≤ k + 30 := c8
  obtain ⟨c9, hc⟩ := zc1 hc
  have c9 : k ≤ i6 + -30 := c9
  obtain ⟨c10, hc⟩ := zc1 hc
  have c10 : k ≤ v + -1 := c10
  obtain ⟨c11, hc⟩ := zc1 hc
  have c11 : v3 ≤ v4 + 0 := c11
  obtain ⟨c12, hc⟩ := zc1 hc
  have c12 : v4 ≤ v3 + 0 := c12
  obtain ⟨c13, hc⟩ := zc1 hc
  have c13 : v6 ≤ v5 + 0 := c13
  rw [show i1.toNat = 1 by omega] at hv
  refine ⟨_, List.mem_singleton.mpr rfl, fun c hc => (by cases hc), fun f hf => ?_⟩
  rw [List.mem_singleton.mp hf]
  refine (hD.1 104 (by decide) _ _ _).mpr ⟨zd_ty hD (by decide) p0, k + 1, by simp, fun j hj h => ?_⟩
  by_cases e : (j : Int) < k
  · exact h1_1 j e h
  · rw [show i3.toNat = 0 + j by omega] at hv3
    rw [show i4.toNat = 30 + j by omega] at hv4
    rw [show i5.toNat = 0 + j by omega] at hv5
    rw [show i6.toNat = 30 + j by omega] at hv6
    have := h0_2 j (by omega) (by omega)
    omega
theorem rU12_ok (hD : zk_d2 D ua) : zr_okU D rU12 := by
  intro ty H Ls hT hp hc
  obtain ⟨l0, Ls', rfl, p0, hp⟩ := zr_cons hp
  obtain ⟨l1, Ls', rfl, p1, hp⟩ := zr_cons hp
  cases zr_nil hp
  obtain ⟨k, rfl, h0_1⟩ := zd_op hD (by decide) p0
  obtain ⟨x, i1, v, rfl, hi1, hv⟩ := zd_em hD hT (by decide) p1
  obtain ⟨c0, hc⟩ := zc1 hc
  have c0 : i1 ≤ (0 : Int) + 0 := c0
  obtain ⟨c1, hc⟩ := zc1 hc
  have c1 : v ≤ k + 0 := c1
  obtain ⟨c2, hc⟩ := zc1 hc
  have c2 : v ≤ (0 : Int) + 30 := c2
  rw [show i1.toNat = 0 by omega] at hv
  refine ⟨_, List.mem_singleton.mpr rfl, fun c hc => (by cases hc), fun f hf => ?_⟩
  rw [List.mem_singleton.mp hf]
  exact (hD.1 102 (by decide) _ _ _).mpr ⟨zd_ty hD (by decide) p0, by simp, by omega, fun j hj h => h0_1 j (by omega) h⟩
theorem rU13_ok (hD : zk_d2 D ua) : zr_okU D rU13 := by
  intro ty H Ls hT hp hc
  obtain ⟨l0, Ls', rfl, p0, hp⟩ := zr_cons hp
  obtain ⟨l1, Ls', rfl, p1, hp⟩ := zr_cons hp
  obtain ⟨l2, Ls', rfl, p2, hp⟩ := zr_cons hp
  obtain ⟨l3, Ls', rfl, p3, hp⟩ := zr_cons hp
  cases zr_nil hp
  obtain ⟨rfl, h0_1, h0_2⟩ := zd_op hD (by decide) p0
  obtain ⟨x, i1, v, rfl, hi1, hv⟩ := zd_em hD hT (by decide) p1
  obtain ⟨x2, i2, v2, rfl, hi2, hv2⟩ := zd_em hD hT (by decide) p2
  obtain ⟨x3, i3, v3, rfl, hi3, hv3⟩ := zd_em hD hT (by decide) p3
  obtain ⟨c0, hc⟩ := zc1 hc
  have c0 : i1 ≤ (0 : Int) + 0 := c0
  obtain ⟨c1, hc⟩ := zc1 hc
  have c1 : i2 ≤ v + -1 := c1
  obtain ⟨c2, hc⟩ := zc1 hc
  have c2 : i3 ≤ i2 + 0 := c2
  obtain ⟨c3, hc⟩ := zc1 hc
  have c3 : i2 ≤ i3 + 0 := c3
  obtain ⟨c4, hc⟩ := zc1 hc
  have c4 : (0 : Int) ≤ v2 + -12 := c4
  rw [show i1.toNat = 0 by omega] at hv
  refine ⟨_, List.mem_singleton.mpr rfl, fun c hc => ?_, fun f hf => (by cases hf)⟩
  rw [List.mem_singleton.mp hc]
  show 0 ≤ v3 + 0
  rw [show i2.toNat = 0 + i3.toNat by omega] at hv2
  have := h0_2 i3.toNat (by omega) (by omega)
  rw [Nat.zero_add] at this
  omega
theorem rU14_ok (hD : zk_d2 D ua) : zr_okU D rU14 := by
  intro ty H Ls hT hp hc
  obtain ⟨l0, Ls', rfl, p0, hp⟩ := zr_cons hp
  obtain ⟨l1, Ls', rfl, p1, hp⟩ := zr_cons hp
  obtain ⟨l2, Ls', rfl, p2, hp⟩ := zr_cons hp
  obtain ⟨l3, Ls', rfl, p3, hp⟩ := zr_cons hp
  cases zr_nil hp
  obtain ⟨rfl, h0_1, h0_2⟩ := zd_op hD (by decide) p0
  obtain ⟨x, i1, v, rfl, hi1, hv⟩ := zd_em hD hT (by decide) p1
  obtain ⟨x2, i2, v2, rfl, hi2, hv2⟩ := zd_em hD hT (by decide) p2
  obtain ⟨x3, i3, v3, rfl, hi3, hv3⟩ := zd_em hD hT (by decide) p3
  obtain ⟨c0, hc⟩ := zc1 hc
  have c0 : i1 ≤ (0 : Int) + 0 := c0
  obtain ⟨c1, hc⟩ := zc1 hc
  have c1 : i2 ≤ v + -1 := c1
  obtain ⟨c2, hc⟩ := zc1 hc
  have c2 : i3 ≤ i2 + 0 := c2
  obtain ⟨c3, hc⟩ := zc1 hc
  have c3 : i2 ≤ i3 + 0 := c3
  obtain ⟨c4, hc⟩ := zc1 hc
  have c4 : v2 ≤ (0 : Int) + 5 := c4
  rw [show i1.toNat = 0 by omega] at hv
  refine ⟨_, List.mem_singleton.mpr rfl, fun c hc => ?_, fun f hf => (by cases hf)⟩
  rw [List.mem_singleton.mp hc]
  show 0 ≤ v3 + 0
  rw [show i2.toNat = 0 + i3.toNat by omega] at hv2
  have := h0_2 i3.toNat (by omega) (by omega)
  rw [Nat.zero_add] at this
  omega
theorem rU20_ok (hD : zk_d2 D ua) : zr_okU D rU20 := by
  intro ty H Ls hT hp hc
  obtain ⟨l0, Ls', rfl, p0, hp⟩ := zr_cons hp
  obtain ⟨l1, Ls', rfl, p1, hp⟩ := zr_cons hp
  obtain ⟨l2, Ls', rfl, p2, hp⟩ := zr_cons hp
  obtain ⟨l3, Ls', rfl, p3, hp⟩ := zr_cons hp
  obtain ⟨l4, Ls', rfl, p4, hp⟩ := zr_cons hp
  cases zr_nil hp
  obtain ⟨rfl, h0⟩ := zd_op hD (by decide) p0
  obtain ⟨x, y, rfl, hx, ⟨q, hq, ex⟩, hy⟩ := zd_wy hD hT p1
  obtain ⟨y2, i1, v1, rfl, hy2, hi1, hv1⟩ := zd_pl p2
  obtain ⟨x3, z, rfl, hx3, -, hz⟩ := zd_wy hD hT p3
  obtain ⟨z2, i2, v2, rfl, hz2, hi2, hv2⟩ := zd_pl p4
  obtain ⟨c0, hc⟩ := zc1 hc
  obtain ⟨c1, hc⟩ := zc1 hc
  obtain ⟨c2, hc⟩ := zc1 hc
  obtain ⟨c3, hc⟩ := zc1 hc
  obtain ⟨c4, hc⟩ := zc1 hc
  obtain ⟨c5, hc⟩ := zc1 hc
  obtain ⟨c6, hc⟩ := zc1 hc
  obtain ⟨c7, hc⟩ := zc1 hc
  obtain ⟨c8, -⟩ := zc1 hc
  have c0 : x3 ≤ x + 0 := c0
  have c1 : x ≤ x3 + 0 := c1
  have c2 : y2 ≤ y + 0 := c2
  have c3 : y ≤ y2 + 0 := c3
  have c4 : z2 ≤ z + 0 := c4
  have c5 : z ≤ z2 + 0 := c5
  have c6 : i2 ≤ i1 + 0 := c6
  have c7 : i1 ≤ i2 + 0 := c7
  have c8 : (0 : Int) ≤ v1 + -6 := c8
  refine ⟨_, List.mem_singleton.mpr rfl, fun c hc => ?_, fun f hf => (by cases hf)⟩
  rw [List.mem_singleton.mp hc]
  show v2 ≤ 0 + 7
  obtain ⟨g1, g2, g3⟩ := h0 q hq
  rw [ex] at hy
  rw [show x3.toNat = ua (1000 + q) by rw [← ex]; congr 1; omega] at hz
  have e1 : y2.toNat = ua (1010 + q) := by omega
  have e2 : z2.toNat = ua (1020 + q) := by omega
  rw [e1] at hv1
  rw [e2, show i2.toNat = i1.toNat by omega] at hv2
  have := g3 i1.toNat (fun z => z) (by omega)
  omega
theorem rU30_ok (hD : zk_d2 D ua) : zr_okU D rU30 := by
  intro ty H Ls hT hp hc
  obtain ⟨l0, Ls', rfl, p0, hp⟩ := zr_cons hp
  cases zr_nil hp
  obtain ⟨k, rfl, h0_1⟩ := zd_op hD (by decide) p0
  obtain ⟨c0, hc⟩ := zc1 hc
  have c0 : k ≤ (0 : Int) + 29 := c0
  obtain ⟨c1, hc⟩ := zc1 hc
  have c1 : (0 : Int) ≤ k + 0 := c1
  refine ⟨_, List.mem_singleton.mpr rfl, fun c hc => (by cases hc), fun f hf => ?_⟩
  rw [List.mem_singleton.mp hf]
  obtain ⟨g1, g2⟩ := h0_1 0 (by decide)
  obtain ⟨g3, g4⟩ := h0_1 1 (by decide)
  exact (hD.1 121 (by decide) _ _ _).mpr ⟨zd_ty hD (by decide) p0, 0, 0, k, by simp, by omega, by omega, by omega, by omega, g3, (show zi H (ua 106) 1 ≤ 61 * (k + 1) by omega), _, g1, g2, by omega, fun h => by omega⟩
theorem rU32_ok (hD : zk_d2 D ua) : zr_okU D rU32 := by
  intro ty H Ls hT hp hc
  obtain ⟨l0, Ls', rfl, p0, hp⟩ := zr_cons hp
  obtain ⟨l1, Ls', rfl, p1, hp⟩ := zr_cons hp
  cases zr_nil hp
  obtain ⟨c, v, k, rfl, k0, k1, b0, b1, o1, o2, a, a1, a2, a3, a4⟩ := zd_op hD (by decide) p0
  obtain ⟨x, j1, m, rfl, hj1, hm⟩ := zd_em hD hT (by decide) p1
  obtain ⟨c0, hc⟩ := zc1 hc
  have c0 : j1 ≤ (0 : Int) + 0 := c0
  obtain ⟨c1, hc⟩ := zc1 hc
  have c1 : (0 : Int) ≤ j1 + 0 := c1
  obtain ⟨c2, hc⟩ := zc1 hc
  have c2 : c ≤ (0 : Int) + 60 := c2
  rw [show j1.toNat = 0 by omega] at hm
  have a5 := a1.1
  refine ⟨_, List.mem_singleton.mpr rfl, fun c hc => ?_, fun f hf => (by cases hf)⟩
  simp only [List.mem_cons, List.not_mem_nil, or_false] at hc
  rcases hc with rfl | rfl
  · show m ≤ 0 + 1829
    omega
  · show 0 ≤ m + 0
    omega
theorem rU34_ok (hD : zk_d2 D ua) : zr_okU D rU34 := by
  intro ty H Ls hT hp hc
  obtain ⟨l0, Ls', rfl, p0, hp⟩ := zr_cons hp
  cases zr_nil hp
  obtain ⟨c, v, k, rfl, k0, k1, b0, b1, o1, o2, a, a1, a2, a3, a4⟩ := zd_op hD (by decide) p0
  obtain ⟨c0, hc⟩ := zc1 hc
  have c0 : v ≤ (0 : Int) + -1 := c0
  obtain ⟨c1, hc⟩ := zc1 hc
  have c1 : (0 : Int) ≤ v + 1 := c1
  obtain ⟨c2, hc⟩ := zc1 hc
  have c2 : c ≤ (0 : Int) + 2 := c2
  obtain ⟨c3, hc⟩ := zc1 hc
  have c3 : (0 : Int) ≤ c + -2 := c3
  refine ⟨_, List.mem_singleton.mpr rfl, fun c hc => (by cases hc), fun f hf => ?_⟩
  rw [List.mem_singleton.mp hf]
  have a5 := a1.1
  have hn : zf_sw ua (zi H) 0 (zi H (ua 106) 0) := by
    have h1 := a4 (by omega)
    have := zb_k_snoc a1.2 (by rw [h1]; omega) (by rw [h1]; omega)
    rw [h1] at this
    refine ⟨by omega, ?_⟩
    have e : 2000 * 0 + a.toNat + zb_l v = 2000 * 0 + (zi H (ua 106) 0).toNat := by
      unfold zb_l
      split <;> omega
    rw [e] at this
    exact this
  refine (hD.1 120 (by decide) _ _ _).mpr ⟨zd_ty hD (by decide) p0, k + 1, by simp, fun s hs => ?_⟩
  rcases hs with rfl | rfl
  · exact ⟨hn, by omega⟩
  · exact ⟨o1, o2⟩
theorem rU36_ok (hD : zk_d2 D ua) : zr_okU D rU36 := by
  intro ty H Ls hT hp hc
  obtain ⟨l0, Ls', rfl, p0, hp⟩ := zr_cons hp
  cases zr_nil hp
  obtain ⟨c, v, k, rfl, k0, k1, b0, b1, o1, o2, a, a1, a2, a3, a4⟩ := zd_op hD (by decide) p0
  obtain ⟨c0, hc⟩ := zc1 hc
  have c0 : (0 : Int) ≤ v + 0 := c0
  obtain ⟨c1, hc⟩ := zc1 hc
  have c1 : v ≤ (0 : Int) + 60 := c1
  obtain ⟨c2, hc⟩ := zc1 hc
  have c2 : c ≤ v + 1 := c2
  obtain ⟨c3, hc⟩ := zc1 hc
  have c3 : v ≤ c + -1 := c3
  refine ⟨_, List.mem_singleton.mpr rfl, fun c hc => (by cases hc), fun f hf => ?_⟩
  rw [List.mem_singleton.mp hf]
  have a5 := a1.1
  have hn : zf_sw ua (zi H) 0 (zi H (ua 106) 0) := by
    have h1 := a4 (by omega)
    have := zb_k_snoc a1.2 (by rw [h1]; omega) (by rw [h1]; omega)
    rw [h1] at this
    refine ⟨by omega, ?_⟩
    have e : 2000 * 0 + a.toNat + zb_l v = 2000 * 0 + (zi H (ua 106) 0).toNat := by
      unfold zb_l
      split <;> omega
    rw [e] at this
    exact this
  refine (hD.1 120 (by decide) _ _ _).mpr ⟨zd_ty hD (by decide) p0, k + 1, by simp, fun s hs => ?_⟩
  rcases hs with rfl | rfl
  · exact ⟨hn, by omega⟩
  · exact ⟨o1, o2⟩
theorem rU31_ok (hD : zk_d2 D ua) : zr_okU D rU31 := by
  intro ty H Ls hT hp hc
  obtain ⟨l0, Ls', rfl, p0, hp⟩ := zr_cons hp
  cases zr_nil hp
  obtain ⟨k, rfl, h0_1⟩ := zd_op hD (by decide) p0
  obtain ⟨c0, hc⟩ := zc1 hc
  have c0 : k ≤ (0 : Int) + 29 := c0
  obtain ⟨c1, hc⟩ := zc1 hc
  have c1 : (0 : Int) ≤ k + 0 := c1
  refine ⟨_, List.mem_singleton.mpr rfl, fun c hc => (by cases hc), fun f hf => ?_⟩
  rw [List.mem_singleton.mp hf]
  obtain ⟨g1, g2⟩ := h0_1 1 (by decide)
  obtain ⟨g3, g4⟩ := h0_1 0 (by decide)
  exact (hD.1 122 (by decide) _ _ _).mpr ⟨zd_ty hD (by decide) p0, 0, 0, k, by simp, by omega, by omega, by omega, by omega, g3, (show zi H (ua 106) 0 ≤ 61 * (k + 1) by omega), _, g1, g2, by omega, fun h => by omega⟩
theorem rU33_ok (hD : zk_d2 D ua) : zr_okU D rU33 := by
  intro ty H Ls hT hp hc
  obtain ⟨l0, Ls', rfl, p0, hp⟩ := zr_cons hp
  obtain ⟨l1, Ls', rfl, p1, hp⟩ := zr_cons hp
  cases zr_nil hp
  obtain ⟨c, v, k, rfl, k0, k1, b0, b1, o1, o2, a, a1, a2, a3, a4⟩ := zd_op hD (by decide) p0
  obtain ⟨x, j1, m, rfl, hj1, hm⟩ := zd_em hD hT (by decide) p1
  obtain ⟨c0, hc⟩ := zc1 hc
  have c0 : j1 ≤ (0 : Int) + 1 := c0
  obtain ⟨c1, hc⟩ := zc1 hc
  have c1 : (0 : Int) ≤ j1 + -1 := c1
  obtain ⟨c2, hc⟩ := zc1 hc
  have c2 : c ≤ (0 : Int) + 60 := c2
  rw [show j1.toNat = 1 by omega] at hm
  have a5 := a1.1
  refine ⟨_, List.mem_singleton.mpr rfl, fun c hc => ?_, fun f hf => (by cases hf)⟩
  simp only [List.mem_cons, List.not_mem_nil, or_false] at hc
  rcases hc with rfl | rfl
  · show m ≤ 0 + 1829
    omega
  · show 0 ≤ m + 0
    omega
theorem rU35_ok (hD : zk_d2 D ua) : zr_okU D rU35 := by
  intro ty H Ls hT hp hc
  obtain ⟨l0, Ls', rfl, p0, hp⟩ := zr_cons hp
  cases zr_nil hp
  obtain ⟨c, v, k, rfl, k0, k1, b0, b1, o1, o2, a, a1, a2, a3, a4⟩ := zd_op hD (by decide) p0
  obtain ⟨c0, hc⟩ := zc1 hc
  have c0 : v ≤ (0 : Int) + -1 := c0
  obtain ⟨c1, hc⟩ := zc1 hc
  have c1 : (0 : Int) ≤ v + 1 := c1
  obtain ⟨c2, hc⟩ := zc1 hc
  have c2 : c ≤ (0 : Int) + 2 := c2
  obtain ⟨c3, hc⟩ := zc1 hc
  have c3 : (0 : Int) ≤ c + -2 := c3
  refine ⟨_, List.mem_singleton.mpr rfl, fun c hc => (by cases hc), fun f hf => ?_⟩
  rw [List.mem_singleton.mp hf]
  have a5 := a1.1
  have hn : zf_sw ua (zi H) 1 (zi H (ua 106) 1) := by
    have h1 := a4 (by omega)
    have := zb_k_snoc a1.2 (by rw [h1]; omega) (by rw [h1]; omega)
    rw [h1] at this
    refine ⟨by omega, ?_⟩
    have e : 2000 * 1 + a.toNat + zb_l v = 2000 * 1 + (zi H (ua 106) 1).toNat := by
      unfold zb_l
      split <;> omega
    rw [e] at this
    exact this
  refine (hD.1 120 (by decide) _ _ _).mpr ⟨zd_ty hD (by decide) p0, k + 1, by simp, fun s hs => ?_⟩
  rcases hs with rfl | rfl
  · exact ⟨o1, o2⟩
  · exact ⟨hn, by omega⟩
theorem rU37_ok (hD : zk_d2 D ua) : zr_okU D rU37 := by
  intro ty H Ls hT hp hc
  obtain ⟨l0, Ls', rfl, p0, hp⟩ := zr_cons hp
  cases zr_nil hp
  obtain ⟨c, v, k, rfl, k0, k1, b0, b1, o1, o2, a, a1, a2, a3, a4⟩ := zd_op hD (by decide) p0
  obtain ⟨c0, hc⟩ := zc1 hc
  have c0 : (0 : Int) ≤ v + 0 := c0
  obtain ⟨c1, hc⟩ := zc1 hc
  have c1 : v ≤ (0 : Int) + 60 := c1
  obtain ⟨c2, hc⟩ := zc1 hc
  have c2 : c ≤ v + 1 := c2
  obtain ⟨c3, hc⟩ := zc1 hc
  have c3 : v ≤ c + -1 := c3
  refine ⟨_, List.mem_singleton.mpr rfl, fun c hc => (by cases hc), fun f hf => ?_⟩
  rw [List.mem_singleton.mp hf]
  have a5 := a1.1
  have hn : zf_sw ua (zi H) 1 (zi H (ua 106) 1) := by
    have h1 := a4 (by omega)
    have := zb_k_snoc a1.2 (by rw [h1]; omega) (by rw [h1]; omega)
    rw [h1] at this
    refine ⟨by omega, ?_⟩
    have e : 2000 * 1 + a.toNat + zb_l v = 2000 * 1 + (zi H (ua 106) 1).toNat := by
      unfold zb_l
      split <;> omega
    rw [e] at this
    exact this
  refine (hD.1 120 (by decide) _ _ _).mpr ⟨zd_ty hD (by decide) p0, k + 1, by simp, fun s hs => ?_⟩
  rcases hs with rfl | rfl
  · exact ⟨o1, o2⟩
  · exact ⟨hn, by omega⟩
theorem rU38_ok (hD : zk_d2 D ua) : zr_okU D rU38 := by
  intro ty H Ls hT hp hc
  obtain ⟨l0, Ls', rfl, p0, hp⟩ := zr_cons hp
  obtain ⟨l1, Ls', rfl, p1, hp⟩ := zr_cons hp
  cases zr_nil hp
  obtain ⟨k, rfl, h0_1⟩ := zd_op hD (by decide) p0
  obtain ⟨x, j1, v, rfl, hj1, hv⟩ := zd_em hD hT (by decide) p1
  obtain ⟨c0, hc⟩ := zc1 hc
  have c0 : j1 ≤ k + 0 := c0
  obtain ⟨c1, hc⟩ := zc1 hc
  have c1 : k ≤ j1 + 0 := c1
  refine ⟨_, List.mem_singleton.mpr rfl, fun c hc => (by cases hc), fun f hf => ?_⟩
  rw [List.mem_singleton.mp hf]
  refine (hD.1 120 (by decide) _ _ _).mpr ⟨zd_ty hD (by decide) p0, k + 1, by simp, fun s hs => ?_⟩
  obtain ⟨g1, g2⟩ := h0_1 s hs
  exact ⟨g1, by omega⟩
theorem rU29_ok (hD : zk_d2 D ua) : zr_okU D rU29 := by
  intro ty H Ls hT hp hc
  obtain ⟨l0, Ls', rfl, p0, hp⟩ := zr_cons hp
  cases zr_nil hp
  obtain ⟨k, rfl, h0_1⟩ := zd_op hD (by decide) p0
  obtain ⟨c0, hc⟩ := zc1 hc
  have c0 : k ≤ (0 : Int) + 30 := c0
  refine ⟨_, List.mem_singleton.mpr rfl, fun c hc => (by cases hc), fun f hf => ?_⟩
  rw [List.mem_singleton.mp hf]
  refine (hD.1 120 (by decide) _ _ _).mpr ⟨zd_ty hD (by decide) p0, 30, by simp, fun s hs => ?_⟩
  obtain ⟨g1, g2⟩ := h0_1 s hs
  exact ⟨g1, by omega⟩
theorem rU39_ok (hD : zk_d2 D ua) : zr_okU D rU39 := by
  intro ty H Ls hT hp hc
  obtain ⟨l0, Ls', rfl, p0, hp⟩ := zr_cons hp
  obtain ⟨l1, Ls', rfl, p1, hp⟩ := zr_cons hp
  obtain ⟨l2, Ls', rfl, p2, hp⟩ := zr_cons hp
  cases zr_nil hp
  obtain ⟨rfl, h0_1, h0_2⟩ := zd_op hD (by decide) p0
  obtain ⟨x, j1, m, rfl, hj1, hm⟩ := zd_em hD hT (by decide) p1
  obtain ⟨x2, j2, m2, rfl, hj2, hm2⟩ := zd_em hD hT (by decide) p2
  obtain ⟨c0, hc⟩ := zc1 hc
  have c0 : j1 ≤ (0 : Int) + 0 := c0
  obtain ⟨c1, hc⟩ := zc1 hc
  have c1 : j2 ≤ (0 : Int) + 1 := c1
  obtain ⟨c2, hc⟩ := zc1 hc
  have c2 : (0 : Int) ≤ j2 + -1 := c2
  obtain ⟨c3, hc⟩ := zc1 hc
  have c3 : m ≤ (0 : Int) + 0 := c3
  obtain ⟨c4, hc⟩ := zc1 hc
  have c4 : (0 : Int) ≤ m + 0 := c4
  obtain ⟨c5, hc⟩ := zc1 hc
  have c5 : m2 ≤ (0 : Int) + 0 := c5
  obtain ⟨c6, hc⟩ := zc1 hc
  have c6 : (0 : Int) ≤ m2 + 0 := c6
  refine ⟨_, List.mem_singleton.mpr rfl, fun c hc => (by cases hc), fun f hf => ?_⟩
  rw [List.mem_singleton.mp hf]
  rw [show j1.toNat = 0 by omega] at hm
  rw [show j2.toNat = 1 by omega] at hm2
  refine (hD.1 120 (by decide) _ _ _).mpr ⟨zd_ty hD (by decide) p0, 0, by simp, fun s hs => ?_⟩
  have e : zi H (ua 106) s = 0 := by rcases hs with rfl | rfl <;> omega
  rw [e]
  exact ⟨⟨by omega, zb_k_nil _ _⟩, by omega⟩
theorem rU40_ok (hD : zk_d2 D ua) : zr_okU D rU40 := by
  intro ty H Ls hT hp hc
  obtain ⟨l0, Ls', rfl, p0, hp⟩ := zr_cons hp
  cases zr_nil hp
  obtain ⟨rfl, h0_1, h0_2⟩ := zd_op hD (by decide) p0
  refine ⟨_, List.mem_singleton.mpr rfl, fun c hc => (by cases hc), fun f hf => ?_⟩
  rw [List.mem_singleton.mp hf]
  exact (hD.1 134 (by decide) _ _ _).mpr ⟨zd_ty hD (by decide) p0, 0, by simp, fun j hj => by omega⟩
theorem rU42_ok (hD : zk_d2 D ua) : zr_okU D rU42 := by
  intro ty H Ls hT hp hc
  obtain ⟨l0, Ls', rfl, p0, hp⟩ := zr_cons hp
  obtain ⟨l1, Ls', rfl, p1, hp⟩ := zr_cons hp
  obtain ⟨l2, Ls', rfl, p2, hp⟩ := zr_cons hp
  obtain ⟨l3, Ls', rfl, p3, hp⟩ := zr_cons hp
  cases zr_nil hp
  obtain ⟨k, rfl, h0_1⟩ := zd_op hD (by decide) p0
  obtain ⟨q, rfl, h1_1⟩ := zd_op hD (by decide) p1
  obtain ⟨x, j1, m, rfl, hj1, hm⟩ := zd_em hD hT (by decide) p2
  obtain ⟨x2, j2, m2, rfl, hj2, hm2⟩ := zd_em hD hT (by decide) p3
  obtain ⟨c0, hc⟩ := zc1 hc
  have c0 : j1 ≤ (0 : Int) + 0 := c0
  obtain ⟨c1, hc⟩ := zc1 hc
  have c1 : (0 : Int) ≤ j1 + 0 := c1
  obtain ⟨c2, hc⟩ := zc1 hc
  have c2 : j2 ≤ (0 : Int) + 0 := c2
  obtain ⟨c3, hc⟩ := zc1 hc
  have c3 : (0 : Int) ≤ j2 + 0 := c3
  obtain ⟨c4, hc⟩ := zc1 hc
  have c4 : m ≤ k + 0 := c4
  obtain ⟨c5, hc⟩ := zc1 hc
  have c5 : q ≤ (0 : Int) + 30 := c5
  obtain ⟨c6, hc⟩ := zc1 hc
  have c6 : m2 ≤ m + 0 := c6
  obtain ⟨c7, hc⟩ := zc1 hc
  have c7 : m ≤ m2 + 0 := c7
  refine ⟨_, List.mem_singleton.mpr rfl, fun c hc => (by cases hc), fun f hf => ?_⟩
  rw [List.mem_singleton.mp hf]
  rw [show j1.toNat = 0 by omega] at hm
  rw [show j2.toNat = 0 by omega] at hm2
  obtain ⟨g1, g2⟩ := h1_1 0 (by decide)
  have g0 := g1.1
  have e : zi H (ua 112) 0 = zi H (ua 106) 0 := by omega
  refine (hD.1 132 (by decide) _ _ _).mpr ⟨zd_ty hD (by decide) p0, by simp, by rw [e]; exact g0, by omega, ?_⟩
  rw [e]
  refine zb_k_keep g1.2 (fun j h1 h2 => ?_)
  have := h0_1 (j - 0) (by omega)
  exact this
theorem rU44_ok (hD : zk_d2 D ua) : zr_okU D rU44 := by
  intro ty H Ls hT hp hc
  obtain ⟨l0, Ls', rfl, p0, hp⟩ := zr_cons hp
  cases zr_nil hp
  obtain ⟨rfl, d0, d1, d2⟩ := zd_op hD (by decide) p0
  refine ⟨_, List.mem_singleton.mpr rfl, fun c hc => (by cases hc), fun f hf => ?_⟩
  rw [List.mem_singleton.mp hf]
  exact (hD.1 136 (by decide) _ _ _).mpr ⟨zd_ty hD (by decide) p0, 0, by simp, by omega, d0, d1, zb_w_start d2⟩
theorem rU46_ok (hD : zk_d2 D ua) : zr_okU D rU46 := by
  intro ty H Ls hT hp hc
  obtain ⟨l0, Ls', rfl, p0, hp⟩ := zr_cons hp
  obtain ⟨l1, Ls', rfl, p1, hp⟩ := zr_cons hp
  obtain ⟨l2, Ls', rfl, p2, hp⟩ := zr_cons hp
  cases zr_nil hp
  obtain ⟨k, rfl, q0, q1, q2, q3⟩ := zd_op hD (by decide) p0
  obtain ⟨x, j1, m, rfl, hj1, hm⟩ := zd_em hD hT (by decide) p1
  obtain ⟨x2, j2, n, rfl, hj2, hn⟩ := zd_em hD hT (by decide) p2
  obtain ⟨c0, hc⟩ := zc1 hc
  have c0 : j1 ≤ (0 : Int) + 0 := c0
  obtain ⟨c1, hc⟩ := zc1 hc
  have c1 : (0 : Int) ≤ j1 + 0 := c1
  obtain ⟨c2, hc⟩ := zc1 hc
  have c2 : j2 ≤ k + 0 := c2
  obtain ⟨c3, hc⟩ := zc1 hc
  have c3 : k ≤ j2 + 0 := c3
  obtain ⟨c4, hc⟩ := zc1 hc
  have c4 : k ≤ m + -1 := c4
  rw [show j1.toNat = 0 by omega] at hm
  rw [show j2.toNat = k.toNat by omega] at hn
  obtain ⟨s1, s2, s3⟩ := zb_w_step q3 (by omega)
  have le := zb_w_le q3
  rw [hn] at s1 s2 s3
  by_cases e : n = -1
  · refine ⟨_, List.mem_cons_self, fun c hc => ?_, fun f hf => ?_⟩
    · simp only [List.mem_cons, List.not_mem_nil, or_false] at hc
      rcases hc with rfl | rfl | rfl | rfl | rfl
      · show n ≤ 0 + -1
        omega
      · show 0 ≤ n + 1
        omega
      · show m ≤ 0 + 1830
        omega
      · show k ≤ m + -1
        omega
      · show 0 ≤ k + 0
        omega
    · rw [List.mem_singleton.mp hf]
      refine (hD.1 136 (by decide) _ _ _).mpr ⟨zd_ty hD (by decide) p0, k + 2, by simp, by omega, q1, q2, ?_⟩
      rw [show (k + 2).toNat = k.toNat + zb_l n by unfold zb_l; rw [if_pos e]; omega]
      exact s3
  · refine ⟨_, List.mem_cons_of_mem _ List.mem_cons_self, fun c hc => ?_, fun f hf => ?_⟩
    · simp only [List.mem_cons, List.not_mem_nil, or_false] at hc
      rcases hc with rfl | rfl | rfl | rfl | rfl
      · show 0 ≤ n + 0
        omega
      · show n ≤ 0 + 60
        omega
      · show m ≤ 0 + 1830
        omega
      · show k ≤ m + -1
        omega
      · show 0 ≤ k + 0
        omega
    · rw [List.mem_singleton.mp hf]
      refine (hD.1 138 (by decide) _ _ _).mpr ⟨zd_ty hD (by decide) p0, k, n, by simp, by omega, by omega, by omega, q1, q2, ?_⟩
      rw [show (k + 1 + n).toNat = k.toNat + zb_l n by unfold zb_l; rw [if_neg e]; omega]
      exact s3
theorem rU41_ok (hD : zk_d2 D ua) : zr_okU D rU41 := by
  intro ty H Ls hT hp hc
  obtain ⟨l0, Ls', rfl, p0, hp⟩ := zr_cons hp
  cases zr_nil hp
  obtain ⟨rfl, h0_1, h0_2⟩ := zd_op hD (by decide) p0
  refine ⟨_, List.mem_singleton.mpr rfl, fun c hc => (by cases hc), fun f hf => ?_⟩
  rw [List.mem_singleton.mp hf]
  exact (hD.1 135 (by decide) _ _ _).mpr ⟨zd_ty hD (by decide) p0, 0, by simp, fun j hj => by omega⟩
theorem rU43_ok (hD : zk_d2 D ua) : zr_okU D rU43 := by
  intro ty H Ls hT hp hc
  obtain ⟨l0, Ls', rfl, p0, hp⟩ := zr_cons hp
  obtain ⟨l1, Ls', rfl, p1, hp⟩ := zr_cons hp
  obtain ⟨l2, Ls', rfl, p2, hp⟩ := zr_cons hp
  obtain ⟨l3, Ls', rfl, p3, hp⟩ := zr_cons hp
  cases zr_nil hp
  obtain ⟨k, rfl, h0_1⟩ := zd_op hD (by decide) p0
  obtain ⟨q, rfl, h1_1⟩ := zd_op hD (by decide) p1
  obtain ⟨x, j1, m, rfl, hj1, hm⟩ := zd_em hD hT (by decide) p2
  obtain ⟨x2, j2, m2, rfl, hj2, hm2⟩ := zd_em hD hT (by decide) p3
  obtain ⟨c0, hc⟩ := zc1 hc
  have c0 : j1 ≤ (0 : Int) + 1 := c0
  obtain ⟨c1, hc⟩ := zc1 hc
  have c1 : (0 : Int) ≤ j1 + -1 := c1
  obtain ⟨c2, hc⟩ := zc1 hc
  have c2 : j2 ≤ (0 : Int) + 1 := c2
  obtain ⟨c3, hc⟩ := zc1 hc
  have c3 : (0 : Int) ≤ j2 + -1 := c3
  obtain ⟨c4, hc⟩ := zc1 hc
  have c4 : m ≤ k + 0 := c4
  obtain ⟨c5, hc⟩ := zc1 hc
  have c5 : q ≤ (0 : Int) + 30 := c5
  obtain ⟨c6, hc⟩ := zc1 hc
  have c6 : m2 ≤ m + 0 := c6
  obtain ⟨c7, hc⟩ := zc1 hc
  have c7 : m ≤ m2 + 0 := c7
  refine ⟨_, List.mem_singleton.mpr rfl, fun c hc => (by cases hc), fun f hf => ?_⟩
  rw [List.mem_singleton.mp hf]
  rw [show j1.toNat = 1 by omega] at hm
  rw [show j2.toNat = 1 by omega] at hm2
  obtain ⟨g1, g2⟩ := h1_1 1 (by decide)
  have g0 := g1.1
  have e : zi H (ua 112) 1 = zi H (ua 106) 1 := by omega
  refine (hD.1 133 (by decide) _ _ _).mpr ⟨zd_ty hD (by decide) p0, by simp, by rw [e]; exact g0, by omega, ?_⟩
  rw [e]
  refine zb_k_keep g1.2 (fun j h1 h2 => ?_)
  have := h0_1 (j - 2000) (by omega)
  rw [show 2000 + (j - 2000) = j by omega] at this
  exact this
theorem rU45_ok (hD : zk_d2 D ua) : zr_okU D rU45 := by
  intro ty H Ls hT hp hc
  obtain ⟨l0, Ls', rfl, p0, hp⟩ := zr_cons hp
  cases zr_nil hp
  obtain ⟨rfl, d0, d1, d2⟩ := zd_op hD (by decide) p0
  refine ⟨_, List.mem_singleton.mpr rfl, fun c hc => (by cases hc), fun f hf => ?_⟩
  rw [List.mem_singleton.mp hf]
  exact (hD.1 137 (by decide) _ _ _).mpr ⟨zd_ty hD (by decide) p0, 2000, by simp, by omega, d0, d1, zb_w_start d2⟩
theorem rU47_ok (hD : zk_d2 D ua) : zr_okU D rU47 := by
  intro ty H Ls hT hp hc
  obtain ⟨l0, Ls', rfl, p0, hp⟩ := zr_cons hp
  obtain ⟨l1, Ls', rfl, p1, hp⟩ := zr_cons hp
  obtain ⟨l2, Ls', rfl, p2, hp⟩ := zr_cons hp
  cases zr_nil hp
  obtain ⟨k, rfl, q0, q1, q2, q3⟩ := zd_op hD (by decide) p0
  obtain ⟨x, j1, m, rfl, hj1, hm⟩ := zd_em hD hT (by decide) p1
  obtain ⟨x2, j2, n, rfl, hj2, hn⟩ := zd_em hD hT (by decide) p2
  obtain ⟨c0, hc⟩ := zc1 hc
  have c0 : j1 ≤ (0 : Int) + 1 := c0
  obtain ⟨c1, hc⟩ := zc1 hc
  have c1 : (0 : Int) ≤ j1 + -1 := c1
  obtain ⟨c2, hc⟩ := zc1 hc
  have c2 : j2 ≤ k + 0 := c2
  obtain ⟨c3, hc⟩ := zc1 hc
  have c3 : k ≤ j2 + 0 := c3
  obtain ⟨c4, hc⟩ := zc1 hc
  have c4 : k ≤ m + 1999 := c4
  rw [show j1.toNat = 1 by omega] at hm
  rw [show j2.toNat = k.toNat by omega] at hn
  obtain ⟨s1, s2, s3⟩ := zb_w_step q3 (by omega)
  have le := zb_w_le q3
  rw [hn] at s1 s2 s3
  by_cases e : n = -1
  · refine ⟨_, List.mem_cons_self, fun c hc => ?_, fun f hf => ?_⟩
    · simp only [List.mem_cons, List.not_mem_nil, or_false] at hc
      rcases hc with rfl | rfl | rfl | rfl | rfl
      · show n ≤ 0 + -1
        omega
      · show 0 ≤ n + 1
        omega
      · show m ≤ 0 + 1830
        omega
      · show k ≤ m + 1999
        omega
      · show 0 ≤ k + -2000
        omega
    · rw [List.mem_singleton.mp hf]
      refine (hD.1 137 (by decide) _ _ _).mpr ⟨zd_ty hD (by decide) p0, k + 2, by simp, by omega, q1, q2, ?_⟩
      rw [show (k + 2).toNat = k.toNat + zb_l n by unfold zb_l; rw [if_pos e]; omega]
      exact s3
  · refine ⟨_, List.mem_cons_of_mem _ List.mem_cons_self, fun c hc => ?_, fun f hf => ?_⟩
    · simp only [List.mem_cons, List.not_mem_nil, or_false] at hc
      rcases hc with rfl | rfl | rfl | rfl | rfl
      · show 0 ≤ n + 0
        omega
      · show n ≤ 0 + 60
        omega
      · show m ≤ 0 + 1830
        omega
      · show k ≤ m + 1999
        omega
      · show 0 ≤ k + -2000
        omega
    · rw [List.mem_singleton.mp hf]
      refine (hD.1 139 (by decide) _ _ _).mpr ⟨zd_ty hD (by decide) p0, k, n, by simp, by omega, by omega, by omega, q1, q2, ?_⟩
      rw [show (k + 1 + n).toNat = k.toNat + zb_l n by unfold zb_l; rw [if_neg e]; omega]
      exact s3
theorem rU48_ok (hD : zk_d2 D ua) : zr_okU D rU48 := by
  intro ty H Ls hT hp hc
  obtain ⟨l0, Ls', rfl, p0, hp⟩ := zr_cons hp
  obtain ⟨l1, Ls', rfl, p1, hp⟩ := zr_cons hp
  cases zr_nil hp
  obtain ⟨k, n, rfl, n0, n1, q0, q1, q2, q3⟩ := zd_op hD (by decide) p0
  obtain ⟨p, q, z, rfl, h26⟩ := zd_26 hD p1
  obtain ⟨c0, hc⟩ := zc1 hc
  have c0 : p ≤ k + 0 := c0
  obtain ⟨c1, hc⟩ := zc1 hc
  have c1 : k ≤ p + 0 := c1
  obtain ⟨c2, hc⟩ := zc1 hc
  have c2 : q ≤ n + 1 := c2
  obtain ⟨c3, hc⟩ := zc1 hc
  have c3 : n ≤ q + -1 := c3
  obtain ⟨c4, hc⟩ := zc1 hc
  have c4 : p ≤ (0 : Int) + 100000 := c4
  obtain ⟨c5, hc⟩ := zc1 hc
  have c5 : z ≤ (0 : Int) + 2147483647 := c5
  obtain ⟨c6, hc⟩ := zc1 hc
  have c6 : (0 : Int) ≤ z + 2147483648 := c6
  refine ⟨_, List.mem_singleton.mpr rfl, fun c hc => (by cases hc), fun f hf => ?_⟩
  rw [List.mem_singleton.mp hf]
  have e := zd_sum h26 (by omega) (by omega) (by omega) (by omega)
  have e : z = k + 1 + n := by omega
  subst e
  exact (hD.1 136 (by decide) _ _ _).mpr ⟨zd_ty hD (by decide) p0, _, by simp, q0, q1, q2, q3⟩
theorem rU49_ok (hD : zk_d2 D ua) : zr_okU D rU49 := by
  intro ty H Ls hT hp hc
  obtain ⟨l0, Ls', rfl, p0, hp⟩ := zr_cons hp
  obtain ⟨l1, Ls', rfl, p1, hp⟩ := zr_cons hp
  cases zr_nil hp
  obtain ⟨k, n, rfl, n0, n1, q0, q1, q2, q3⟩ := zd_op hD (by decide) p0
  obtain ⟨p, q, z, rfl, h26⟩ := zd_26 hD p1
  obtain ⟨c0, hc⟩ := zc1 hc
  have c0 : p ≤ k + 0 := c0
  obtain ⟨c1, hc⟩ := zc1 hc
  have c1 : k ≤ p + 0 := c1
  obtain ⟨c2, hc⟩ := zc1 hc
  have c2 : q ≤ n + 1 := c2
  obtain ⟨c3, hc⟩ := zc1 hc
  have c3 : n ≤ q + -1 := c3
  obtain ⟨c4, hc⟩ := zc1 hc
  have c4 : p ≤ (0 : Int) + 100000 := c4
  obtain ⟨c5, hc⟩ := zc1 hc
  have c5 : z ≤ (0 : Int) + 2147483647 := c5
  obtain ⟨c6, hc⟩ := zc1 hc
  have c6 : (0 : Int) ≤ z + 2147483648 := c6
  refine ⟨_, List.mem_singleton.mpr rfl, fun c hc => (by cases hc), fun f hf => ?_⟩
  rw [List.mem_singleton.mp hf]
  have e := zd_sum h26 (by omega) (by omega) (by omega) (by omega)
  have e : z = k + 1 + n := by omega
  subst e
  exact (hD.1 137 (by decide) _ _ _).mpr ⟨zd_ty hD (by decide) p0, _, by simp, q0, q1, q2, q3⟩
theorem zRS_ok (hD : zk_d2 D ua) : ∀ R ∈ zRSl, zr_okS D R := zr_c (rS1_86_ok hD) (zr_c (rS5_86_ok hD) (zr_c (rS7_86_ok hD) (zr_c (rS12_86_ok hD) (zr_c (rS1_88_ok hD) (zr_c (rS5_88_ok hD) (zr_c (rS7_88_ok hD) (zr_c (rS12_88_ok hD) (zr_c (rS3_ok hD) (zr_c (rS4_ok hD) (zr_c (rS9_ok hD) (zr_c (rS10_ok hD) (zr_c (rS11_ok hD) (zr_c (rW1_ok hD) (zr_c (rW2_ok hD) (zr_c (rW3_ok hD) (zr_c (rH1_0_ok hD) (zr_c (rH2_0_ok hD) (zr_c (rH3_0_ok hD) (zr_c (rH4_0_ok hD) (zr_c (rH1_1_ok hD) (zr_c (rH2_1_ok hD) (zr_c (rH3_1_ok hD) (zr_c (rH4_1_ok hD) (zr_c (rT1_0_ok hD) (zr_c (rT2_0_ok hD) (zr_c (rT3_0_ok hD) (zr_c (rT1_1_ok hD) (zr_c (rT2_1_ok hD) (zr_c (rT3_1_ok hD) ((fun _ h => (by cases h))))))))))))))))))))))))))))))))
theorem zRU_ok (hD : zk_d2 D ua) : ∀ R ∈ zRUl, zr_okU D R := zr_c (rU10_ok hD) (zr_c (rU11_ok hD) (zr_c (rU12_ok hD) (zr_c (rU13_ok hD) (zr_c (rU14_ok hD) (zr_c (rU20_ok hD) (zr_c (rU30_ok hD) (zr_c (rU32_ok hD) (zr_c (rU34_ok hD) (zr_c (rU36_ok hD) (zr_c (rU31_ok hD) (zr_c (rU33_ok hD) (zr_c (rU35_ok hD) (zr_c (rU37_ok hD) (zr_c (rU38_ok hD) (zr_c (rU29_ok hD) (zr_c (rU39_ok hD) (zr_c (rU40_ok hD) (zr_c (rU42_ok hD) (zr_c (rU44_ok hD) (zr_c (rU46_ok hD) (zr_c (rU41_ok hD) (zr_c (rU43_ok hD) (zr_c (rU45_ok hD) (zr_c (rU47_ok hD) (zr_c (rU48_ok hD) (zr_c (rU49_ok hD) ((fun _ h => (by cases h)))))))))))))))))))))))))))))
end
/-- what the facts hang on -/
def zPF : Nat → List (Nat × Nat) := fun j => if Nat.beq j 100 then [(33, 1), (33, 3)] else if Nat.beq j 101 then [(33, 1), (33, 3)] else []
def zPB : Nat → List Nat := fun j => if Nat.beq j 0 then [0, 1, 2, 3, 4, 5, 6, 7, 8, 9, 10, 11, 12, 13, 14, 15, 16] else if Nat.beq j 100 then [53, 55] else if Nat.beq j 101 then [53, 55] else if Nat.beq j 102 then [84, 86, 88] else if Nat.beq j 103 then [84, 86, 88] else if Nat.beq j 104 then [86, 88] else if Nat.beq j 120 then [105, 106] else if Nat.beq j 121 then [105, 106] else if Nat.beq j 122 then [105, 106] else if Nat.beq j 123 then [105, 106] else if Nat.beq j 124 then [105, 106] else if Nat.beq j 132 then [111, 112] else if Nat.beq j 133 then [111, 112] else if Nat.beq j 134 then [105, 111] else if Nat.beq j 135 then [105, 111] else if Nat.beq j 136 then [111, 112] else if Nat.beq j 137 then [111, 112] else if Nat.beq j 138 then [111, 112] else if Nat.beq j 139 then [111, 112] else []
def zPF1 : Nat → List (Nat × Nat) := fun _ => []
def zPB1 : Nat → List Nat := fun j => if Nat.beq j 0 then [0, 1, 2, 3, 4, 5, 6, 7, 8, 9, 10, 11, 12, 13, 14, 15, 16] else []
section
variable {D : zD} {ua : Nat → Nat} {ty ty' : Nat → Nat} {H H' : Heap} {j : Nat}
theorem zst_ar (hTT : D.TT = zTT) (hz : zty ua ty) (hst : zk_st D (zPF j) (zPB j) ty H ty' H') {q : Nat × Nat} (hq : q ∈ zUt) (h1 : q.2 ∈ zPB j) (h2 : (zTT q.2).1 ≠ 0) (k : Nat) : zi H' (ua q.1) k = zi H (ua q.1) k := by
  have := hst.2.1 _ _ (hz q hq) (by rw [hTT]; exact h2) h1
  unfold zi
  rw [this]
theorem zst_fd (hTT : D.TT = zTT) (hz : zty ua ty) (hst : zk_st D (zPF j) (zPB j) ty H ty' H') (hT : zk_T D ty H) (hT' : zk_T D ty' H') {q : Nat × Nat} (hq : q ∈ zUt) {k : Nat} (h1 : (q.2, k) ∈ zPF j) (h2 : (zTT q.2).1 = 0) (h3 : k < (zTT q.2).2.2.length) {c : Nat} (h4 : (zTT q.2).2.1 = c) : zi H' (ua q.1) (D.dI c k) = zi H (ua q.1) (D.dI c k) := by
  subst h4
  have a1 := zk_T_lt hT (a := ua q.1) (by rw [hz q hq]; omega)
  have a2 := zk_T_lt hT' (a := ua q.1) (by rw [hst.1 _ _ (hz q hq)]; omega)
  have e0 : H[ua q.1]? = some H[ua q.1] := Array.getElem?_eq_getElem a1
  have e1 : H'[ua q.1]? = some H'[ua q.1] := Array.getElem?_eq_getElem a2
  have := hst.2.2 _ _ (hz q hq) (by rw [hTT]; exact h2) k (by rw [hTT]; exact h3) h1 _ _ e0 e1
  rw [hTT] at this
  unfold zi
  rw [e0, e1]
  dsimp only
  rw [this]
theorem zPP_st (hD : zk_d2 D ua) (hTT : D.TT = zTT) (hj : 100 ≤ j) {vs : List Int} (hst : zk_st D (zPF j) (zPB j) ty H ty' H') (hT : zk_T D ty H) (hT' : zk_T D ty' H') (h : D.OP j ty H vs) : D.OP j ty' H' vs := by
  obtain ⟨hz, hp⟩ := (hD.1 j hj _ _ _).mp h
  refine (hD.1 j hj _ _ _).mpr ⟨fun q hq => hst.1 _ _ (hz q hq), ?_⟩
  unfold zPP at hp ⊢
  split at hp
  · rename_i e
    subst e
    rw [if_pos rfl]
    obtain ⟨h1, h2, h3⟩ := hp
    have e0 := zst_ar hTT hz hst (q := (84, 84)) (by decide) (by decide) (by decide) 0
    refine ⟨h1, by rw [e0]; exact h2, fun i hi h => ?_⟩
    rw [e0] at hi
    rw [zst_ar hTT hz hst (q := (86, 86)) (by decide) (by decide) (by decide)] at h
    rw [zst_ar hTT hz hst (q := (88, 88)) (by decide) (by decide) (by decide)]
    exact h3 i hi h
  rename_i n1
  rw [if_neg n1]
  split at hp
  · rename_i e
    subst e
    rw [if_pos rfl]
    obtain ⟨h1, h2, h3⟩ := hp
    have e0 := zst_ar hTT hz hst (q := (84, 84)) (by decide) (by decide) (by decide) 1
    refine ⟨h1, by rw [e0]; exact h2, fun i hi h => ?_⟩
    rw [e0] at hi
    rw [zst_ar hTT hz hst (q := (86, 86)) (by decide) (by decide) (by decide)] at h
    rw [zst_ar hTT hz hst (q := (88, 88)) (by decide) (by decide) (by decide)]
    exact h3 i hi h
  rename_i n2
  rw [if_neg n2]
  split at hp
  · rename_i e
    subst e
    rw [if_pos rfl]
    obtain ⟨k, h1, h3⟩ := hp
    refine ⟨k, h1, fun i hi h => ?_⟩
    rw [zst_ar hTT hz hst (q := (86, 86)) (by decide) (by decide) (by decide)] at h
    rw [zst_ar hTT hz hst (q := (88, 88)) (by decide) (by decide) (by decide)]
    exact h3 i hi h
  rename_i n3
  rw [if_neg n3]
  have hw : (j = 100 ∨ j = 101) → ∀ e, zf_wy ua D.dI (zi H) e → zf_wy ua D.dI (zi H') e := by
    intro hj e h p hp
    obtain ⟨g1, g2, g3⟩ := h p hp
    have m1 : 53 ∈ zPB j ∧ 55 ∈ zPB j ∧ (33, 1) ∈ zPF j ∧ (33, 3) ∈ zPF j := by rcases hj with rfl | rfl <;> decide
    have q0 : (1000 + p, 33) ∈ zUt ∧ (1010 + p, 53) ∈ zUt ∧ (1020 + p, 55) ∈ zUt := by rcases hp with rfl | rfl <;> decide
    refine ⟨by rw [zst_fd hTT hz hst hT hT' q0.1 m1.2.2.1 (show (zTT 33).1 = 0 by decide) (show 1 < (zTT 33).2.2.length by decide) (show (zTT 33).2.1 = 10 by decide)]; exact g1, by rw [zst_fd hTT hz hst hT hT' q0.1 m1.2.2.2 (show (zTT 33).1 = 0 by decide) (show 3 < (zTT 33).2.2.length by decide) (show (zTT 33).2.1 = 10 by decide)]; exact g2, fun i hi h => ?_⟩
    rw [zst_ar hTT hz hst q0.2.1 m1.1 (show (zTT 53).1 ≠ 0 by decide)] at h
    rw [zst_ar hTT hz hst q0.2.2 m1.2.1 (show (zTT 55).1 ≠ 0 by decide)]
    exact g3 i hi h
  split at hp
  · rename_i e
    subst e
    rw [if_pos rfl]
    exact ⟨hp.1, hw (Or.inl rfl) _ hp.2⟩
  rename_i n4
  rw [if_neg n4]
  split at hp
  · rename_i e
    subst e
    rw [if_pos rfl]
    obtain ⟨x, i, h1, h2⟩ := hp
    exact ⟨x, i, h1, hw (Or.inr rfl) _ h2⟩
  rename_i n5
  rw [if_neg n5]
  have fe : ∀ t, (t, t) ∈ zUt → t ∈ zPB j → (zTT t).1 ≠ 0 → zi H' (ua t) = zi H (ua t) := fun t h1 h2 h3 => funext (zst_ar hTT hz hst (q := (t, t)) h1 h2 h3)
  unfold zPQ at hp ⊢
  by_cases e : j = 120
  · subst e
    rw [if_pos rfl] at hp ⊢
    simp only [zf_sw] at hp ⊢
    rw [fe 105 (by decide) (by decide) (by decide), fe 106 (by decide) (by decide) (by decide)]
    exact hp
  rw [if_neg e] at hp ⊢
  clear e
  by_cases e : j = 121
  · subst e
    rw [if_pos rfl] at hp ⊢
    simp only [zf_in, zf_sw] at hp ⊢
    rw [fe 105 (by decide) (by decide) (by decide), fe 106 (by decide) (by decide) (by decide)]
    exact hp
  rw [if_neg e] at hp ⊢
  clear e
  by_cases e : j = 122
  · subst e
    rw [if_pos rfl] at hp ⊢
    simp only [zf_in, zf_sw] at hp ⊢
    rw [fe 105 (by decide) (by decide) (by decide), fe 106 (by decide) (by decide) (by decide)]
    exact hp
  rw [if_neg e] at hp ⊢
  clear e
  by_cases e : j = 123
  · subst e
    rw [if_pos rfl] at hp ⊢
    simp only [zf_in, zf_sw] at hp ⊢
    rw [fe 105 (by decide) (by decide) (by decide), fe 106 (by decide) (by decide) (by decide)]
    exact hp
  rw [if_neg e] at hp ⊢
  clear e
  by_cases e : j = 124
  · subst e
    rw [if_pos rfl] at hp ⊢
    simp only [zf_in, zf_sw] at hp ⊢
    rw [fe 105 (by decide) (by decide) (by decide), fe 106 (by decide) (by decide) (by decide)]
    exact hp
  rw [if_neg e] at hp ⊢
  clear e
  by_cases e : j = 132
  · subst e
    rw [if_pos rfl] at hp ⊢
    simp only [zf_td] at hp ⊢
    rw [fe 111 (by decide) (by decide) (by decide), fe 112 (by decide) (by decide) (by decide)]
    exact hp
  rw [if_neg e] at hp ⊢
  clear e
  by_cases e : j = 133
  · subst e
    rw [if_pos rfl] at hp ⊢
    simp only [zf_td] at hp ⊢
    rw [fe 111 (by decide) (by decide) (by decide), fe 112 (by decide) (by decide) (by decide)]
    exact hp
  rw [if_neg e] at hp ⊢
  clear e
  by_cases e : j = 134
  · subst e
    rw [if_pos rfl] at hp ⊢
    rw [fe 105 (by decide) (by decide) (by decide), fe 111 (by decide) (by decide) (by decide)]
    exact hp
  rw [if_neg e] at hp ⊢
  clear e
  by_cases e : j = 135
  · subst e
    rw [if_pos rfl] at hp ⊢
    rw [fe 105 (by decide) (by decide) (by decide), fe 111 (by decide) (by decide) (by decide)]
    exact hp
  rw [if_neg e] at hp ⊢
  clear e
  by_cases e : j = 136
  · subst e
    rw [if_pos rfl] at hp ⊢
    simp only [zf_wk] at hp ⊢
    rw [fe 111 (by decide) (by decide) (by decide), fe 112 (by decide) (by decide) (by decide)]
    exact hp
  rw [if_neg e] at hp ⊢
  clear e
  by_cases e : j = 137
  · subst e
    rw [if_pos rfl] at hp ⊢
    simp only [zf_wk] at hp ⊢
    rw [fe 111 (by decide) (by decide) (by decide), fe 112 (by decide) (by decide) (by decide)]
    exact hp
  rw [if_neg e] at hp ⊢
  clear e
  by_cases e : j = 138
  · subst e
    rw [if_pos rfl] at hp ⊢
    simp only [zf_wk] at hp ⊢
    rw [fe 111 (by decide) (by decide) (by decide), fe 112 (by decide) (by decide) (by decide)]
    exact hp
  rw [if_neg e] at hp ⊢
  clear e
  by_cases e : j = 139
  · subst e
    rw [if_pos rfl] at hp ⊢
    simp only [zf_wk] at hp ⊢
    rw [fe 111 (by decide) (by decide) (by decide), fe 112 (by decide) (by decide) (by decide)]
    exact hp
  rw [if_neg e] at hp ⊢
  clear e
  exact absurd hp (fun z => z)
end
