/-! THE CHECKER, 3: the arithmetic is right. -/
theorem zk_c_new {r : Nat → Int} {n : Nat} {v : zV} {z : Int} (hv : v.2.1 < n) : zk_c (zk_u r n z) v = zk_c r v := by
  unfold zk_c; rw [zk_n_new hv]
theorem zk_c_n {r : Nat → Int} {t n : Nat} {z : Int} : zk_c (zk_u r n z) (t, n, 0) = zk_k t z := by
  unfold zk_c; rw [zk_n_n]
/-- what an operation's row must give -/
def zk_G (r : Nat → Int) (n : Nat) (q : zV × zP) (x : Value) : Prop := ∃ z, zk_P (zk_u r n z) q.2 ∧ zk_c (zk_u r n z) q.1 = x ∧ q.1.2.1 ≤ n
section
variable {r : Nat → Int} {n t : Nat} {P : zP} {v w : zV} {lo hi : Int} {x : Value}
theorem zk_G_top (hf : zk_fP n P = true) (h : zk_P r P) (ht : ∃ z, lo ≤ z ∧ z ≤ hi ∧ zk_k t z = x) : zk_G r n (zk_nw t n lo hi [] P) x := by
  obtain ⟨z, h1, h2, h3⟩ := ht
  exact ⟨z, zk_fresh hf h ⟨h1, h2⟩ (fun q hq => by cases hq) t, by rw [← h3]; exact zk_c_n, Nat.le_refl n⟩
theorem zk_G_nw (hf : zk_fP n P = true) (h : zk_P r P) {a b z : Int} {ds : List (Nat × Nat × Int)} (hx : zk_k t z = x) (hz : a ≤ z ∧ z ≤ b) (hd : ∀ q ∈ ds, zk_u r n z q.1 ≤ zk_u r n z q.2.1 + q.2.2) : zk_G r n (zk_nw t n a b ds P) x :=
  ⟨z, zk_fresh hf h hz hd t, by rw [← hx]; exact zk_c_n, Nat.le_refl n⟩
theorem zk_G_old (hf : zk_fP n P = true) (h : zk_P r P) {v : zV} (hv : v.2.1 < n) (hx : zk_c r v = x) : zk_G r n (v, P) x :=
  ⟨0, zk_P_new hf (fun y hy => zk_u_ne hy) h, by rw [zk_c_new hv]; exact hx, Nat.le_of_lt hv⟩
theorem zk_add_ok (hf : zk_fP n P = true) (h : zk_P r P) (h0 : r 0 = 0) (hv : v.2.1 < n) (hw : w.2.1 < n) (hx : zk_k t (zk_n r v + zk_n r w) = x) (ht : ∃ z, lo ≤ z ∧ z ≤ hi ∧ zk_k t z = x) : zk_G r n (zk_add t n lo hi P v w) x := by
  unfold zk_add
  split
  · rename_i e
    refine zk_G_old hf h hv ?_
    rw [← hx]
    unfold zk_c zk_n
    dsimp only
    rw [e, h0]
    congr 1
    omega
  split
  · rename_i e
    refine zk_G_old hf h hw ?_
    rw [← hx]
    unfold zk_c zk_n
    dsimp only
    rw [e, h0]
    congr 1
    omega
  split
  · rename_i a b ha hb
    split
    · have h1 := zk_r_ok h ha
      have h2 := zk_r_ok h hb
      refine zk_G_nw hf h hx (by omega) ?_
      intro q hq
      simp only [List.mem_cons, List.not_mem_nil, or_false] at hq
      rcases hq with rfl | rfl | rfl | rfl <;> dsimp only <;> simp only [zk_u_n, zk_u_ne hv, zk_u_ne hw] <;> unfold zk_n at * <;> omega
    · exact zk_G_top hf h ht
  · exact zk_G_top hf h ht
theorem zk_sub_ok (hf : zk_fP n P = true) (h : zk_P r P) (h0 : r 0 = 0) (hv : v.2.1 < n) (hw : w.2.1 < n) (hx : zk_k t (zk_n r v - zk_n r w) = x) (ht : ∃ z, lo ≤ z ∧ z ≤ hi ∧ zk_k t z = x) : zk_G r n (zk_sub t n lo hi P v w) x := by
  unfold zk_sub
  split
  · rename_i e
    refine zk_G_old hf h hv ?_
    rw [← hx]
    unfold zk_c zk_n
    dsimp only
    rw [e, h0]
    congr 1
    omega
  split
  · rename_i e
    refine zk_G_old hf h (by dsimp only; omega) ?_
    rw [← hx]
    unfold zk_c zk_n
    dsimp only
    rw [e, h0]
    congr 1
    omega
  split
  · rename_i a b ha hb
    split
    · have h1 := zk_r_ok h ha
      have h2 := zk_r_ok h hb
      have k1 := zk_ub_ok (x := v.2.1) (y := w.2.1) h.2.1 (d := a.2 - b.1 - (v.2.2 - w.2.2)) (by unfold zk_n at h1 h2; omega)
      have k2 := zk_ub_ok (x := w.2.1) (y := v.2.1) h.2.1 (d := v.2.2 - w.2.2 - (a.1 - b.2)) (by unfold zk_n at h1 h2; omega)
      refine zk_G_nw hf h hx (by unfold zk_n; omega) ?_
      intro q hq
      simp only [List.mem_cons, List.not_mem_nil, or_false] at hq
      rcases hq with rfl | rfl <;> dsimp only <;> simp only [zk_u_n, zk_u_ne hv] <;> unfold zk_n at * <;> omega
    · exact zk_G_top hf h ht
  · exact zk_G_top hf h ht
theorem zk_mul_ok (hf : zk_fP n P = true) (h : zk_P r P) (h0 : r 0 = 0) (hn : 0 < n) (hx : zk_k t (zk_n r v * zk_n r w) = x) (ht : ∃ z, lo ≤ z ∧ z ≤ hi ∧ zk_k t z = x) : zk_G r n (zk_mul t n lo hi P v w) x := by
  unfold zk_mul
  split
  · rename_i e
    refine zk_G_old hf h hn ?_
    rw [← hx]
    unfold zk_c zk_n
    dsimp only
    rw [e.1, e.2, h0]
    simp
  split
  · rename_i a b ha hb
    split
    · rename_i hc
      have h1 := zk_r_ok h ha
      have h2 := zk_r_ok h hb
      refine zk_G_nw hf h hx ⟨?_, ?_⟩ (fun q hq => by cases hq)
      · exact Int.mul_le_mul h1.1 h2.1 hc.2.1 (by omega)
      · exact Int.mul_le_mul h1.2 h2.2 (by omega) (by omega)
    · exact zk_G_top hf h ht
  · exact zk_G_top hf h ht
theorem zk_div_ok (hf : zk_fP n P = true) (h : zk_P r P) (hv : v.2.1 < n) (hx : 0 ≤ zk_n r v → 1 ≤ zk_n r w → zk_n r v ≤ hi → zk_n r w ≤ hi → zk_k t (zk_n r v / zk_n r w) = x) (ht : ∃ z, lo ≤ z ∧ z ≤ hi ∧ zk_k t z = x) : zk_G r n (zk_div t n lo hi P v w) x := by
  unfold zk_div
  split
  · rename_i a b ha hb
    split
    · rename_i hc
      have h1 := zk_r_ok h ha
      have h2 := zk_r_ok h hb
      have g1 : 0 ≤ zk_n r v / zk_n r w := Int.ediv_nonneg (by omega) (by omega)
      have g2 : zk_n r v / zk_n r w ≤ zk_n r v := Int.ediv_le_self _ (by omega)
      have g3 : zk_n r v / zk_n r w ≤ a.2 / b.1 := by
        have e1 : zk_n r v / zk_n r w ≤ a.2 / zk_n r w := Int.ediv_le_ediv (by omega) h1.2
        refine Int.le_trans e1 ?_
        refine (Int.le_ediv_iff_mul_le (by omega)).mpr ?_
        have e2 : a.2 / zk_n r w * zk_n r w ≤ a.2 := Int.ediv_mul_le _ (by omega)
        have e3 : 0 ≤ a.2 / zk_n r w := Int.ediv_nonneg (by omega) (by omega)
        exact Int.le_trans (Int.mul_le_mul_of_nonneg_left h2.1 e3) e2
      have g0 : a.1 / b.2 ≤ zk_n r v / zk_n r w := by
        have e1 : a.1 / b.2 ≤ zk_n r v / b.2 := Int.ediv_le_ediv (by omega) h1.1
        refine Int.le_trans e1 ?_
        refine (Int.le_ediv_iff_mul_le (by omega)).mpr ?_
        have e2 : zk_n r v / b.2 * b.2 ≤ zk_n r v := Int.ediv_mul_le _ (by omega)
        have e3 : 0 ≤ zk_n r v / b.2 := Int.ediv_nonneg (by omega) (by omega)
        exact Int.le_trans (Int.mul_le_mul_of_nonneg_left h2.2 e3) e2
      refine zk_G_nw hf h (hx (by omega) (by omega) (by omega) (by omega)) ⟨g0, g3⟩ ?_
      intro q hq
      split at hq
      · rename_i hc2
        simp only [List.mem_cons, List.not_mem_nil, or_false] at hq
        subst hq
        have g4 : zk_n r v / zk_n r w < zk_n r v := by
          refine Int.ediv_lt_of_lt_mul (by omega) ?_
          have : zk_n r v * 2 ≤ zk_n r v * zk_n r w := Int.mul_le_mul_of_nonneg_left (by omega) (by omega)
          omega
        dsimp only
        rw [zk_u_n, zk_u_ne hv]
        have e5 : zk_n r v = r v.2.1 + v.2.2 := rfl
        omega
      · simp only [List.mem_cons, List.not_mem_nil, or_false] at hq
        subst hq
        dsimp only
        rw [zk_u_n, zk_u_ne hv]
        have e5 : zk_n r v = r v.2.1 + v.2.2 := rfl
        omega
    · exact zk_G_top hf h ht
  · exact zk_G_top hf h ht
theorem zk_rem_ok (hf : zk_fP n P = true) (h : zk_P r P) (h0 : r 0 = 0) (hn : 0 < n) (hv : v.2.1 < n) (hw : w.2.1 < n) (hx : 0 ≤ zk_n r v → 1 ≤ zk_n r w → zk_n r v ≤ hi → zk_n r w ≤ hi → zk_k t (zk_n r v % zk_n r w) = x) (ht : ∃ z, lo ≤ z ∧ z ≤ hi ∧ zk_k t z = x) : zk_G r n (zk_rem t n lo hi P v w) x := by
  unfold zk_rem
  split
  · rename_i e
    obtain ⟨e1, e2, e3, e4, e5, e6⟩ := e
    have n1 : zk_n r v = v.2.2 := by
      show r v.2.1 + v.2.2 = v.2.2
      rw [e1, h0]
      omega
    have n2 : zk_n r w = w.2.2 := by
      show r w.2.1 + w.2.2 = w.2.2
      rw [e2, h0]
      omega
    refine zk_G_old hf h hn ?_
    rw [← hx (by omega) (by omega) (by omega) (by omega), n1, n2]
    unfold zk_c zk_n
    dsimp only
    rw [h0]
    simp
  split
  · rename_i a b ha hb
    split
    · rename_i hc
      have h1 := zk_r_ok h ha
      have h2 := zk_r_ok h hb
      have g1 : 0 ≤ zk_n r v % zk_n r w := Int.emod_nonneg _ (by omega)
      have g2 : zk_n r v % zk_n r w < zk_n r w := Int.emod_lt_of_pos _ (by omega)
      have g3 : zk_n r v % zk_n r w ≤ zk_n r v := by
        have e1 := Int.mul_ediv_add_emod (zk_n r v) (zk_n r w)
        have e2 : 0 ≤ zk_n r w * (zk_n r v / zk_n r w) := Int.mul_nonneg (by omega) (Int.ediv_nonneg (by omega) (by omega))
        omega
      refine zk_G_nw hf h (hx (by omega) (by omega) (by omega) (by omega)) ⟨g1, by omega⟩ ?_
      intro q hq
      simp only [List.mem_cons, List.not_mem_nil, or_false] at hq
      have e5 : zk_n r v = r v.2.1 + v.2.2 := rfl
      have e6 : zk_n r w = r w.2.1 + w.2.2 := rfl
      rcases hq with rfl | rfl <;> dsimp only <;> simp only [zk_u_n, zk_u_ne hv, zk_u_ne hw] <;> omega
    · exact zk_G_top hf h ht
  · exact zk_G_top hf h ht
theorem zk_and_ok (hf : zk_fP n P = true) (h : zk_P r P) (hx : 0 ≤ zk_n r w → zk_n r w ≤ hi → ∃ z, 0 ≤ z ∧ z ≤ zk_n r w ∧ zk_k t z = x) (ht : ∃ z, lo ≤ z ∧ z ≤ hi ∧ zk_k t z = x) : zk_G r n (zk_and t n lo hi P v w) x := by
  unfold zk_and
  split
  · rename_i b hb
    split
    · rename_i hc
      have h2 := zk_r_ok h hb
      obtain ⟨z, z1, z2, z3⟩ := hx (by omega) (by omega)
      exact zk_G_nw hf h z3 (by omega) (fun q hq => by cases hq)
    · exact zk_G_top hf h ht
  · exact zk_G_top hf h ht
theorem zk_shr_ok {sh : Int} (hf : zk_fP n P = true) (h : zk_P r P) (h0 : r 0 = 0) (hv : v.2.1 < n) (hx : 0 ≤ zk_n r v → zk_n r v ≤ hi → 0 ≤ zk_n r w → zk_n r w < sh → zk_k t (zk_n r v / 2 ^ (zk_n r w).toNat) = x) (ht : ∃ z, lo ≤ z ∧ z ≤ hi ∧ zk_k t z = x) : zk_G r n (zk_shr t n lo hi sh P v w) x := by
  unfold zk_shr
  split
  · rename_i a ha
    split
    · rename_i hc
      have h1 := zk_r_ok h ha
      have ew : zk_n r w = w.2.2 := by unfold zk_n; rw [hc.1, h0]; omega
      rw [ew] at hx
      have hp : (0 : Int) < 2 ^ w.2.2.toNat := Int.pow_pos (by decide)
      have g1 : 0 ≤ zk_n r v / 2 ^ w.2.2.toNat := Int.ediv_nonneg (by omega) (by omega)
      have g2 : zk_n r v / 2 ^ w.2.2.toNat ≤ zk_n r v := Int.ediv_le_self _ (by omega)
      have g3 : zk_n r v / 2 ^ w.2.2.toNat ≤ a.2 / 2 ^ w.2.2.toNat := Int.ediv_le_ediv hp h1.2
      have e5 : zk_n r v = r v.2.1 + v.2.2 := rfl
      refine zk_G_nw hf h (hx (by omega) (by omega) (by omega) (by omega)) ⟨g1, g3⟩ ?_
      intro q hq
      split at hq
      · rename_i hc2
        simp only [List.mem_cons, List.not_mem_nil, or_false] at hq
        subst hq
        have g4 : zk_n r v / 2 ^ w.2.2.toNat < zk_n r v := by
          refine Int.ediv_lt_of_lt_mul hp ?_
          obtain ⟨k, hk⟩ : ∃ k, w.2.2.toNat = k + 1 := ⟨w.2.2.toNat - 1, by omega⟩
          have h8 : (1 : Int) ≤ 2 ^ k := by have : (0 : Int) < 2 ^ k := Int.pow_pos (by decide); omega
          have h9 : (2 : Int) ≤ 2 ^ w.2.2.toNat := by rw [hk, Int.pow_succ]; omega
          have : zk_n r v * 2 ≤ zk_n r v * 2 ^ w.2.2.toNat := Int.mul_le_mul_of_nonneg_left h9 (by omega)
          omega
        dsimp only
        rw [zk_u_n, zk_u_ne hv]
        omega
      · simp only [List.mem_cons, List.not_mem_nil, or_false] at hq
        subst hq
        dsimp only
        rw [zk_u_n, zk_u_ne hv]
        omega
    · exact zk_G_top hf h ht
  · exact zk_G_top hf h ht
end
