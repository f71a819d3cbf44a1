/-! THE FACTS, 1: what is told of the heap's places, as pure statements about numbers. ua: where the one cell of a type lies. -/
theorem zr_cons {D : zD} {ty : Nat → Nat} {H : Heap} {p : zRp} {ps : List zRp} {Ls : List (List Int)} (h : zr_all D ty H (p :: ps) Ls) : ∃ l Ls', Ls = l :: Ls' ∧ zr_pr D ty H p l ∧ zr_all D ty H ps Ls' := by
  cases Ls with
  | nil => exact absurd h (by simp [zr_all])
  | cons l Ls' => exact ⟨l, Ls', rfl, h.1, h.2⟩
theorem zr_nil {D : zD} {ty : Nat → Nat} {H : Heap} {Ls : List (List Int)} (h : zr_all D ty H [] Ls) : Ls = [] := by
  cases Ls with
  | nil => rfl
  | cons l Ls' => exact absurd h (by simp [zr_all])
theorem zr_c {α : Type} {P : α → Prop} {a : α} {l : List α} (h : P a) (hl : ∀ x ∈ l, P x) : ∀ x ∈ a :: l, P x := by
  intro x hx
  rcases List.mem_cons.mp hx with e | e
  · rw [e]; exact h
  · exact hl x e
theorem zk_T_RO {D : zD} {ty : Nat → Nat} {H : Heap} {a t : Nat} (hT : zk_T D ty H) (h : ty a = t + 1) (h9 : (D.TT t).1 ≠ 9) : D.RO t a := by
  have g := hT.2 a t h
  rw [if_neg h9] at g
  exact g.1.2
/-- blocks: a header of -1 with a count behind it, or a size and its numbers -/
def zb_l (v : Int) : Nat := if v = -1 then 2 else 1 + v.toNat
def zb_p (f : Nat → Int) (s : Nat) : Nat → Nat
  | 0 => s
  | i + 1 => zb_p f s i + zb_l (f (zb_p f s i))
/-- n blocks lead from s to e -/
def zb_k (f : Nat → Int) (s e : Nat) : Prop := ∃ n, zb_p f s n = e ∧ ∀ i, i < n → -1 ≤ f (zb_p f s i) ∧ f (zb_p f s i) ≤ 60
/-- a walk over the blocks, at k -/
def zb_w (f : Nat → Int) (s k e : Nat) : Prop := ∃ n i, i ≤ n ∧ zb_p f s i = k ∧ zb_p f s n = e ∧ ∀ j, j < n → -1 ≤ f (zb_p f s j) ∧ f (zb_p f s j) ≤ 60
theorem zb_l_pos (v : Int) : 1 ≤ zb_l v := by unfold zb_l; split <;> omega
theorem zb_p_lt (f : Nat → Int) (s : Nat) : ∀ d i, zb_p f s i + d ≤ zb_p f s (i + d)
  | 0, _ => Nat.le_refl _
  | d + 1, i => by
    have h := zb_p_lt f s d i
    have h2 := zb_l_pos (f (zb_p f s (i + d)))
    show zb_p f s i + (d + 1) ≤ zb_p f s (i + d) + zb_l (f (zb_p f s (i + d)))
    omega
theorem zb_p_mono (f : Nat → Int) (s : Nat) {i j : Nat} (h : i ≤ j) : zb_p f s i ≤ zb_p f s j := by
  have := zb_p_lt f s (j - i) i
  rw [show i + (j - i) = j by omega] at this
  omega
theorem zb_p_strict (f : Nat → Int) (s : Nat) {i j : Nat} (h : i < j) : zb_p f s i < zb_p f s j := by
  have := zb_p_lt f s (j - i) i
  rw [show i + (j - i) = j by omega] at this
  omega
theorem zb_p_eq {f g : Nat → Int} {s e : Nat} (h : ∀ j, s ≤ j → j < e → g j = f j) : ∀ {n : Nat}, zb_p f s n ≤ e → ∀ i, i ≤ n → zb_p g s i = zb_p f s i
  | n, he, 0, _ => rfl
  | n, he, i + 1, hi => by
    have h1 := zb_p_eq h he i (by omega)
    have h2 := zb_p_strict f s (i := i) (j := n) (by omega)
    have h3 := zb_p_mono f s (Nat.zero_le i)
    show zb_p g s i + zb_l (g (zb_p g s i)) = zb_p f s i + zb_l (f (zb_p f s i))
    rw [h1, h (zb_p f s i) h3 (by omega)]
theorem zb_k_nil (f : Nat → Int) (s : Nat) : zb_k f s s := ⟨0, rfl, fun i hi => by omega⟩
theorem zb_k_le {f : Nat → Int} {s e : Nat} (h : zb_k f s e) : s ≤ e := by
  obtain ⟨n, h1, -⟩ := h
  have := zb_p_mono f s (Nat.zero_le n)
  rw [h1] at this
  exact this
theorem zb_k_keep {f g : Nat → Int} {s e : Nat} (h : zb_k f s e) (hg : ∀ j, s ≤ j → j < e → g j = f j) : zb_k g s e := by
  obtain ⟨n, h1, h2⟩ := h
  have hp := zb_p_eq hg (n := n) (by omega)
  refine ⟨n, by rw [hp n (Nat.le_refl _)]; exact h1, fun i hi => ?_⟩
  have h3 := zb_p_strict f s hi
  have h4 := zb_p_mono f s (Nat.zero_le i)
  rw [hp i (by omega), hg _ h4 (by omega)]
  exact h2 i hi
theorem zb_k_snoc {f : Nat → Int} {s e : Nat} (h : zb_k f s e) (h1 : -1 ≤ f e) (h2 : f e ≤ 60) : zb_k f s (e + zb_l (f e)) := by
  obtain ⟨n, e1, h3⟩ := h
  refine ⟨n + 1, by show zb_p f s n + zb_l (f (zb_p f s n)) = _; rw [e1], fun i hi => ?_⟩
  rcases Nat.lt_or_eq_of_le (Nat.le_of_lt_succ hi) with h | h
  · exact h3 i h
  · rw [h, e1]; exact ⟨h1, h2⟩
theorem zb_w_start {f : Nat → Int} {s e : Nat} (h : zb_k f s e) : zb_w f s s e := by
  obtain ⟨n, h1, h2⟩ := h
  exact ⟨n, 0, Nat.zero_le n, rfl, h1, h2⟩
theorem zb_w_le {f : Nat → Int} {s k e : Nat} (h : zb_w f s k e) : s ≤ k ∧ k ≤ e := by
  obtain ⟨n, i, h1, h2, h3, -⟩ := h
  have a := zb_p_mono f s h1
  have b := zb_p_mono f s (Nat.zero_le i)
  have c : zb_p f s 0 = s := rfl
  omega
theorem zb_w_step {f : Nat → Int} {s k e : Nat} (h : zb_w f s k e) (hk : k < e) : -1 ≤ f k ∧ f k ≤ 60 ∧ zb_w f s (k + zb_l (f k)) e := by
  obtain ⟨n, i, h1, h2, h3, h4⟩ := h
  have hi : i < n := by
    rcases Nat.lt_or_eq_of_le h1 with h | h
    · exact h
    · rw [h] at h2; omega
  have g := h4 i hi
  rw [h2] at g
  exact ⟨g.1, g.2, n, i + 1, hi, by show zb_p f s i + zb_l (f (zb_p f s i)) = _; rw [h2], h3, h4⟩
/-- lines 0 .. k - 1 of the way: 12 and 13 have a second bag -/
def zf_ln (ua : Nat → Nat) (F : Nat → Nat → Int) (o : Nat) (k : Int) : Prop := ∀ j : Nat, (j : Int) < k → (F (ua 86) (o + j) ≤ 5 ∨ 12 ≤ F (ua 86) (o + j)) → 0 ≤ F (ua 88) (o + j)
/-- the two ways: their acts and second numbers; 6 and 7 have a bag there. e: what is left out -/
def zf_wy (ua : Nat → Nat) (dI : Nat → Nat → Nat) (F : Nat → Nat → Int) (e : Nat → Nat → Prop) : Prop := ∀ p, p = 0 ∨ p = 1 → F (ua (1000 + p)) (dI 10 1) = (ua (1010 + p) : Int) ∧ F (ua (1000 + p)) (dI 10 3) = (ua (1020 + p) : Int) ∧ ∀ j : Nat, ¬ e (ua (1000 + p)) j → 6 ≤ F (ua (1010 + p)) j → F (ua (1020 + p)) j ≤ 7
/-- what a side saw: n numbers, in blocks -/
def zf_sw (ua : Nat → Nat) (F : Nat → Nat → Int) (s : Nat) (n : Int) : Prop := 0 ≤ n ∧ zb_k (F (ua 105)) (2000 * s) (2000 * s + n.toNat)
/-- side s is inside a block: a blocks' numbers, then c of a block with header v (h: it is written) -/
def zf_in (ua : Nat → Nat) (F : Nat → Nat → Int) (s : Nat) (h : Prop) (c v k : Int) : Prop := 0 ≤ k ∧ k ≤ 29 ∧ 0 ≤ c ∧ c ≤ 61 ∧ zf_sw ua F (1 - s) (F (ua 106) (1 - s)) ∧ F (ua 106) (1 - s) ≤ 61 * (k + 1) ∧ ∃ a : Int, zf_sw ua F s a ∧ a ≤ 61 * k ∧ F (ua 106) s = a + c ∧ (h → F (ua 105) (2000 * s + a.toNat) = v)
/-- what was told of a side, in blocks -/
def zf_td (ua : Nat → Nat) (F : Nat → Nat → Int) (s : Nat) : Prop := 0 ≤ F (ua 112) s ∧ F (ua 112) s ≤ 1830 ∧ zb_k (F (ua 111)) (2000 * s) (2000 * s + (F (ua 112) s).toNat)
def zf_wk (ua : Nat → Nat) (F : Nat → Nat → Int) (s : Nat) (k : Int) : Prop := 0 ≤ k ∧ 0 ≤ F (ua 112) s ∧ F (ua 112) s ≤ 1830 ∧ zb_w (F (ua 111)) (2000 * s) k.toNat (2000 * s + (F (ua 112) s).toNat)
def zPQ (ua : Nat → Nat) (j : Nat) (F : Nat → Nat → Int) (vs : List Int) : Prop :=
  if j = 120 then ∃ k : Int, vs = [k] ∧ ∀ s, s = 0 ∨ s = 1 → zf_sw ua F s (F (ua 106) s) ∧ F (ua 106) s ≤ 61 * k
  else if j = 121 then ∃ c v k : Int, vs = [c, v, k] ∧ zf_in ua F 0 (1 ≤ c) c v k
  else if j = 122 then ∃ c v k : Int, vs = [c, v, k] ∧ zf_in ua F 1 (1 ≤ c) c v k
  else if j = 123 then ∃ v k : Int, vs = [v, k] ∧ zf_in ua F 0 True 0 v k
  else if j = 124 then ∃ v k : Int, vs = [v, k] ∧ zf_in ua F 1 True 0 v k
  else if j = 132 then vs = [] ∧ zf_td ua F 0
  else if j = 133 then vs = [] ∧ zf_td ua F 1
  else if j = 134 then ∃ k : Int, vs = [k] ∧ ∀ i : Nat, (i : Int) < k → F (ua 111) i = F (ua 105) i
  else if j = 135 then ∃ k : Int, vs = [k] ∧ ∀ i : Nat, (i : Int) < k → F (ua 111) (2000 + i) = F (ua 105) (2000 + i)
  else if j = 136 then ∃ k : Int, vs = [k] ∧ zf_wk ua F 0 k
  else if j = 137 then ∃ k : Int, vs = [k] ∧ zf_wk ua F 1 k
  else if j = 138 then ∃ k n : Int, vs = [k, n] ∧ 0 ≤ n ∧ n ≤ 60 ∧ zf_wk ua F 0 (k + 1 + n)
  else if j = 139 then ∃ k n : Int, vs = [k, n] ∧ 0 ≤ n ∧ n ≤ 60 ∧ zf_wk ua F 1 (k + 1 + n)
  else False
/-- primes, as the programs look for them -/
def zn_pr (n : Int) : Prop := 2 ≤ n ∧ ∀ d : Int, 2 ≤ d → d * d ≤ n → n % d ≠ 0
/-- none from 2 to d - 1 goes into n -/
def zn_no (n d : Int) : Prop := ∀ e : Int, 2 ≤ e → e < d → n % e ≠ 0
theorem zn_sq {e d n : Int} (h1 : e * e ≤ n) (h2 : n < d * d) (h3 : 0 ≤ d) : e < d := by
  rcases Int.lt_or_le e d with h | h
  · exact h
  · have := Int.mul_le_mul h h h3 (by omega)
    omega
theorem zn_yes {n d : Int} (h : zn_no n d) (h1 : n < d * d) (h2 : 0 ≤ d) (h3 : 2 ≤ n) : zn_pr n := ⟨h3, fun e he hq => h e he (zn_sq hq h1 h2)⟩
theorem zn_not {n d : Int} (h1 : 2 ≤ d) (h2 : d * d ≤ n) (h3 : n % d = 0) : ¬ zn_pr n := fun h => h.2 d h1 h2 h3
theorem zn_odd {n e : Int} (hn : n % 2 = 1) (he : e % 2 = 0) : n % e ≠ 0 := by
  intro h
  have h1 := Int.dvd_of_emod_eq_zero h
  have h2 := Int.dvd_of_emod_eq_zero he
  have h3 := Int.emod_eq_zero_of_dvd (Int.dvd_trans h2 h1)
  omega
/-- the greatest that goes into both -/
def zg (a b : Int) : Nat := Nat.gcd b.toNat a.toNat
theorem zg_rest {a b : Int} (ha : 0 ≤ a) (hb : 0 ≤ b) : zg b (a % b) = zg a b := by
  unfold zg
  rw [Int.toNat_emod ha hb]
  exact (Nat.gcd_rec b.toNat a.toNat).symm
theorem zg_zero {a b : Int} (hb : b = 0) : zg a b = a.toNat := by
  subst hb
  exact Nat.gcd_zero_left a.toNat
theorem zg_step {a b t : Nat} (hb : 0 < b) (hb2 : b ≤ 1099511627776) (h0 : t = 0 ∨ b < a) (h : a * b * 2 ^ t ≤ 1267650600228229401496703205376) : b * (a % b) * 2 ^ (t + 1) ≤ 1267650600228229401496703205376 ∧ a % b < b := by
  have hr := Nat.mod_lt a hb
  refine ⟨?_, hr⟩
  rcases h0 with rfl | h0
  · have h1 : b * (a % b) ≤ 1099511627776 * 1099511627776 := Nat.mul_le_mul hb2 (by omega)
    have h2 : b * (a % b) * 2 ^ (0 + 1) = b * (a % b) * 2 := rfl
    omega
  · have h2 : 2 * (a % b) ≤ a := by
      have h3 := Nat.div_add_mod a b
      have h4 : 1 ≤ a / b := Nat.div_pos (by omega) hb
      have h5 : b * 1 ≤ b * (a / b) := Nat.mul_le_mul_left b h4
      omega
    have h6 : b * (a % b) * 2 ^ (t + 1) = b * (2 * (a % b)) * 2 ^ t := by
      rw [Nat.pow_succ, Nat.mul_comm (2 ^ t) 2, ← Nat.mul_assoc, Nat.mul_assoc b (a % b) 2, Nat.mul_comm (a % b) 2]
    have h7 : b * (2 * (a % b)) * 2 ^ t ≤ b * a * 2 ^ t := Nat.mul_le_mul_right _ (Nat.mul_le_mul_left b h2)
    rw [Nat.mul_comm b a] at h7
    omega
theorem zg_end {a b t : Nat} (ha : 1 ≤ a) (hb : 1 ≤ b) (ht : 200 ≤ t) (h : a * b * 2 ^ t ≤ 1267650600228229401496703205376) : False := by
  have h1 : 2 ^ 200 ≤ 2 ^ t := Nat.pow_le_pow_right (by decide) ht
  have h2 : 1 * 1 ≤ a * b := Nat.mul_le_mul ha hb
  have h3 : 1 * 1 * 2 ^ 200 ≤ a * b * 2 ^ t := Nat.mul_le_mul h2 h1
  exact absurd (Nat.le_trans h3 h) (by decide)
/-- what was recorded of an operation -/
def zrec (j : Nat) (a b c : Int) : Prop := if j = 27 then Int32.ofInt a * Int32.ofInt b = Int32.ofInt c else if j = 28 then Int32.ofInt a - Int32.ofInt a / Int32.ofInt b * Int32.ofInt b = Int32.ofInt c else if j = 22 then Int64.ofInt a * Int64.ofInt b = Int64.ofInt c else if j = 24 then Int64.ofInt a - Int64.ofInt a / Int64.ofInt b * Int64.ofInt b = Int64.ofInt c else if j = 25 then Int32.ofInt a - Int32.ofInt b = Int32.ofInt c else if j = 21 then Int64.ofInt a - Int64.ofInt b = Int64.ofInt c else Int64.ofInt a / Int64.ofInt b = Int64.ofInt c
theorem zm_25 {a b c : Int} (h : zrec 25 a b c) (h1 : -2147483648 ≤ a - b) (h2 : a - b ≤ 2147483647) (h3 : -2147483648 ≤ c) (h4 : c ≤ 2147483647) : c = a - b := by
  have h : Int32.ofInt a - Int32.ofInt b = Int32.ofInt c := h
  rw [← Int32.ofInt_sub] at h
  have := congrArg Int32.toInt h
  rw [zk_i32 h1 h2, zk_i32 h3 h4] at this
  exact this.symm
theorem zm_21 {a b c : Int} (h : zrec 21 a b c) (h1 : -9223372036854775808 ≤ a - b) (h2 : a - b ≤ 9223372036854775807) (h3 : -9223372036854775808 ≤ c) (h4 : c ≤ 9223372036854775807) : c = a - b := by
  have h : Int64.ofInt a - Int64.ofInt b = Int64.ofInt c := h
  rw [← Int64.ofInt_sub] at h
  have := congrArg Int64.toInt h
  rw [zk_i64 h1 h2, zk_i64 h3 h4] at this
  exact this.symm
theorem zm_23 {a b c : Int} (h : zrec 23 a b c) (h1 : 0 ≤ a) (h2 : a ≤ 9223372036854775807) (h5 : 1 ≤ b) (h6 : b ≤ 9223372036854775807) (h3 : -9223372036854775808 ≤ c) (h4 : c ≤ 9223372036854775807) : c = a / b := by
  have h : Int64.ofInt a / Int64.ofInt b = Int64.ofInt c := h
  rw [zk_m64div h1 h5 h2 h6] at h
  have g1 : 0 ≤ a / b := Int.ediv_nonneg h1 (by omega)
  have g2 : a / b ≤ a := Int.ediv_le_self _ h1
  have := congrArg Int64.toInt h
  rw [zk_i64 (by omega) (by omega), zk_i64 h3 h4] at this
  exact this.symm
theorem zm_27 {a b c : Int} (h : zrec 27 a b c) (h1 : -2147483648 ≤ a * b) (h2 : a * b ≤ 2147483647) (h3 : -2147483648 ≤ c) (h4 : c ≤ 2147483647) : c = a * b := by
  have h : Int32.ofInt a * Int32.ofInt b = Int32.ofInt c := h
  rw [← Int32.ofInt_mul] at h
  have := congrArg Int32.toInt h
  rw [zk_i32 h1 h2, zk_i32 h3 h4] at this
  exact this.symm
theorem zm_22 {a b c : Int} (h : zrec 22 a b c) (h1 : -9223372036854775808 ≤ a * b) (h2 : a * b ≤ 9223372036854775807) (h3 : -9223372036854775808 ≤ c) (h4 : c ≤ 9223372036854775807) : c = a * b := by
  have h : Int64.ofInt a * Int64.ofInt b = Int64.ofInt c := h
  rw [← Int64.ofInt_mul] at h
  have := congrArg Int64.toInt h
  rw [zk_i64 h1 h2, zk_i64 h3 h4] at this
  exact this.symm
theorem zm_28 {a b c : Int} (h : zrec 28 a b c) (h1 : 0 ≤ a) (h2 : a ≤ 2147483647) (h5 : 1 ≤ b) (h6 : b ≤ 2147483647) (h3 : -2147483648 ≤ c) (h4 : c ≤ 2147483647) : c = a % b := by
  have h : Int32.ofInt a - Int32.ofInt a / Int32.ofInt b * Int32.ofInt b = Int32.ofInt c := h
  rw [zk_m32rem h1 h5 h2 h6] at h
  have g1 := Int.emod_nonneg a (b := b) (by omega)
  have g2 := Int.emod_lt_of_pos a (b := b) (by omega)
  have := congrArg Int32.toInt h
  rw [zk_i32 (by omega) (by omega), zk_i32 h3 h4] at this
  exact this.symm
theorem zm_24 {a b c : Int} (h : zrec 24 a b c) (h1 : 0 ≤ a) (h2 : a ≤ 9223372036854775807) (h5 : 1 ≤ b) (h6 : b ≤ 9223372036854775807) (h3 : -9223372036854775808 ≤ c) (h4 : c ≤ 9223372036854775807) : c = a % b := by
  have h : Int64.ofInt a - Int64.ofInt a / Int64.ofInt b * Int64.ofInt b = Int64.ofInt c := h
  rw [zk_m64rem h1 h5 h2 h6] at h
  have g1 := Int.emod_nonneg a (b := b) (by omega)
  have g2 := Int.emod_lt_of_pos a (b := b) (by omega)
  have := congrArg Int64.toInt h
  rw [zk_i64 (by omega) (by omega), zk_i64 h3 h4] at this
  exact this.symm
theorem zn_dd {d : Int} (h1 : 0 ≤ d) (h2 : d ≤ 100000) : 0 ≤ d * d ∧ d * d ≤ 10000000000 := by
  refine ⟨Int.mul_nonneg h1 h1, ?_⟩
  have := Int.mul_le_mul h2 h2 h1 (by omega)
  omega
/-- numbers of choices: as the class makes them, and as the reference does -/
def zb (n : Nat) : Nat → Nat
  | 0 => 1
  | k + 1 => zb n k * (n - k) / (k + 1)
def zrw (m : Nat) : Nat → Nat
  | 0 => 1
  | i + 1 => zrw m i * (m + i + 1) / (i + 1)
def zch (n c : Nat) : Nat := if c ≤ n then zb n c else 0
def zht (n f c : Nat) : Nat := zch n c - zch (n - f) c
theorem zb_tab : ∀ n, n < 41 → ∀ k, k < n + 1 → zrw (n - k) k = zb n k ∧ 1 ≤ zb n k ∧ zb n k ≤ 1099511627776 := by decide +kernel
theorem zch_up : ∀ n, n < 40 → ∀ c, c < 41 → zch n c ≤ zch (n + 1) c := by decide +kernel
theorem zch_mono {c : Nat} (hc : c < 41) : ∀ (f m : Nat), m + f < 41 → zch m c ≤ zch (m + f) c
  | 0, m, _ => Nat.le_refl _
  | f + 1, m, h => Nat.le_trans (zch_mono hc f m (by omega)) (zch_up (m + f) (by omega) c hc)
theorem zch_low {n f c : Nat} (hn : n < 41) (hf : f ≤ n) (hc : c < 41) : zch (n - f) c ≤ zch n c := by
  have := zch_mono hc f (n - f) (by omega)
  rwa [show n - f + f = n by omega] at this
theorem zch_le {n c : Nat} (hn : n < 41) : zch n c ≤ 1099511627776 := by
  unfold zch
  split
  · exact (zb_tab n hn c (by omega)).2.2
  · omega
theorem zch_pos {n c : Nat} (hn : n < 41) (hc : c ≤ n) : 1 ≤ zch n c := by
  unfold zch
  rw [if_pos hc]
  exact (zb_tab n hn c (by omega)).2.1
/-- c opened lines are enough -/
def zsat (n f a b : Int) (c : Nat) : Prop := (zch n.toNat c : Int) * a ≤ (zht n.toNat f.toNat c : Int) * b
def zgq (n f c : Nat) : Nat := Nat.gcd (zht n f c) (zch n c)
theorem zgq_pos {n f c : Nat} (hn : n < 41) (hc : c ≤ n) : 0 < zgq n f c := Nat.gcd_pos_of_pos_right _ (zch_pos hn hc)
theorem zsat_q {n f c : Nat} {a b : Int} (hg : 0 < zgq n f c) : (zch n c : Int) * a ≤ (zht n f c : Int) * b ↔ a * ((zch n c / zgq n f c : Nat) : Int) ≤ ((zht n f c / zgq n f c : Nat) : Int) * b := by
  have e1 : zch n c = zgq n f c * (zch n c / zgq n f c) := (Nat.mul_div_cancel' (Nat.gcd_dvd_right _ _)).symm
  have e2 : zht n f c = zgq n f c * (zht n f c / zgq n f c) := (Nat.mul_div_cancel' (Nat.gcd_dvd_left _ _)).symm
  generalize zch n c / zgq n f c = w at *
  generalize zht n f c / zgq n f c = h at *
  generalize zgq n f c = g at *
  rw [e1, e2, Int.natCast_mul, Int.natCast_mul, Int.mul_assoc, Int.mul_assoc, Int.mul_comm (w : Int) a]
  exact ⟨fun z => Int.le_of_mul_le_mul_left z (by omega), fun z => Int.mul_le_mul_of_nonneg_left z (by omega)⟩
/-- the done hands: n numbers seen, in blocks, at most 1830 of them -/
def zf_cl (f : Nat → Int) (n : Int) : Prop := ∃ e : Nat, zb_k f 0 e ∧ n = min 1830 (e : Int)
def zf_bi (f : Nat → Int) (n c v : Int) : Prop := 0 ≤ c ∧ ∃ s : Nat, zb_k f 0 s ∧ n = min 1830 (s + c) ∧ (s < 1830 → 1 ≤ c → f s = v)
def zf_hw (f : Nat → Int) (n v : Int) : Prop := ∃ s : Nat, zb_k f 0 s ∧ n = s ∧ n < 1830 ∧ f s = v
def zf_hd (ua : Nat → Nat) (dI : Nat → Nat → Nat) (F : Nat → Nat → Int) (P : Nat → (Nat → Int) → Int → Prop) : Prop := ∀ p, p = 0 ∨ p = 1 → F (ua (1030 + p)) (dI 3 3) = (ua (1040 + p) : Int) ∧ P (ua (1030 + p)) (F (ua (1040 + p))) (F (ua (1030 + p)) (dI 3 10))
def zp_bi (x c v : Int) (a : Nat) (f : Nat → Int) (n : Int) : Prop := if a = x.toNat then zf_bi f n c v else zf_cl f n
def zp_hw (x v : Int) (a : Nat) (f : Nat → Int) (n : Int) : Prop := if a = x.toNat then zf_hw f n v else zf_cl f n
def zp_wk (x : Int) (i : Nat) (a : Nat) (f : Nat → Int) (n : Int) : Prop := a = x.toNat → ∃ e : Nat, zb_w f 0 i e ∧ n ≤ e
/-! further arithmetic: shifts, masks, sums of longs, powers -/
theorem zb32 {k : Int} (h0 : 0 ≤ k) (h1 : k ≤ 2147483647) : (Int32.ofInt k).toBitVec.toNat = k.toNat := by
  have e : (Int32.ofInt k).toBitVec = BitVec.ofInt 32 k := rfl
  rw [e, BitVec.toNat_ofInt, Int.emod_eq_of_lt h0 (by omega)]
theorem zb32i {x : Int32} (h : x.toBitVec.toNat ≤ 2147483647) : x.toInt = (x.toBitVec.toNat : Int) := BitVec.toInt_eq_toNat_of_lt (by omega)
def zrn (j : Nat) (a b c : Int) : Prop := zk_f (zk_rn j).1 (zk_k (zk_rn j).2.1 a) (zk_k (zk_rn j).2.2 b) = some (zk_k (zk_rn j).2.1 c)
theorem zm_35 {k t c : Int} (h : zrn 35 k t c) (h0 : 0 ≤ k) (h1 : k ≤ 2147483647) (h2 : 0 ≤ t) (h3 : t ≤ 31) (h4 : -2147483648 ≤ c) (h5 : c ≤ 2147483647) : c = ((k.toNat / 2 ^ t.toNat : Nat) : Int) := by
  have h : some (Value.int ((Int32.ofInt k).toUInt32 >>> ((Int32.ofInt t).toUInt32 &&& Int32.toUInt32 31)).toInt32) = some (Value.int (Int32.ofInt c)) := h
  have h := Value.int.inj (Option.some.inj h)
  have e1 : (Int32.ofInt k).toUInt32.toNat = k.toNat := zb32 h0 h1
  have e2 : (Int32.ofInt t).toUInt32.toNat = t.toNat := zb32 h2 (by omega)
  have e3 : ((Int32.ofInt k).toUInt32 >>> ((Int32.ofInt t).toUInt32 &&& Int32.toUInt32 31)).toNat = k.toNat / 2 ^ t.toNat := by
    rw [UInt32.toNat_shiftRight, UInt32.toNat_and, e1, e2, show (Int32.toUInt32 31).toNat = 2 ^ 5 - 1 by rfl, Nat.and_two_pow_sub_one_eq_mod, Nat.shiftRight_eq_div_pow, show t.toNat % 2 ^ 5 % 32 = t.toNat by omega]
  have e5 : ((Int32.ofInt k).toUInt32 >>> ((Int32.ofInt t).toUInt32 &&& Int32.toUInt32 31)).toInt32.toBitVec.toNat = k.toNat / 2 ^ t.toNat := e3
  have e6 : k.toNat / 2 ^ t.toNat ≤ k.toNat := Nat.div_le_self _ _
  have e4 := congrArg Int32.toInt h
  rw [zk_i32 h4 h5, zb32i (by rw [e5]; omega), e5] at e4
  exact e4.symm
theorem zm_31 {a c : Int} (h : zrn 31 a 1 c) (h0 : 0 ≤ a) (h1 : a ≤ 2147483647) (h4 : -2147483648 ≤ c) (h5 : c ≤ 2147483647) : c = a % 2 := by
  have h : some (Value.int (Int32.ofInt a &&& Int32.ofInt 1)) = some (Value.int (Int32.ofInt c)) := h
  have h := Value.int.inj (Option.some.inj h)
  have e5 : (Int32.ofInt a &&& Int32.ofInt 1).toBitVec.toNat = a.toNat % 2 := by
    rw [Int32.toBitVec_and, BitVec.toNat_and, zb32 h0 h1, zb32 (by omega) (by omega), show (1 : Int).toNat = 1 by rfl, Nat.and_one_is_mod]
  have e4 := congrArg Int32.toInt h
  rw [zk_i32 h4 h5, zb32i (by rw [e5]; omega), e5] at e4
  omega
theorem zm_46 {a b c : Int} (h : zrn 46 a b c) (h1 : -9223372036854775808 ≤ a + b) (h2 : a + b ≤ 9223372036854775807) (h3 : -9223372036854775808 ≤ c) (h4 : c ≤ 9223372036854775807) : c = a + b := by
  have h : some (Value.long (Int64.ofInt a + Int64.ofInt b)) = some (Value.long (Int64.ofInt c)) := h
  have h := Value.long.inj (Option.some.inj h)
  rw [← Int64.ofInt_add] at h
  have := congrArg Int64.toInt h
  rw [zk_i64 h1 h2, zk_i64 h3 h4] at this
  exact this.symm
theorem zn_pw1 {a q e m : Nat} (h : e % 2 = 1) : (a * q % m) * (q * q % m) ^ (e / 2) % m = a * q ^ e % m := by
  obtain ⟨f, rfl⟩ : ∃ f, e = 2 * f + 1 := ⟨e / 2, by omega⟩
  rw [show (2 * f + 1) / 2 = f by omega, Nat.mul_mod (a * q % m) ((q * q % m) ^ f) m, Nat.mod_mod, ← Nat.pow_mod, ← Nat.mul_mod, Nat.pow_succ, Nat.pow_mul, Nat.pow_two, Nat.mul_assoc, Nat.mul_comm q]
theorem zn_pw0 {a q e m : Nat} (h : e % 2 = 0) : a * (q * q % m) ^ (e / 2) % m = a * q ^ e % m := by
  obtain ⟨f, rfl⟩ : ∃ f, e = 2 * f := ⟨e / 2, by omega⟩
  rw [show 2 * f / 2 = f by omega, Nat.mul_mod a ((q * q % m) ^ f) m, ← Nat.pow_mod, ← Nat.mul_mod, Nat.pow_mul, Nat.pow_two]
/-- a number turned -/
def zn_t (kd k p x : Int) : Int := if kd = 0 then ((x.toNat ^ k.toNat % p.toNat : Nat) : Int) else if kd = 1 then x * k % p else if p - 1 < x + k then x + k - (p - 1) else x + k
/-- the steps by which an inverse is found -/
def zn_e (k n a b x y : Int) : Prop := (1 ≤ k ∧ k < n) ∧ (0 ≤ a ∧ 0 ≤ b ∧ 1 ≤ a + b) ∧ zg a b = zg k n ∧ n ∣ k * x - a ∧ n ∣ k * y - b ∧ x.natAbs * b.toNat + y.natAbs * a.toNat = n.toNat ∧ (0 ≤ x ∧ y ≤ 0 ∨ x ≤ 0 ∧ 0 ≤ y) ∧ (b < a ∨ y = 0) ∧ x.natAbs < n.toNat
theorem zn_e0 {k n : Int} (h1 : 1 ≤ k) (h2 : k < n) : zn_e k n k n 1 0 := by
  refine ⟨⟨h1, h2⟩, ⟨by omega, by omega, by omega⟩, rfl, ⟨0, by omega⟩, ⟨-1, by omega⟩, ?_, Or.inl ⟨by omega, by omega⟩, Or.inr rfl, ?_⟩
  · show 1 * n.toNat + 0 * k.toNat = n.toNat
    omega
  · show 1 < n.toNat
    omega
theorem zn_abs {x y q : Int} (hq : 0 ≤ q) (h : 0 ≤ x ∧ y ≤ 0 ∨ x ≤ 0 ∧ 0 ≤ y) : (x - q * y).natAbs = x.natAbs + q.toNat * y.natAbs := by
  have e : (q * y).natAbs = q.toNat * y.natAbs := by
    rw [Int.natAbs_mul]
    congr 1
    omega
  rcases h with ⟨h1, h2⟩ | ⟨h1, h2⟩
  · have : q * y ≤ 0 := Int.mul_nonpos_of_nonneg_of_nonpos hq h2
    omega
  · have : 0 ≤ q * y := Int.mul_nonneg hq h2
    omega
theorem zn_e1 {k n a b x y : Int} (h : zn_e k n a b x y) (hb : 0 < b) : zn_e k n b (a % b) y (x - a / b * y) := by
  obtain ⟨h1, ⟨h2, h3, -⟩, h4, ⟨u, hu⟩, ⟨v, hv⟩, h5, h6, h7, h8⟩ := h
  have g1 := Int.emod_nonneg a (b := b) (by omega)
  have g2 := Int.emod_lt_of_pos a (b := b) hb
  have g3 : 0 ≤ a / b := Int.ediv_nonneg h2 h3
  have g4 : a % b = a - b * (a / b) := Int.emod_def a b
  refine ⟨h1, ⟨by omega, g1, by omega⟩, by rw [zg_rest h2 h3]; exact h4, ⟨v, hv⟩, ⟨u - a / b * v, ?_⟩, ?_, ?_, Or.inl g2, ?_⟩
  · have c1 : k * (a / b * y) = a / b * (k * y) := by rw [← Int.mul_assoc, Int.mul_comm k, Int.mul_assoc]
    have c2 : n * (a / b * v) = a / b * (n * v) := by rw [← Int.mul_assoc, Int.mul_comm n, Int.mul_assoc]
    have c3 : a / b * (k * y - b) = a / b * (n * v) := by rw [hv]
    rw [Int.mul_sub] at c3
    have c4 : b * (a / b) = a / b * b := Int.mul_comm _ _
    rw [g4, Int.mul_sub, Int.mul_sub, c1, c2, ← hu]
    omega
  · rw [zn_abs g3 h6]
    have e1 : a.toNat = b.toNat * (a / b).toNat + (a % b).toNat := by
      rw [← Int.toNat_mul h3 g3, ← Int.toNat_add (Int.mul_nonneg h3 g3) g1]
      congr 1
      omega
    rw [e1] at h5
    rw [← h5, Nat.add_mul, Nat.mul_add]
    have c1 : (a / b).toNat * y.natAbs * b.toNat = y.natAbs * (b.toNat * (a / b).toNat) := by
      rw [Nat.mul_comm (a / b).toNat, Nat.mul_assoc, Nat.mul_comm (a / b).toNat]
    omega
  · have hs : ∀ z : Int, z.natAbs = 0 → z = 0 := fun z hz => by omega
    rcases h6 with ⟨s1, s2⟩ | ⟨s1, s2⟩
    · right
      refine ⟨s2, ?_⟩
      have : a / b * y ≤ 0 := Int.mul_nonpos_of_nonneg_of_nonpos g3 s2
      omega
    · left
      refine ⟨s2, ?_⟩
      have : 0 ≤ a / b * y := Int.mul_nonneg g3 s2
      omega
  · rcases h7 with h7 | h7
    · have m1 : y.natAbs * 2 ≤ y.natAbs * a.toNat := Nat.mul_le_mul_left _ (by omega)
      have m2 : 1 ≤ n.toNat := by omega
      omega
    · rw [h7]
      show 0 < n.toNat
      omega
noncomputable def zn_iv (k n : Int) : Int := @dite Int (∃ r : Int, 0 ≤ r ∧ r < n ∧ n ∣ k * r - 1) (Classical.propDecidable _) (fun h => Classical.choose h) (fun _ => 0)
theorem zn_iv_of {k n r : Int} (hn : 1 ≤ k ∧ k < n) (hg : zg k n = 1) (h0 : 0 ≤ r) (h1 : r < n) (h2 : n ∣ k * r - 1) : r = zn_iv k n := by
  have hx : ∃ r : Int, 0 ≤ r ∧ r < n ∧ n ∣ k * r - 1 := ⟨r, h0, h1, h2⟩
  have e : zn_iv k n = Classical.choose hx := by unfold zn_iv; rw [dif_pos hx]
  obtain ⟨c0, c1, c2⟩ := Classical.choose_spec hx
  rw [e]
  generalize Classical.choose hx = s at c0 c1 c2
  obtain ⟨u, hu⟩ := h2
  obtain ⟨v, hv⟩ := c2
  have d : n ∣ k * (r - s) := ⟨u - v, by rw [Int.mul_sub, Int.mul_sub]; omega⟩
  have d2 : n.natAbs ∣ k.natAbs * (r - s).natAbs := by
    rw [← Int.natAbs_mul]
    exact Int.natAbs_dvd_natAbs.mpr d
  have cp : Nat.Coprime n.natAbs k.natAbs := by
    have : zg k n = Nat.gcd n.toNat k.toNat := rfl
    unfold Nat.Coprime
    rw [show n.natAbs = n.toNat by omega, show k.natAbs = k.toNat by omega, ← this]
    exact hg
  have d3 := Nat.Coprime.dvd_of_dvd_mul_left cp d2
  rcases Nat.eq_zero_or_pos (r - s).natAbs with z | z
  · omega
  · have := Nat.le_of_dvd z d3
    omega
/-- the end of the steps -/
theorem zn_e2 {k n a x y : Int} (h : zn_e k n a 0 x y) (hg : zg k n = 1) : n ∣ k * x - 1 ∧ -n < x ∧ x < n := by
  obtain ⟨h1, ⟨h2, -, h3⟩, h4, h5, -, -, -, -, h8⟩ := h
  have : a.toNat = 1 := by rw [← hg, ← h4]; exact (zg_zero rfl).symm
  have e : a = 1 := by omega
  rw [e] at h5
  exact ⟨h5, by omega, by omega⟩
theorem zn_e3 {k n x : Int} (h : n ∣ k * x - 1) (c : Int) : n ∣ k * (x + c * n) - 1 := by
  obtain ⟨u, hu⟩ := h
  refine ⟨u + k * c, ?_⟩
  rw [Int.mul_add, Int.mul_add, ← hu]
  have : k * (c * n) = n * (k * c) := by rw [← Int.mul_assoc, Int.mul_comm]
  omega
theorem zm_24t {a b c : Int} (h : zrec 24 a b c) (ha : -9223372036854775808 ≤ a ∧ a ≤ 9223372036854775807) (hb : 1 ≤ b ∧ b ≤ 9223372036854775807) (h3 : -9223372036854775808 ≤ c) (h4 : c ≤ 9223372036854775807) : c = a.tmod b := by
  have h : Int64.ofInt a - Int64.ofInt a / Int64.ofInt b * Int64.ofInt b = Int64.ofInt c := h
  have e1 : Int64.minValue.toInt = -9223372036854775808 := by decide
  have e2 : Int64.maxValue.toInt = 9223372036854775807 := by decide
  rw [← Int64.ofInt_tdiv (by omega) (by omega) (by omega) (by omega), ← Int64.ofInt_mul, ← Int64.ofInt_sub] at h
  have e3 := Int.tdiv_mul_add_tmod a b
  rw [show a - a.tdiv b * b = a.tmod b by omega] at h
  have k := Int.natAbs_tmod a b
  have k2 : a.natAbs % b.natAbs < b.natAbs := Nat.mod_lt _ (by omega)
  have := congrArg Int64.toInt h
  rw [zk_i64 (by omega) (by omega), zk_i64 h3 h4] at this
  exact this.symm
/-- the sign of an exclusive or with a number above 0 -/
theorem zm_47 {a b c : Int} (h : zrn 47 a b c) (ha : -9223372036854775808 ≤ a ∧ a ≤ 9223372036854775807) (hb : 0 ≤ b ∧ b ≤ 9223372036854775807) (h3 : -9223372036854775808 ≤ c) (h4 : c ≤ 9223372036854775807) : c < 0 ↔ a < 0 := by
  have h : some (Value.long (Int64.ofInt a ^^^ Int64.ofInt b)) = some (Value.long (Int64.ofInt c)) := h
  have h := Value.long.inj (Option.some.inj h)
  have e0 : ∀ x : Int, -9223372036854775808 ≤ x → x ≤ 9223372036854775807 → (Int64.ofInt x).toBitVec.msb = decide (x < 0) := by
    intro x h1 h2
    rw [BitVec.msb_eq_toInt]
    have : (Int64.ofInt x).toBitVec.toInt = x := zk_i64 h1 h2
    rw [this]
  have e1 : (Int64.ofInt a ^^^ Int64.ofInt b).toBitVec.msb = (Int64.ofInt c).toBitVec.msb := congrArg (fun z : Int64 => z.toBitVec.msb) h
  rw [Int64.toBitVec_xor, BitVec.msb_xor, e0 a ha.1 ha.2, e0 b (by omega) (by omega), e0 c h3 h4, show decide (b < 0) = false by simp; omega, Bool.xor_false] at e1
  constructor
  · intro hc
    rw [show decide (c < 0) = true by simp; exact hc] at e1
    exact of_decide_eq_true e1
  · intro ha
    rw [show decide (a < 0) = true by simp; exact ha] at e1
    exact of_decide_eq_true e1.symm
/-- numbers below a prime have no factor that it has -/
theorem zn_cp {p k : Int} (hp : zn_pr p) (h1 : 1 ≤ k) (h2 : k < p) : zg k p = 1 := by
  have hg : 0 < Nat.gcd p.toNat k.toNat := Nat.gcd_pos_of_pos_right _ (by omega)
  have d1 := Nat.gcd_dvd_left p.toNat k.toNat
  have d2 := Nat.le_of_dvd (by omega) (Nat.gcd_dvd_right p.toNat k.toNat)
  show Nat.gcd p.toNat k.toNat = 1
  generalize Nat.gcd p.toNat k.toNat = g at hg d1 d2
  obtain ⟨h, hh⟩ := d1
  rcases Nat.lt_or_ge g 2 with z | z
  · omega
  exfalso
  have hh2 : 2 ≤ h := by
    rcases Nat.lt_or_ge h 2 with y | y
    · have hc : h = 0 ∨ h = 1 := by omega
      rcases hc with rfl | rfl
      · rw [Nat.mul_zero] at hh
        omega
      · rw [Nat.mul_one] at hh
        omega
    · exact y
  have key : ∀ d e : Nat, 2 ≤ d → d ≤ e → p.toNat = d * e → False := by
    intro d e a b c
    have c1 : d * d ≤ d * e := Nat.mul_le_mul_left d b
    refine hp.2 (d : Int) (by omega) ?_ ?_
    · have c2 : ((d * d : Nat) : Int) ≤ p := by omega
      rw [Int.natCast_mul] at c2
      exact c2
    · have e1 : p = (d : Int) * (e : Int) := by
        rw [← Int.natCast_mul, ← c]
        omega
      rw [e1]
      exact Int.mul_emod_right _ _
  rcases Nat.le_total g h with y | y
  · exact key g h z y hh
  · exact key h g hh2 y (by rw [hh, Nat.mul_comm])
/-- a number turned back -/
noncomputable def zn_u (kd k p x : Int) : Int := if kd = 0 then ((x.toNat ^ (zn_iv k (p - 1)).toNat % p.toNat : Nat) : Int) else if kd = 1 then x * zn_iv k p % p else if k < x then x - k else x - k + (p - 1)
noncomputable def zn_td (s kd0 k0 p0 kd1 k1 p1 x bk : Int) : Int := if s = 0 ∧ 1 ≤ x ∧ x < p0 then (if bk = 0 then zn_t kd0 k0 p0 x else zn_u kd0 k0 p0 x) else if s = 1 ∧ 1 ≤ x ∧ x < p1 then (if bk = 0 then zn_t kd1 k1 p1 x else zn_u kd1 k1 p1 x) else -2
/-- a turning's table, up to n -/
def zf_tt (dI : Nat → Nat → Nat) (F : Nat → Nat → Int) (a : Nat) (n : Int) : Prop := ∀ y : Nat, 1 ≤ y → (y : Int) < n → F (F a (dI 9 0)).toNat y = zn_t (F a (dI 9 2)) (F a (dI 9 3)) (F a (dI 9 4)) (y : Int)
/-- what is answered of a judge's odds -/
def zn_ca (n f c w : Int) : Int := if (1 ≤ n ∧ n ≤ 40) ∧ (0 ≤ f ∧ f ≤ n) ∧ (0 ≤ c ∧ c ≤ n) ∧ 0 ≤ w ∧ w ≤ 1 then (if w = 0 then ((zht n.toNat f.toNat c.toNat / zgq n.toNat f.toNat c.toNat : Nat) : Int) else ((zch n.toNat c.toNat / zgq n.toNat f.toNat c.toNat : Nat) : Int)) else -2
def zn_op (n f a b r : Int) : Prop := (¬ ((1 ≤ n ∧ n ≤ 40) ∧ (0 ≤ f ∧ f ≤ n) ∧ (1 ≤ b ∧ b ≤ 10000) ∧ 0 ≤ a ∧ a ≤ b) ∧ r = -2) ∨ (((1 ≤ n ∧ n ≤ 40) ∧ (0 ≤ f ∧ f ≤ n) ∧ (1 ≤ b ∧ b ≤ 10000) ∧ 0 ≤ a ∧ a ≤ b) ∧ (((0 ≤ r ∧ r ≤ n) ∧ zsat n f a b r.toNat ∧ ∀ x : Nat, (x : Int) < r → ¬ zsat n f a b x) ∨ (r = -1 ∧ ∀ x : Nat, (x : Int) ≤ n → ¬ zsat n f a b x)))
theorem zn_op_eq {n f a b r s : Int} (h : zn_op n f a b r) (g : zn_op n f a b s) : r = s := by
  rcases h with ⟨h1, h2⟩ | ⟨h1, h2⟩ <;> rcases g with ⟨g1, g2⟩ | ⟨g1, g2⟩
  · omega
  · exact absurd g1 h1
  · exact absurd h1 g1
  · rcases h2 with ⟨h2, h3, h4⟩ | ⟨h2, h3⟩ <;> rcases g2 with ⟨g2, g3, g4⟩ | ⟨g2, g3⟩
    · rcases Int.lt_trichotomy r s with z | z | z
      · exact absurd h3 (g4 r.toNat (by omega))
      · exact z
      · exact absurd g3 (h4 s.toNat (by omega))
    · exact absurd h3 (g3 r.toNat (by omega))
    · exact absurd g3 (h3 s.toNat (by omega))
    · omega
/-- the turnings that there may be -/
def zn_al (kd k p : Int) : Prop := (kd = 0 ∧ 1 ≤ k ∧ k ≤ p - 2 ∧ zg k (p - 1) = 1) ∨ (kd = 1 ∧ 1 ≤ k ∧ k ≤ p - 1) ∨ (kd = 2 ∧ 0 ≤ k ∧ k ≤ p - 2)
/-- how many numbers a turning leaves as they are -/
def zn_fx (kd k p : Int) : Int := if kd = 0 then (zg (k - 1) (p - 1) : Int) else if kd = 1 then (if k = 1 then p - 1 else 0) else if k = 0 then p - 1 else 0
theorem zn_al1 {n : Int} (h : 5 ≤ n) : zn_al 0 1 n := by
  refine Or.inl ⟨rfl, by omega, by omega, ?_⟩
  unfold zg
  exact Nat.gcd_one_right _
theorem zn_101 : zn_pr 101 := by
  refine ⟨by omega, fun d h1 h2 => ?_⟩
  by_cases h : d ≤ 10
  · have h3 : d = 2 ∨ d = 3 ∨ d = 4 ∨ d = 5 ∨ d = 6 ∨ d = 7 ∨ d = 8 ∨ d = 9 ∨ d = 10 := by omega
    rcases h3 with rfl | rfl | rfl | rfl | rfl | rfl | rfl | rfl | rfl <;> decide
  · have h3 := Int.mul_le_mul (show 11 ≤ d by omega) (show 11 ≤ d by omega) (by omega) (by omega)
    omega
/-- two turnings done in either order -/
def zn_cm (kd0 k0 kd1 k1 p y : Int) : Prop := zn_t kd1 k1 p (zn_t kd0 k0 p y) = zn_t kd0 k0 p (zn_t kd1 k1 p y)
theorem zn_cm_sy {kd0 k0 kd1 k1 p y : Int} (h : zn_cm kd0 k0 kd1 k1 p y) : zn_cm kd1 k1 kd0 k0 p y := Eq.symm h
theorem zn_t_0 {k p x : Int} : zn_t 0 k p x = ((x.toNat ^ k.toNat % p.toNat : Nat) : Int) := by
  unfold zn_t
  rw [if_pos rfl]
theorem zn_t_1 {k p x : Int} (hk : 0 ≤ k) (hx : 0 ≤ x) (hp : 0 ≤ p) : zn_t 1 k p x = ((x.toNat * k.toNat % p.toNat : Nat) : Int) := by
  have e : ((x.toNat * k.toNat % p.toNat : Nat) : Int) = (x.toNat : Int) * (k.toNat : Int) % (p.toNat : Int) := by rw [Int.natCast_emod, Int.natCast_mul]
  rw [e, Int.toNat_of_nonneg hk, Int.toNat_of_nonneg hx, Int.toNat_of_nonneg hp]
  unfold zn_t
  rw [if_neg (by decide), if_pos rfl]
theorem zn_t_2 {k p x : Int} : zn_t 2 k p x = (if p - 1 < x + k then x + k - (p - 1) else x + k) := by
  unfold zn_t
  rw [if_neg (by decide), if_neg (by decide)]
/-- a turning leads from 1 .. p - 1 there -/
theorem zn_nz {p a : Nat} (h2 : 2 ≤ p) (h : Nat.Coprime p a) : 1 ≤ a % p ∧ a % p < p := by
  refine ⟨?_, Nat.mod_lt _ (by omega)⟩
  rcases Nat.eq_zero_or_pos (a % p) with z | z
  · have d : p ∣ a := Nat.dvd_of_mod_eq_zero z
    have := Nat.Coprime.eq_one_of_dvd h d
    omega
  · exact z
theorem zn_cpn {p k : Int} (hp : zn_pr p) (h1 : 1 ≤ k) (h2 : k < p) : Nat.Coprime p.toNat k.toNat := zn_cp hp h1 h2
theorem zn_rg {kd k p x : Int} (ha : zn_al kd k p) (hp : zn_pr p) (h1 : 1 ≤ x) (h2 : x < p) : 1 ≤ zn_t kd k p x ∧ zn_t kd k p x < p := by
  have p2 : 2 ≤ p := hp.1
  have c := zn_cpn hp h1 h2
  rcases ha with ⟨rfl, a1, a2, -⟩ | ⟨rfl, a1, a2⟩ | ⟨rfl, a1, a2⟩
  · rw [zn_t_0]
    have := zn_nz (p := p.toNat) (by omega) (Nat.Coprime.pow_right k.toNat c)
    generalize x.toNat ^ k.toNat % p.toNat = w at this ⊢
    omega
  · rw [zn_t_1 (by omega) (by omega) (by omega)]
    have := zn_nz (p := p.toNat) (by omega) (Nat.Coprime.mul_right c (zn_cpn hp a1 (by omega)))
    generalize x.toNat * k.toNat % p.toNat = w at this ⊢
    omega
  · rw [zn_t_2]
    split <;> omega
/-- turnings of one kind -/
theorem zn_c0 {kd k0 k1 p y : Int} (h0 : zn_al kd k0 p) (h1 : zn_al kd k1 p) (hp : zn_pr p) (y1 : 1 ≤ y) (y2 : y < p) : zn_cm kd k0 kd k1 p y := by
  have p2 : 2 ≤ p := hp.1
  have r0 := zn_rg h0 hp y1 y2
  have r1 := zn_rg h1 hp y1 y2
  unfold zn_cm
  by_cases e0 : kd = 0
  · subst e0
    rw [zn_t_0, zn_t_0, zn_t_0, zn_t_0, Int.toNat_natCast, Int.toNat_natCast, ← Nat.pow_mod, ← Nat.pow_mod, ← Nat.pow_mul, ← Nat.pow_mul, Nat.mul_comm]
  · by_cases e1 : kd = 1
    · subst e1
      have a0 : 1 ≤ k0 ∧ k0 ≤ p - 1 := by
        unfold zn_al at h0
        omega
      have a1 : 1 ≤ k1 ∧ k1 ≤ p - 1 := by
        unfold zn_al at h1
        omega
      rw [zn_t_1 (k := k1) (x := zn_t 1 k0 p y) (by omega) (by omega) (by omega), zn_t_1 (k := k0) (x := zn_t 1 k1 p y) (by omega) (by omega) (by omega), zn_t_1 (k := k0) (x := y) (by omega) (by omega) (by omega), zn_t_1 (k := k1) (x := y) (by omega) (by omega) (by omega), Int.toNat_natCast, Int.toNat_natCast, Nat.mod_mul_mod, Nat.mod_mul_mod, Nat.mul_right_comm]
    · have e2 : kd = 2 := by
        unfold zn_al at h0
        omega
      subst e2
      have a0 : 0 ≤ k0 ∧ k0 ≤ p - 2 := by
        unfold zn_al at h0
        omega
      have a1 : 0 ≤ k1 ∧ k1 ≤ p - 2 := by
        unfold zn_al at h1
        omega
      rw [zn_t_2, zn_t_2, zn_t_2, zn_t_2]
      omega
/-- a turning that changes nothing -/
theorem zn_id {kd k p y : Int} (h : zn_al kd k p) (hf : zn_fx kd k p = p - 1) (p2 : 2 ≤ p) (y1 : 1 ≤ y) (y2 : y < p) : zn_t kd k p y = y := by
  unfold zn_fx at hf
  rcases h with ⟨rfl, a1, a2, -⟩ | ⟨rfl, a1, a2⟩ | ⟨rfl, a1, a2⟩
  · rw [if_pos rfl] at hf
    have hg : Nat.gcd (p - 1).toNat (k - 1).toNat = (p - 1).toNat := by
      have : ((Nat.gcd (p - 1).toNat (k - 1).toNat : Nat) : Int) = p - 1 := hf
      omega
    have d : (p - 1).toNat ∣ (k - 1).toNat := by
      have := Nat.gcd_dvd_right (p - 1).toNat (k - 1).toNat
      rwa [hg] at this
    have e : k = 1 := by
      rcases Nat.eq_zero_or_pos (k - 1).toNat with z | z
      · omega
      · have := Nat.le_of_dvd z d
        omega
    subst e
    rw [zn_t_0, show (1 : Int).toNat = 1 by rfl, Nat.pow_one, Nat.mod_eq_of_lt (by omega)]
    omega
  · rw [if_neg (by decide), if_pos rfl] at hf
    have e : k = 1 := by
      by_cases e : k = 1
      · exact e
      · rw [if_neg e] at hf
        omega
    subst e
    rw [zn_t_1 (by omega) (by omega) (by omega), show (1 : Int).toNat = 1 by rfl, Nat.mul_one, Nat.mod_eq_of_lt (by omega)]
    omega
  · rw [if_neg (by decide), if_neg (by decide)] at hf
    have e : k = 0 := by
      by_cases e : k = 0
      · exact e
      · rw [if_neg e] at hf
        omega
    subst e
    rw [zn_t_2, if_neg (by omega)]
    omega
theorem zn_c1 {kd0 k0 kd1 k1 p y : Int} (h0 : zn_al kd0 k0 p) (hf : zn_fx kd0 k0 p = p - 1) (h1 : zn_al kd1 k1 p) (hp : zn_pr p) (y1 : 1 ≤ y) (y2 : y < p) : zn_cm kd0 k0 kd1 k1 p y := by
  have p2 : 2 ≤ p := hp.1
  have r1 := zn_rg h1 hp y1 y2
  unfold zn_cm
  rw [zn_id h0 hf p2 y1 y2, zn_id h0 hf p2 r1.1 r1.2]
/-- a power and a multiple: the first number tells for all -/
theorem zn_c2 {k c p y : Int} (h0 : zn_al 0 k p) (h1 : zn_al 1 c p) (hp : zn_pr p) (h : zn_cm 0 k 1 c p 1) (y1 : 1 ≤ y) (y2 : y < p) : zn_cm 0 k 1 c p y := by
  have p2 : 2 ≤ p := hp.1
  have a1 : 1 ≤ c ∧ c ≤ p - 1 := by
    unfold zn_al at h1
    omega
  have key : ∀ z : Int, 1 ≤ z → z < p → (zn_cm 0 k 1 c p z ↔ (z.toNat ^ k.toNat % p.toNat) * c.toNat % p.toNat = (z.toNat * c.toNat) ^ k.toNat % p.toNat) := by
    intro z z1 z2
    have r0 := zn_rg h0 hp z1 z2
    unfold zn_cm
    rw [zn_t_1 (k := c) (x := zn_t 0 k p z) (by omega) (by omega) (by omega), zn_t_1 (k := c) (x := z) (by omega) (by omega) (by omega), zn_t_0, zn_t_0, Int.toNat_natCast, Int.toNat_natCast, ← Nat.pow_mod]
    exact ⟨fun e => Int.ofNat.inj e, fun e => by rw [e]⟩
  have h := (key 1 (by omega) (by omega)).mp h
  rw [show (1 : Int).toNat = 1 by rfl, Nat.one_pow, Nat.mod_mul_mod, Nat.one_mul] at h
  refine (key y y1 y2).mpr ?_
  rw [Nat.mod_mul_mod, Nat.mul_pow, Nat.mul_mod, h, ← Nat.mul_mod]
def zn_un (kd0 k0 kd1 k1 p r : Int) : Prop := (100000 < p ∧ r = -4) ∨ (p ≤ 100000 ∧ ((1 ≤ r ∧ r < p ∧ ¬ zn_cm kd0 k0 kd1 k1 p r ∧ ∀ y : Int, 1 ≤ y → y < r → zn_cm kd0 k0 kd1 k1 p y) ∨ (r = -1 ∧ ∀ y : Int, 1 ≤ y → y < p → zn_cm kd0 k0 kd1 k1 p y)))
theorem zn_un_eq {kd0 k0 kd1 k1 p r s : Int} (h : zn_un kd0 k0 kd1 k1 p r) (g : zn_un kd0 k0 kd1 k1 p s) : r = s := by
  rcases h with ⟨h0, h1⟩ | ⟨h0, h1⟩ <;> rcases g with ⟨g0, g1⟩ | ⟨g0, g1⟩
  · omega
  · omega
  · omega
  rcases h1 with ⟨a1, a2, a3, a4⟩ | ⟨a1, a2⟩ <;> rcases g1 with ⟨b1, b2, b3, b4⟩ | ⟨b1, b2⟩
  · rcases Int.lt_trichotomy r s with z | z | z
    · exact absurd (b4 r a1 z) a3
    · exact z
    · exact absurd (a4 s b1 z) b3
  · exact absurd (b2 r a1 a2) a3
  · exact absurd (a2 s b1 b2) b3
  · omega
/-! TEXTS: the tape as a row of signs, tokens, the machine that reads a way. -/
/-- the signs: -1000 where there are none -/
def zt_S (f : Nat → Int) (n : Int) : Int → Int := fun k => if 0 ≤ k ∧ k < n then f k.toNat else -1000
theorem zt_S_in {f : Nat → Int} {n k : Int} (h0 : 0 ≤ k) (h1 : k < n) : zt_S f n k = f k.toNat := by
  unfold zt_S
  rw [if_pos ⟨h0, h1⟩]
theorem zt_S_out {f : Nat → Int} {n k : Int} (h1 : n ≤ k) : zt_S f n k = -1000 := by
  unfold zt_S
  rw [if_neg (by omega)]
theorem zt_S_eq {f g : Nat → Int} {n : Int} (h : ∀ k : Nat, (k : Int) < n → f k = g k) : zt_S f n = zt_S g n := by
  funext k
  unfold zt_S
  by_cases e : 0 ≤ k ∧ k < n
  · rw [if_pos e, if_pos e, h k.toNat (by omega)]
  · rw [if_neg e, if_neg e]
def zt_bl (b : Int) : Prop := b = 32 ∨ b = 10
def zt_sm (b : Int) : Prop := 97 ≤ b ∧ b ≤ 122
def zt_dg (b : Int) : Prop := 48 ≤ b ∧ b ≤ 57
def zt_run (P : Int → Prop) (S : Int → Int) (a e : Int) : Prop := a ≤ e ∧ ∀ k, a ≤ k → k < e → P (S k)
theorem zt_run_nil {P : Int → Prop} {S : Int → Int} {a : Int} : zt_run P S a a := ⟨Int.le_refl a, fun k h1 h2 => by omega⟩
theorem zt_run_up {P : Int → Prop} {S : Int → Int} {a e : Int} (h : zt_run P S a e) (g : P (S e)) : zt_run P S a (e + 1) := by
  refine ⟨by have := h.1; omega, fun k h1 h2 => ?_⟩
  by_cases z : k < e
  · exact h.2 k h1 z
  · rw [show k = e by omega]
    exact g
theorem zt_run_eq {P : Int → Prop} {S : Int → Int} {a x y : Int} (h : zt_run P S a x) (h1 : ¬ P (S x)) (g : zt_run P S a y) (g1 : ¬ P (S y)) : x = y := by
  have e1 := h.1
  have e2 := g.1
  rcases Int.lt_trichotomy x y with z | z | z
  · exact absurd (g.2 x e1 z) h1
  · exact z
  · exact absurd (h.2 y e2 z) g1
/-- a word as one number -/
def zt_wc (S : Int → Int) (a : Int) : Nat → Int
  | 0 => 0
  | m + 1 => 32 * zt_wc S a m + (S (a + m) - 96)
def zt_nc (S : Int → Int) (a : Int) : Nat → Int
  | 0 => 0
  | m + 1 => 10 * zt_nc S a m + (S (a + m) - 48)
/-- a token at a -/
def zt_at (S : Int → Int) (k a x w v : Int) : Prop :=
  (k = 0 ∧ S a = -1000 ∧ x = a) ∨ (k = 1 ∧ a < x ∧ zt_run zt_sm S a x ∧ ¬ zt_sm (S x) ∧ x - a ≤ 10 ∧ w = zt_wc S a (x - a).toNat) ∨ (k = 2 ∧ a < x ∧ zt_run zt_dg S a x ∧ ¬ zt_dg (S x) ∧ x - a ≤ 5 ∧ v = zt_nc S a (x - a).toNat) ∨ (k = 3 ∧ S a = 59 ∧ x = a + 1) ∨ (k = 4 ∧ a < x ∧ zt_run zt_sm S a x ∧ ¬ zt_sm (S x) ∧ 10 < x - a) ∨ (k = 4 ∧ a < x ∧ zt_run zt_dg S a x ∧ ¬ zt_dg (S x) ∧ 5 < x - a) ∨ (k = 4 ∧ S a ≠ -1000 ∧ ¬ zt_sm (S a) ∧ ¬ zt_dg (S a) ∧ S a ≠ 59 ∧ x = a + 1)
def zt_tk (S : Int → Int) (i k a x w v : Int) : Prop := 0 ≤ i ∧ zt_run zt_bl S i a ∧ ¬ zt_bl (S a) ∧ zt_at S k a x w v
theorem zt_at_eq {S : Int → Int} {k a x w v k1 x1 w1 v1 : Int} (h : zt_at S k a x w v) (g : zt_at S k1 a x1 w1 v1) : k = k1 ∧ x = x1 ∧ (k = 1 → w = w1) ∧ (k = 2 → v = v1) := by
  have hs : ∀ y, a < y → zt_run zt_sm S a y → 97 ≤ S a ∧ S a ≤ 122 := fun y y1 y2 => y2.2 a (Int.le_refl a) y1
  have hd : ∀ y, a < y → zt_run zt_dg S a y → 48 ≤ S a ∧ S a ≤ 57 := fun y y1 y2 => y2.2 a (Int.le_refl a) y1
  rcases h with ⟨h0, h1, h2⟩ | ⟨h0, h1, h2, h3, h4, h5⟩ | ⟨h0, h1, h2, h3, h4, h5⟩ | ⟨h0, h1, h2⟩ | ⟨h0, h1, h2, h3, h4⟩ | ⟨h0, h1, h2, h3, h4⟩ | ⟨h0, h1, h2, h3, h4, h5⟩
  · rcases g with ⟨g0, g1, g2⟩ | ⟨g0, g1, g2, g3, g4, g5⟩ | ⟨g0, g1, g2, g3, g4, g5⟩ | ⟨g0, g1, g2⟩ | ⟨g0, g1, g2, g3, g4⟩ | ⟨g0, g1, g2, g3, g4⟩ | ⟨g0, g1, g2, g3, g4, g5⟩
    · exact ⟨by omega, by omega, fun z => by omega, fun z => by omega⟩
    · exfalso
      have ig := hs _ g1 g2
      omega
    · exfalso
      have ig := hd _ g1 g2
      omega
    · exfalso
      omega
    · exfalso
      have ig := hs _ g1 g2
      omega
    · exfalso
      have ig := hd _ g1 g2
      omega
    · exfalso
      unfold zt_sm at g2
      unfold zt_dg at g3
      omega
  · rcases g with ⟨g0, g1, g2⟩ | ⟨g0, g1, g2, g3, g4, g5⟩ | ⟨g0, g1, g2, g3, g4, g5⟩ | ⟨g0, g1, g2⟩ | ⟨g0, g1, g2, g3, g4⟩ | ⟨g0, g1, g2, g3, g4⟩ | ⟨g0, g1, g2, g3, g4, g5⟩
    · exfalso
      have ih := hs _ h1 h2
      omega
    · have e := zt_run_eq h2 h3 g2 g3
      refine ⟨by omega, e, fun z => ?_, fun z => ?_⟩
      · rw [h5, g5, e]
      · omega
    · exfalso
      have ih := hs _ h1 h2
      have ig := hd _ g1 g2
      omega
    · exfalso
      have ih := hs _ h1 h2
      omega
    · have e := zt_run_eq h2 h3 g2 g3
      exfalso
      omega
    · exfalso
      have ih := hs _ h1 h2
      have ig := hd _ g1 g2
      omega
    · exfalso
      have ih := hs _ h1 h2
      unfold zt_sm at g2
      unfold zt_dg at g3
      omega
  · rcases g with ⟨g0, g1, g2⟩ | ⟨g0, g1, g2, g3, g4, g5⟩ | ⟨g0, g1, g2, g3, g4, g5⟩ | ⟨g0, g1, g2⟩ | ⟨g0, g1, g2, g3, g4⟩ | ⟨g0, g1, g2, g3, g4⟩ | ⟨g0, g1, g2, g3, g4, g5⟩
    · exfalso
      have ih := hd _ h1 h2
      omega
    · exfalso
      have ih := hd _ h1 h2
      have ig := hs _ g1 g2
      omega
    · have e := zt_run_eq h2 h3 g2 g3
      refine ⟨by omega, e, fun z => ?_, fun z => ?_⟩
      · omega
      · rw [h5, g5, e]
    · exfalso
      have ih := hd _ h1 h2
      omega
    · exfalso
      have ih := hd _ h1 h2
      have ig := hs _ g1 g2
      omega
    · have e := zt_run_eq h2 h3 g2 g3
      exfalso
      omega
    · exfalso
      have ih := hd _ h1 h2
      unfold zt_sm at g2
      unfold zt_dg at g3
      omega
  · rcases g with ⟨g0, g1, g2⟩ | ⟨g0, g1, g2, g3, g4, g5⟩ | ⟨g0, g1, g2, g3, g4, g5⟩ | ⟨g0, g1, g2⟩ | ⟨g0, g1, g2, g3, g4⟩ | ⟨g0, g1, g2, g3, g4⟩ | ⟨g0, g1, g2, g3, g4, g5⟩
    · exfalso
      omega
    · exfalso
      have ig := hs _ g1 g2
      omega
    · exfalso
      have ig := hd _ g1 g2
      omega
    · exact ⟨by omega, by omega, fun z => by omega, fun z => by omega⟩
    · exfalso
      have ig := hs _ g1 g2
      omega
    · exfalso
      have ig := hd _ g1 g2
      omega
    · exfalso
      unfold zt_sm at g2
      unfold zt_dg at g3
      omega
  · rcases g with ⟨g0, g1, g2⟩ | ⟨g0, g1, g2, g3, g4, g5⟩ | ⟨g0, g1, g2, g3, g4, g5⟩ | ⟨g0, g1, g2⟩ | ⟨g0, g1, g2, g3, g4⟩ | ⟨g0, g1, g2, g3, g4⟩ | ⟨g0, g1, g2, g3, g4, g5⟩
    · exfalso
      have ih := hs _ h1 h2
      omega
    · have e := zt_run_eq h2 h3 g2 g3
      exfalso
      omega
    · exfalso
      have ih := hs _ h1 h2
      have ig := hd _ g1 g2
      omega
    · exfalso
      have ih := hs _ h1 h2
      omega
    · have e := zt_run_eq h2 h3 g2 g3
      exact ⟨by omega, e, fun z => by omega, fun z => by omega⟩
    · exfalso
      have ih := hs _ h1 h2
      have ig := hd _ g1 g2
      omega
    · exfalso
      have ih := hs _ h1 h2
      unfold zt_sm at g2
      unfold zt_dg at g3
      omega
  · rcases g with ⟨g0, g1, g2⟩ | ⟨g0, g1, g2, g3, g4, g5⟩ | ⟨g0, g1, g2, g3, g4, g5⟩ | ⟨g0, g1, g2⟩ | ⟨g0, g1, g2, g3, g4⟩ | ⟨g0, g1, g2, g3, g4⟩ | ⟨g0, g1, g2, g3, g4, g5⟩
    · exfalso
      have ih := hd _ h1 h2
      omega
    · exfalso
      have ih := hd _ h1 h2
      have ig := hs _ g1 g2
      omega
    · have e := zt_run_eq h2 h3 g2 g3
      exfalso
      omega
    · exfalso
      have ih := hd _ h1 h2
      omega
    · exfalso
      have ih := hd _ h1 h2
      have ig := hs _ g1 g2
      omega
    · have e := zt_run_eq h2 h3 g2 g3
      exact ⟨by omega, e, fun z => by omega, fun z => by omega⟩
    · exfalso
      have ih := hd _ h1 h2
      unfold zt_sm at g2
      unfold zt_dg at g3
      omega
  · rcases g with ⟨g0, g1, g2⟩ | ⟨g0, g1, g2, g3, g4, g5⟩ | ⟨g0, g1, g2, g3, g4, g5⟩ | ⟨g0, g1, g2⟩ | ⟨g0, g1, g2, g3, g4⟩ | ⟨g0, g1, g2, g3, g4⟩ | ⟨g0, g1, g2, g3, g4, g5⟩
    · exfalso
      unfold zt_sm at h2
      unfold zt_dg at h3
      omega
    · exfalso
      unfold zt_sm at h2
      unfold zt_dg at h3
      have ig := hs _ g1 g2
      omega
    · exfalso
      unfold zt_sm at h2
      unfold zt_dg at h3
      have ig := hd _ g1 g2
      omega
    · exfalso
      unfold zt_sm at h2
      unfold zt_dg at h3
      omega
    · exfalso
      unfold zt_sm at h2
      unfold zt_dg at h3
      have ig := hs _ g1 g2
      omega
    · exfalso
      unfold zt_sm at h2
      unfold zt_dg at h3
      have ig := hd _ g1 g2
      omega
    · exact ⟨by omega, by omega, fun z => by omega, fun z => by omega⟩
theorem zt_tk_eq {S : Int → Int} {i k a x w v k1 a1 x1 w1 v1 : Int} (h : zt_tk S i k a x w v) (g : zt_tk S i k1 a1 x1 w1 v1) : k = k1 ∧ a = a1 ∧ x = x1 ∧ (k = 1 → w = w1) ∧ (k = 2 → v = v1) := by
  obtain ⟨-, h1, h2, h3⟩ := h
  obtain ⟨-, g1, g2, g3⟩ := g
  have e := zt_run_eq h1 h2 g1 g2
  subst e
  obtain ⟨e1, e2, e3, e4⟩ := zt_at_eq h3 g3
  exact ⟨e1, rfl, e2, e3, e4⟩
def zt_p1 (k w : Int) : Int := if k = 1 then w else 0
def zt_p2 (k v : Int) : Int := if k = 2 then v else 0
/-- the token that is read at i -/
noncomputable def zt_tok (S : Int → Int) (i : Int) : Int × Int × Int × Int × Int := @dite (Int × Int × Int × Int × Int) (∃ q : Int × Int × Int × Int × Int, zt_tk S i q.1 q.2.1 q.2.2.1 q.2.2.2.1 q.2.2.2.2) (Classical.propDecidable _) (fun h => ((Classical.choose h).1, (Classical.choose h).2.1, (Classical.choose h).2.2.1, zt_p1 (Classical.choose h).1 (Classical.choose h).2.2.2.1, zt_p2 (Classical.choose h).1 (Classical.choose h).2.2.2.2)) (fun _ => (0, 0, 0, 0, 0))
theorem zt_tok_of {S : Int → Int} {i k a x w v : Int} (h : zt_tk S i k a x w v) : zt_tok S i = (k, a, x, zt_p1 k w, zt_p2 k v) := by
  have hx : ∃ q : Int × Int × Int × Int × Int, zt_tk S i q.1 q.2.1 q.2.2.1 q.2.2.2.1 q.2.2.2.2 := ⟨(k, a, x, w, v), h⟩
  obtain ⟨e1, e2, e3, e4, e5⟩ := zt_tk_eq (Classical.choose_spec hx) h
  unfold zt_tok
  rw [dif_pos hx]
  generalize Classical.choose hx = q at e1 e2 e3 e4 e5
  obtain ⟨q1, q2, q3, q4, q5⟩ := q
  dsimp only at e1 e2 e3 e4 e5 ⊢
  subst e1
  subst e2
  subst e3
  have a4 : zt_p1 q1 q4 = zt_p1 q1 w := by
    unfold zt_p1
    split
    · rename_i z
      exact e4 z
    · rfl
  have a5 : zt_p2 q1 q5 = zt_p2 q1 v := by
    unfold zt_p2
    split
    · rename_i z
      exact e5 z
    · rfl
  rw [a4, a5]
/-! the fourteen words -/
def zt_tx : Nat → List Int
  | 0 => [115, 97, 109, 101]
  | 1 => [100, 114, 111, 112]
  | 2 => [100, 111, 117, 98, 108, 101]
  | 3 => [102, 105, 114, 115, 116]
  | 4 => [111, 110, 101]
  | 5 => [116, 119, 111]
  | 6 => [109, 97, 107, 101, 115]
  | 7 => [116, 117, 114, 110, 115]
  | 8 => [109, 105, 120, 101, 115]
  | 9 => [115, 101, 110, 100, 115]
  | 10 => [99, 111, 117, 110, 116, 115]
  | 11 => [112, 97, 100, 115]
  | 12 => [109, 101, 101, 116, 115]
  | 13 => [115, 117, 109, 115]
  | _ => []
def zt_ch (q j : Int) : Int := (zt_tx q.toNat).getD j.toNat 0
def zt_ln (q : Int) : Int := ((zt_tx q.toNat).length : Int)
/-- a word's number, out of its letters -/
def zt_lc (l : List Int) : Nat → Int
  | 0 => 0
  | m + 1 => 32 * zt_lc l m + (l.getD m 0 - 96)
def zt_kw (q : Int) : Int := zt_lc (zt_tx q.toNat) (zt_tx q.toNat).length
theorem zt_wc_pre {S : Int → Int} {a : Int} {l : List Int} : ∀ {m : Nat}, (∀ t : Nat, t < m → S (a + t) = l.getD t 0) → zt_wc S a m = zt_lc l m
  | 0, _ => rfl
  | m + 1, h => by
    show 32 * zt_wc S a m + (S (a + m) - 96) = 32 * zt_lc l m + (l.getD m 0 - 96)
    rw [zt_wc_pre (fun t ht => h t (by omega)), h m (by omega)]
theorem zt_wc_bd {S : Int → Int} {a : Int} : ∀ {m : Nat}, (∀ t : Nat, t < m → zt_sm (S (a + t))) → 0 ≤ zt_wc S a m ∧ zt_wc S a m < 32 ^ m
  | 0, _ => by
    show (0 : Int) ≤ 0 ∧ (0 : Int) < 32 ^ 0
    decide
  | m + 1, h => by
    obtain ⟨h1, h2⟩ := zt_wc_bd (m := m) (fun t ht => h t (by omega))
    have h3 : zt_sm (S (a + m)) := h m (by omega)
    unfold zt_sm at h3
    show 0 ≤ 32 * zt_wc S a m + (S (a + m) - 96) ∧ 32 * zt_wc S a m + (S (a + m) - 96) < 32 ^ (m + 1)
    rw [Int.pow_succ]
    generalize (32 : Int) ^ m = z at h2 ⊢
    omega
/-- words of one number are letter by letter the same -/
theorem zt_wc_in {S : Int → Int} {a : Int} {l : List Int} : ∀ {m : Nat}, (∀ t : Nat, t < m → zt_sm (S (a + t))) → (∀ t : Nat, t < m → zt_sm (l.getD t 0)) → zt_wc S a m = zt_lc l m → ∀ t : Nat, t < m → S (a + t) = l.getD t 0
  | 0, _, _, _, t, ht => by omega
  | m + 1, h, g, e, t, ht => by
    have h3 : zt_sm (S (a + m)) := h m (by omega)
    have g3 : zt_sm (l.getD m 0) := g m (by omega)
    unfold zt_sm at h3 g3
    have e : 32 * zt_wc S a m + (S (a + m) - 96) = 32 * zt_lc l m + (l.getD m 0 - 96) := e
    have e1 : zt_wc S a m = zt_lc l m := by omega
    have e2 : S (a + m) = l.getD m 0 := by omega
    by_cases z : t < m
    · exact zt_wc_in (fun t ht => h t (by omega)) (fun t ht => g t (by omega)) e1 t z
    · have : t = m := by omega
      subst this
      exact e2
theorem zt_wc_lo {S : Int → Int} {a : Int} : ∀ {m : Nat}, 1 ≤ m → (∀ t : Nat, t < m → zt_sm (S (a + t))) → 32 ^ (m - 1) ≤ zt_wc S a m
  | 0, h, _ => by omega
  | m + 1, _, h => by
    have h3 : zt_sm (S (a + m)) := h m (by omega)
    unfold zt_sm at h3
    show (32 : Int) ^ m ≤ 32 * zt_wc S a m + (S (a + m) - 96)
    rcases Nat.eq_zero_or_pos m with z | z
    · subst z
      show (1 : Int) ≤ 32 * 0 + (S (a + (0 : Nat)) - 96)
      omega
    · have h4 := zt_wc_lo z (fun t ht => h t (by omega))
      have e : (32 : Int) ^ m = 32 ^ (m - 1) * 32 := by
        rw [← Int.pow_succ]
        congr 1
        omega
      rw [e]
      generalize (32 : Int) ^ (m - 1) = y at h4 ⊢
      omega
theorem zt_pow_mono {m n : Nat} (h : m ≤ n) : (32 : Int) ^ m ≤ 32 ^ n := by
  have := Nat.pow_le_pow_right (show 0 < 32 by decide) h
  have e : ∀ k : Nat, (32 : Int) ^ k = ((32 ^ k : Nat) : Int) := fun k => by rw [Int.natCast_pow]; rfl
  rw [e, e]
  omega
/-- a word of m letters is one of the fourteen -/
theorem zt_tx_sm : ∀ q : Nat, q < 14 → ∀ t : Nat, t < (zt_tx q).length → 97 ≤ (zt_tx q).getD t 0 ∧ (zt_tx q).getD t 0 ≤ 122 := by decide
theorem zt_tx_ln : ∀ q : Nat, q < 14 → 1 ≤ (zt_tx q).length ∧ (zt_tx q).length ≤ 10 := by decide
theorem zt_tx_bd : ∀ q : Nat, q < 14 → 32 ^ ((zt_tx q).length - 1) ≤ zt_lc (zt_tx q) (zt_tx q).length ∧ zt_lc (zt_tx q) (zt_tx q).length < 32 ^ (zt_tx q).length := by decide
theorem zt_tx_ne : ∀ q : Nat, q < 14 → ∀ p : Nat, p < 14 → zt_lc (zt_tx q) (zt_tx q).length = zt_lc (zt_tx p) (zt_tx p).length → q = p := by decide
/-- what is known of a word that was read: its letters and its number -/
def zt_wd (S : Int → Int) (a s w : Int) : Prop := 1 ≤ s ∧ s ≤ 10 ∧ zt_run zt_sm S a (a + s) ∧ ¬ zt_sm (S (a + s)) ∧ w = zt_wc S a s.toNat
theorem zt_wd_t {S : Int → Int} {a s w : Int} (h : zt_wd S a s w) : ∀ t : Nat, t < s.toNat → zt_sm (S (a + t)) := fun t ht => h.2.2.1.2 (a + t) (by omega) (by omega)
theorem zt_wd_ln {S : Int → Int} {a s w q : Int} (h : zt_wd S a s w) (q0 : 0 ≤ q) (q1 : q < 14) (e : w = zt_kw q) : s = zt_ln q := by
  have b1 := zt_wc_bd (zt_wd_t h)
  have b2 := zt_wc_lo (m := s.toNat) (by have := h.1; omega) (zt_wd_t h)
  obtain ⟨c1, c2⟩ := zt_tx_bd q.toNat (by omega)
  have c3 := (zt_tx_ln q.toNat (by omega)).1
  rw [← h.2.2.2.2, e] at b1 b2
  have h1 := h.1
  unfold zt_ln
  unfold zt_kw at b1 b2
  generalize (zt_tx q.toNat).length = n at *
  generalize zt_lc (zt_tx q.toNat) n = z at *
  rcases Nat.lt_trichotomy s.toNat n with y | y | y
  · have := zt_pow_mono (m := s.toNat) (n := n - 1) (by omega)
    omega
  · omega
  · have := zt_pow_mono (m := n) (n := s.toNat - 1) (by omega)
    omega
theorem zt_wd_no {S : Int → Int} {a s w q j : Int} (h : zt_wd S a s w) (q0 : 0 ≤ q) (q1 : q < 14) (j0 : 0 ≤ j) (j1 : j < s) (hne : S (a + j) ≠ zt_ch q j) : w ≠ zt_kw q := by
  intro e
  have hl := zt_wd_ln h q0 q1 e
  unfold zt_ln at hl
  have en : s.toNat = (zt_tx q.toNat).length := by omega
  have e2 : zt_wc S a s.toNat = zt_lc (zt_tx q.toNat) s.toNat := by
    rw [← h.2.2.2.2, e, en]
    rfl
  have := zt_wc_in (zt_wd_t h) (fun t ht => zt_tx_sm q.toNat (by omega) t (by omega)) e2 j.toNat (by omega)
  rw [show ((j.toNat : Nat) : Int) = j by omega] at this
  exact hne this
theorem zt_wd_yes {S : Int → Int} {a s w q : Int} (h : zt_wd S a s w) (hl : s = zt_ln q) (hp : ∀ t : Nat, (t : Int) < s → S (a + t) = zt_ch q t) : w = zt_kw q := by
  unfold zt_ln at hl
  have en : s.toNat = (zt_tx q.toNat).length := by omega
  rw [h.2.2.2.2]
  unfold zt_kw
  rw [← en]
  exact zt_wc_pre (fun t ht => hp t (by omega))
/-- a word of one letter -/
theorem zt_wd_1 {S : Int → Int} {a s w : Int} (h : zt_wd S a s w) : (s = 1 ↔ w < 32) ∧ 1 ≤ w ∧ (s = 1 → w ≤ 26) := by
  have h1 := h.1
  by_cases e : s = 1
  · subst e
    have hs := zt_wd_t h 0 (by decide)
    have ew : w = 32 * 0 + (S (a + (0 : Nat)) - 96) := h.2.2.2.2
    unfold zt_sm at hs
    omega
  · have b2 := zt_wc_lo (m := s.toNat) (by omega) (zt_wd_t h)
    have := zt_pow_mono (m := 1) (n := s.toNat - 1) (by omega)
    rw [← h.2.2.2.2] at b2
    have e3 : (32 : Int) ^ 1 = 32 := by decide
    omega
/-! the machine that reads a way: 0 a line begins, 1 an act, 2 a bag, 3 a number, 4 the second bag, 5 ;, 9 the end, 10 a fault -/
def zt_acw (w : Int) : Int := if w = zt_kw 6 then 0 else if w = zt_kw 7 then 1 else if w = zt_kw 8 then 2 else if w = zt_kw 9 then 3 else if w = zt_kw 10 then 4 else if w = zt_kw 11 then 5 else if w = zt_kw 12 then 6 else if w = zt_kw 13 then 7 else -1
theorem zt_acw_of {q : Int} (h0 : 6 ≤ q) (h1 : q ≤ 13) : zt_acw (zt_kw q) = q - 6 := by
  have h : ∀ p : Nat, p < 14 → 6 ≤ p → zt_acw (zt_kw (p : Int)) = (p : Int) - 6 := by decide
  have := h q.toNat (by omega) (by omega)
  rw [show ((q.toNat : Nat) : Int) = q by omega] at this
  exact this
theorem zt_acw_no {w : Int} (h : ∀ q : Int, 6 ≤ q → q < 14 → w ≠ zt_kw q) : zt_acw w = -1 := by
  unfold zt_acw
  rw [if_neg (h 6 (by decide) (by decide)), if_neg (h 7 (by decide) (by decide)), if_neg (h 8 (by decide) (by decide)), if_neg (h 9 (by decide) (by decide)), if_neg (h 10 (by decide) (by decide)), if_neg (h 11 (by decide) (by decide)), if_neg (h 12 (by decide) (by decide)), if_neg (h 13 (by decide) (by decide))]
abbrev zwS : Type := (Int × Int × Int × Int × Int × Int) × (Nat → Int) × (Nat → Int)
def zw_u (f : Nat → Int) (p : Nat) (v : Int) : Nat → Int := fun j => if j = p then v else f j
/-- where a bag of a side lies -/
def zw_p (sd b : Int) : Nat := (8 * sd + b).toNat
def zw_q (hs ct : Nat → Int) (sd ac b : Int) : Int := if ac = 0 then (if hs (zw_p sd b) = 0 then 0 else 3) else if hs (zw_p sd b) = 0 then 5 else if ac ≠ 3 ∧ ct (zw_p sd b) ≠ 0 then 6 else 0
def zw_h (hs : Nat → Int) (sd ac b : Int) : Nat → Int := if ac = 0 then zw_u hs (zw_p sd b) 1 else if ac = 3 then zw_u hs (zw_p (1 - sd) b) 1 else hs
def zw_c (ct : Nat → Int) (sd ac b : Int) : Nat → Int := if ac = 3 then zw_u ct (zw_p (1 - sd) b) (ct (zw_p sd b)) else if ac = 4 then zw_u ct (zw_p sd b) 1 else ct
def zw_f (kd a : Int) (hs ct : Nat → Int) : zwS := ((10, 0, kd, a, 0, 0), hs, ct)
/-- one token; w a word's number, v a number's, else 0 -/
def zw_d (k a x w v m i L sd ac b : Int) (hs ct : Nat → Int) : zwS :=
  if m = 0 then (if k = 0 then ((9, i, L, 0, 0, 0), hs, ct) else if w = zt_kw 4 then (if 30 ≤ L then zw_f 4 a hs ct else ((1, x, L, 0, 0, 0), hs, ct)) else if w = zt_kw 5 then (if 30 ≤ L then zw_f 4 a hs ct else ((1, x, L, 1, 0, 0), hs, ct)) else zw_f 1 a hs ct)
  else if m = 1 then (if 0 ≤ zt_acw w then ((2, x, L, sd, zt_acw w, 0), hs, ct) else zw_f 1 a hs ct)
  else if m = 2 then (if 1 ≤ w ∧ w ≤ 8 then (if zw_q hs ct sd ac (w - 1) = 0 then (((if ac = 5 then 3 else if 6 ≤ ac then 4 else 5), x, L, sd, ac, w - 1), hs, ct) else zw_f (zw_q hs ct sd ac (w - 1)) a hs ct) else zw_f 1 a hs ct)
  else if m = 3 then (if k = 2 then (if 1 ≤ v ∧ v ≤ 60 then ((5, x, L, sd, ac, b), hs, ct) else zw_f 2 a hs ct) else zw_f 1 a hs ct)
  else if m = 4 then (if 1 ≤ w ∧ w ≤ 8 then (if zw_q hs ct sd ac (w - 1) = 0 then ((5, x, L, sd, ac, b), hs, ct) else zw_f (zw_q hs ct sd ac (w - 1)) a hs ct) else zw_f 1 a hs ct)
  else if m = 5 then (if k = 3 then ((0, x, L + 1, 0, 0, 0), zw_h hs sd ac b, zw_c ct sd ac b) else zw_f 1 a hs ct)
  else ((m, i, L, sd, ac, b), hs, ct)
noncomputable def zw_n (S : Int → Int) (s : zwS) : zwS := zw_d (zt_tok S s.1.2.1).1 (zt_tok S s.1.2.1).2.1 (zt_tok S s.1.2.1).2.2.1 (zt_tok S s.1.2.1).2.2.2.1 (zt_tok S s.1.2.1).2.2.2.2 s.1.1 s.1.2.1 s.1.2.2.1 s.1.2.2.2.1 s.1.2.2.2.2.1 s.1.2.2.2.2.2 s.2.1 s.2.2
noncomputable def zw_it (S : Int → Int) : Nat → zwS
  | 0 => ((0, 0, 0, 0, 0, 0), fun _ => 0, fun _ => 0)
  | j + 1 => zw_n S (zw_it S j)
def zw_re (S : Int → Int) (s : zwS) : Prop := ∃ j, zw_it S j = s
theorem zw_re0 (S : Int → Int) : zw_re S ((0, 0, 0, 0, 0, 0), fun _ => 0, fun _ => 0) := ⟨0, rfl⟩
theorem zw_st {S : Int → Int} {m i L sd ac b k a x w v : Int} {hs ct : Nat → Int} (h : zw_re S ((m, i, L, sd, ac, b), hs, ct)) (g : zt_tk S i k a x w v) : zw_re S (zw_d k a x (zt_p1 k w) (zt_p2 k v) m i L sd ac b hs ct) := by
  obtain ⟨j, h⟩ := h
  refine ⟨j + 1, ?_⟩
  show zw_n S (zw_it S j) = _
  rw [h]
  unfold zw_n
  dsimp only
  rw [zt_tok_of g]
theorem zw_end {S : Int → Int} {s : zwS} (hs : zw_n S s = s) {j : Nat} (h : zw_it S j = s) : ∀ d, zw_it S (j + d) = s
  | 0 => h
  | d + 1 => by
    show zw_n S (zw_it S (j + d)) = s
    rw [zw_end hs h d, hs]
/-- two ends are one -/
theorem zw_one {S : Int → Int} {s t : zwS} (h : zw_re S s) (g : zw_re S t) (hs : zw_n S s = s) (ht : zw_n S t = t) : s = t := by
  obtain ⟨j, h⟩ := h
  obtain ⟨l, g⟩ := g
  rcases Nat.le_total j l with z | z
  · have := zw_end hs h (l - j)
    rw [show j + (l - j) = l by omega, g] at this
    exact this.symm
  · have := zw_end ht g (j - l)
    rw [show l + (j - l) = j by omega, h] at this
    exact this
theorem zw_n_end {S : Int → Int} {m i L sd ac b : Int} {hs ct : Nat → Int} (h : 9 ≤ m) : zw_n S ((m, i, L, sd, ac, b), hs, ct) = ((m, i, L, sd, ac, b), hs, ct) := by
  unfold zw_n
  dsimp only
  unfold zw_d
  rw [if_neg (by omega), if_neg (by omega), if_neg (by omega), if_neg (by omega), if_neg (by omega), if_neg (by omega)]
/-- what is answered: lines, or -1 -/
def zw_rs (S : Int → Int) (r : Int) : Prop := (∃ i hs ct, zw_re S ((9, i, r, 0, 0, 0), hs, ct)) ∨ (r = -1 ∧ ∃ kd a hs ct, zw_re S (zw_f kd a hs ct))
theorem zw_rs_eq {S : Int → Int} {r q : Int} (h : zw_rs S r) (g : zw_rs S q) : r = q := by
  rcases h with ⟨i, hs, ct, h⟩ | ⟨e, kd, a, hs, ct, h⟩ <;> rcases g with ⟨i1, hs1, ct1, g⟩ | ⟨e1, kd1, a1, hs1, ct1, g⟩
  · have := zw_one h g (zw_n_end (by decide)) (zw_n_end (by decide))
    exact congrArg (fun s : zwS => s.1.2.2.1) this
  · have := congrArg (fun s : zwS => s.1.1) (zw_one h g (zw_n_end (by decide)) (zw_n_end (by decide)))
    have this : (9 : Int) = 10 := this
    omega
  · have := congrArg (fun s : zwS => s.1.1) (zw_one h g (zw_n_end (by decide)) (zw_n_end (by decide)))
    have this : (10 : Int) = 9 := this
    omega
  · omega
theorem zt_nc_bd {S : Int → Int} {a : Int} : ∀ {m : Nat}, (∀ t : Nat, t < m → zt_dg (S (a + t))) → 0 ≤ zt_nc S a m ∧ zt_nc S a m < 10 ^ m
  | 0, _ => by
    show (0 : Int) ≤ 0 ∧ (0 : Int) < 10 ^ 0
    decide
  | m + 1, h => by
    obtain ⟨h1, h2⟩ := zt_nc_bd (m := m) (fun t ht => h t (by omega))
    have h3 : zt_dg (S (a + m)) := h m (by omega)
    unfold zt_dg at h3
    show 0 ≤ 10 * zt_nc S a m + (S (a + m) - 48) ∧ 10 * zt_nc S a m + (S (a + m) - 48) < 10 ^ (m + 1)
    rw [Int.pow_succ]
    generalize (10 : Int) ^ m = z at h2 ⊢
    omega
theorem zt_pow10 {m n : Nat} (h : m ≤ n) : (10 : Int) ^ m ≤ 10 ^ n := by
  have := Nat.pow_le_pow_right (show 0 < 10 by decide) h
  have e : ∀ k : Nat, (10 : Int) ^ k = ((10 ^ k : Nat) : Int) := fun k => by rw [Int.natCast_pow]; rfl
  rw [e, e]
  omega
/-- the reference's sorts of tokens -/
def zt_ks (s : Int) : Int := if s = 0 then 4 else if s = 4 then 0 else s
theorem zb64 {k : Int} (h0 : 0 ≤ k) (h1 : k ≤ 9223372036854775807) : (Int64.ofInt k).toBitVec.toNat = k.toNat := by
  have e : (Int64.ofInt k).toBitVec = BitVec.ofInt 64 k := rfl
  rw [e, BitVec.toNat_ofInt, Int.emod_eq_of_lt h0 (by omega)]
theorem zb64i {x : Int64} (h : x.toBitVec.toNat ≤ 9223372036854775807) : x.toInt = (x.toBitVec.toNat : Int) := BitVec.toInt_eq_toNat_of_lt (by omega)
theorem zm_43 {w z : Int} (h : zrn 43 w 5 z) (h0 : 0 ≤ w) (h1 : w < 35184372088832) (h4 : -9223372036854775808 ≤ z) (h5 : z ≤ 9223372036854775807) : z = 32 * w := by
  have h : some (Value.long (Int64.ofInt w <<< ((Int32.ofInt 5).toInt64 &&& 63))) = some (Value.long (Int64.ofInt z)) := h
  have h := Value.long.inj (Option.some.inj h)
  have e2 : (Int64.ofInt w <<< ((Int32.ofInt 5).toInt64 &&& 63)).toBitVec.toNat = 32 * w.toNat := by
    rw [show (Int32.ofInt 5).toInt64 &&& 63 = (5 : Int64) by decide, Int64.toBitVec_shiftLeft, show ((5 : Int64).toBitVec.smod 64) = 5#64 by decide, BitVec.shiftLeft_eq', BitVec.toNat_shiftLeft, zb64 h0 (by omega), show (5#64).toNat = 5 by rfl, Nat.shiftLeft_eq]
    omega
  have e4 := congrArg Int64.toInt h
  rw [zk_i64 h4 h5, zb64i (by rw [e2]; omega), e2] at e4
  omega
theorem zm_42 {z c w u : Int} (h : zrn 42 z c w) (hz : z = 32 * u) (h0 : 0 ≤ u) (h1 : u < 35184372088832) (h2 : 0 ≤ c) (h3 : c < 32) (h4 : -9223372036854775808 ≤ w) (h5 : w ≤ 9223372036854775807) : w = 32 * u + c := by
  have h : some (Value.long (Int64.ofInt z ||| Int64.ofInt c)) = some (Value.long (Int64.ofInt w)) := h
  have h := Value.long.inj (Option.some.inj h)
  have e5 : (Int64.ofInt z ||| Int64.ofInt c).toBitVec.toNat = 32 * u.toNat + c.toNat := by
    rw [Int64.toBitVec_or, BitVec.toNat_or, zb64 (by omega) (by omega), zb64 (by omega) (by omega), show z.toNat = 2 ^ 5 * u.toNat by omega, ← Nat.two_pow_add_eq_or_of_lt (by omega)]
  have e4 := congrArg Int64.toInt h
  rw [zk_i64 h4 h5, zb64i (by rw [e5]; omega), e5] at e4
  omega
theorem zt_wd_at {f : Nat → Int} {n a s w j : Int} (h : zt_wd (zt_S f n) a s w) (a0 : 0 ≤ a) (j0 : 0 ≤ j) (j1 : j < s) : zt_S f n (a + j) = f (a + j).toNat := by
  have hh := h.2.2.1.2 (a + j) (by omega) (by omega)
  rcases Int.lt_or_le (a + j) n with z | z
  · exact zt_S_in (by omega) z
  · rw [zt_S_out z] at hh
    unfold zt_sm at hh
    omega
theorem zw_q_eq {hs ct f g : Nat → Int} {sd ac b : Int} (s0 : 0 ≤ sd) (s1 : sd ≤ 1) (b0 : 0 ≤ b) (b1 : b ≤ 7) (h : ∀ j : Nat, j < 16 → hs j = f j ∧ ct j = g j) : zw_q hs ct sd ac b = zw_q f g sd ac b := by
  have hj : zw_p sd b < 16 := by
    unfold zw_p
    omega
  unfold zw_q
  rw [(h _ hj).1, (h _ hj).2]
theorem zw_q_0 {hs ct : Nat → Int} {sd ac b : Int} (e : zw_q hs ct sd ac b = 0) : ac = 0 ↔ hs (zw_p sd b) = 0 := by
  unfold zw_q at e
  constructor
  · intro z
    rw [if_pos z] at e
    by_cases y : hs (zw_p sd b) = 0
    · exact y
    · rw [if_neg y] at e
      exact absurd e (by decide)
  · intro z
    by_cases y : ac = 0
    · exact y
    · rw [if_neg y, if_pos z] at e
      exact absurd e (by decide)
theorem zw_h_id {hs : Nat → Int} {sd ac b : Int} (h0 : ac ≠ 0) (h3 : ac ≠ 3) : zw_h hs sd ac b = hs := by
  unfold zw_h
  rw [if_neg h0, if_neg h3]
theorem zw_c_id {ct : Nat → Int} {sd ac b : Int} (h3 : ac ≠ 3) (h4 : ac ≠ 4) : zw_c ct sd ac b = ct := by
  unfold zw_c
  rw [if_neg h3, if_neg h4]
theorem zw_uu {f g hs : Nat → Int} {p i : Nat} {w v : Int} (h : ∀ j, j < 16 → f j = hs j) (e : i = p) (hw : g i = w) (hv : w = v) (ho : ∀ j, j ≠ i → g j = f j) : ∀ j, j < 16 → g j = zw_u hs p v j := by
  intro j hj
  unfold zw_u
  by_cases z : j = p
  · rw [if_pos z, z, ← e, hw, hv]
  · rw [if_neg z, ho j (fun y => z (by rw [y, e]))]
    exact h j hj
theorem zw_inv {hs ct : Nat → Int} {sd ac b : Int} (h : ∀ j : Nat, hs j = 0 → ct j = 0) (hm : ac = 0 ↔ hs (zw_p sd b) = 0) : ∀ j : Nat, zw_h hs sd ac b j = 0 → zw_c ct sd ac b j = 0 := by
  intro j hj
  unfold zw_h at hj
  unfold zw_c
  by_cases e0 : ac = 0
  · rw [if_pos e0] at hj
    rw [if_neg (by omega), if_neg (by omega)]
    unfold zw_u at hj
    by_cases z : j = zw_p sd b
    · rw [if_pos z] at hj
      exact absurd hj (by decide)
    · rw [if_neg z] at hj
      exact h j hj
  rw [if_neg e0] at hj
  by_cases e3 : ac = 3
  · rw [if_pos e3] at hj ⊢
    unfold zw_u at hj ⊢
    by_cases z : j = zw_p (1 - sd) b
    · rw [if_pos z] at hj
      exact absurd hj (by decide)
    · rw [if_neg z] at hj ⊢
      exact h j hj
  rw [if_neg e3] at hj ⊢
  by_cases e4 : ac = 4
  · rw [if_pos e4]
    unfold zw_u
    by_cases z : j = zw_p sd b
    · rw [z] at hj
      exact absurd (hm.mpr hj) e0
    · rw [if_neg z]
      exact h j hj
  · rw [if_neg e4]
    exact h j hj
theorem zt_at_v {S : Int → Int} {k a x w v w1 v1 : Int} (h : zt_at S k a x w v) (hw : k = 1 → w = w1) (hv : k = 2 → v = v1) : zt_at S k a x w1 v1 := by
  rcases h with h | ⟨h0, h1, h2, h3, h4, h5⟩ | ⟨h0, h1, h2, h3, h4, h5⟩ | h
  · exact Or.inl h
  · exact Or.inr (Or.inl ⟨h0, h1, h2, h3, h4, by rw [← hw h0]; exact h5⟩)
  · exact Or.inr (Or.inr (Or.inl ⟨h0, h1, h2, h3, h4, by rw [← hv h0]; exact h5⟩))
  · exact Or.inr (Or.inr (Or.inr h))
theorem zw_d0 {a x w v i L sd ac b : Int} {hs ct : Nat → Int} : zw_d 0 a x w v 0 i L sd ac b hs ct = ((9, i, L, 0, 0, 0), hs, ct) := by
  unfold zw_d
  rw [if_pos rfl, if_pos rfl]
/-! the machine's steps, one by one; u a word's number or 0, y a number or 0 -/
section
variable {k a x u y i L sd ac b r q : Int} {hs ct : Nat → Int}
theorem zw_d0f (h0 : k ≠ 0) (h1 : u ≠ zt_kw 4) (h2 : u ≠ zt_kw 5) : zw_d k a x u y 0 i L sd ac b hs ct = zw_f 1 a hs ct := by
  unfold zw_d
  rw [if_pos rfl, if_neg h0, if_neg h1, if_neg h2]
theorem zw_d0r4 (h0 : k ≠ 0) (h1 : u = zt_kw 4) (h2 : 30 ≤ L) : zw_d k a x u y 0 i L sd ac b hs ct = zw_f 4 a hs ct := by
  unfold zw_d
  rw [if_pos rfl, if_neg h0, if_pos h1, if_pos h2]
theorem zw_d0r5 (h0 : k ≠ 0) (h1 : u = zt_kw 5) (h2 : 30 ≤ L) : zw_d k a x u y 0 i L sd ac b hs ct = zw_f 4 a hs ct := by
  unfold zw_d
  rw [if_pos rfl, if_neg h0, if_neg (by rw [h1]; decide), if_pos h1, if_pos h2]
theorem zw_d0n4 (h0 : k ≠ 0) (h1 : u = zt_kw 4) (h2 : ¬ 30 ≤ L) : zw_d k a x u y 0 i L sd ac b hs ct = ((1, x, L, 0, 0, 0), hs, ct) := by
  unfold zw_d
  rw [if_pos rfl, if_neg h0, if_pos h1, if_neg h2]
theorem zw_d0n5 (h0 : k ≠ 0) (h1 : u = zt_kw 5) (h2 : ¬ 30 ≤ L) : zw_d k a x u y 0 i L sd ac b hs ct = ((1, x, L, 1, 0, 0), hs, ct) := by
  unfold zw_d
  rw [if_pos rfl, if_neg h0, if_neg (by rw [h1]; decide), if_pos h1, if_neg h2]
theorem zw_d1 (h1 : zt_acw u = q) (h2 : 0 ≤ q) : zw_d k a x u y 1 i L sd ac b hs ct = ((2, x, L, sd, q, 0), hs, ct) := by
  unfold zw_d
  rw [if_neg (by decide), if_pos rfl, h1, if_pos h2]
theorem zw_d1f (h1 : ¬ 0 ≤ zt_acw u) : zw_d k a x u y 1 i L sd ac b hs ct = zw_f 1 a hs ct := by
  unfold zw_d
  rw [if_neg (by decide), if_pos rfl, if_neg h1]
theorem zw_d2f (h1 : ¬ (1 ≤ u ∧ u ≤ 8)) : zw_d k a x u y 2 i L sd ac b hs ct = zw_f 1 a hs ct := by
  unfold zw_d
  rw [if_neg (by decide), if_neg (by decide), if_pos rfl, if_neg h1]
theorem zw_d2q (h1 : u = r + 1) (h2 : 0 ≤ r) (h3 : r ≤ 7) (h4 : zw_q hs ct sd ac r = q) (h5 : q ≠ 0) : zw_d k a x u y 2 i L sd ac b hs ct = zw_f q a hs ct := by
  unfold zw_d
  rw [if_neg (by decide), if_neg (by decide), if_pos rfl, if_pos ⟨by omega, by omega⟩, show u - 1 = r by omega, h4, if_neg h5]
theorem zw_d2n (h1 : u = r + 1) (h2 : 0 ≤ r) (h3 : r ≤ 7) (h4 : zw_q hs ct sd ac r = 0) : zw_d k a x u y 2 i L sd ac b hs ct = ((if ac = 5 then 3 else if 6 ≤ ac then 4 else 5, x, L, sd, ac, r), hs, ct) := by
  unfold zw_d
  rw [if_neg (by decide), if_neg (by decide), if_pos rfl, if_pos ⟨by omega, by omega⟩, show u - 1 = r by omega, if_pos h4]
theorem zw_d3k (h1 : k ≠ 2) : zw_d k a x u y 3 i L sd ac b hs ct = zw_f 1 a hs ct := by
  unfold zw_d
  rw [if_neg (by decide), if_neg (by decide), if_neg (by decide), if_pos rfl, if_neg h1]
theorem zw_d3v (h1 : k = 2) (h2 : ¬ (1 ≤ y ∧ y ≤ 60)) : zw_d k a x u y 3 i L sd ac b hs ct = zw_f 2 a hs ct := by
  unfold zw_d
  rw [if_neg (by decide), if_neg (by decide), if_neg (by decide), if_pos rfl, if_pos h1, if_neg h2]
theorem zw_d3n (h1 : k = 2) (h2 : 1 ≤ y ∧ y ≤ 60) : zw_d k a x u y 3 i L sd ac b hs ct = ((5, x, L, sd, ac, b), hs, ct) := by
  unfold zw_d
  rw [if_neg (by decide), if_neg (by decide), if_neg (by decide), if_pos rfl, if_pos h1, if_pos h2]
theorem zw_d4f (h1 : ¬ (1 ≤ u ∧ u ≤ 8)) : zw_d k a x u y 4 i L sd ac b hs ct = zw_f 1 a hs ct := by
  unfold zw_d
  rw [if_neg (by decide), if_neg (by decide), if_neg (by decide), if_neg (by decide), if_pos rfl, if_neg h1]
theorem zw_d4q (h1 : u = r + 1) (h2 : 0 ≤ r) (h3 : r ≤ 7) (h4 : zw_q hs ct sd ac r = q) (h5 : q ≠ 0) : zw_d k a x u y 4 i L sd ac b hs ct = zw_f q a hs ct := by
  unfold zw_d
  rw [if_neg (by decide), if_neg (by decide), if_neg (by decide), if_neg (by decide), if_pos rfl, if_pos ⟨by omega, by omega⟩, show u - 1 = r by omega, h4, if_neg h5]
theorem zw_d4n (h1 : u = r + 1) (h2 : 0 ≤ r) (h3 : r ≤ 7) (h4 : zw_q hs ct sd ac r = 0) : zw_d k a x u y 4 i L sd ac b hs ct = ((5, x, L, sd, ac, b), hs, ct) := by
  unfold zw_d
  rw [if_neg (by decide), if_neg (by decide), if_neg (by decide), if_neg (by decide), if_pos rfl, if_pos ⟨by omega, by omega⟩, show u - 1 = r by omega, if_pos h4]
theorem zw_d5k (h1 : k ≠ 3) : zw_d k a x u y 5 i L sd ac b hs ct = zw_f 1 a hs ct := by
  unfold zw_d
  rw [if_neg (by decide), if_neg (by decide), if_neg (by decide), if_neg (by decide), if_neg (by decide), if_pos rfl, if_neg h1]
theorem zw_d5n (h1 : k = 3) : zw_d k a x u y 5 i L sd ac b hs ct = ((0, x, L + 1, 0, 0, 0), zw_h hs sd ac b, zw_c ct sd ac b) := by
  unfold zw_d
  rw [if_neg (by decide), if_neg (by decide), if_neg (by decide), if_neg (by decide), if_neg (by decide), if_pos rfl, if_pos h1]
end
/-- which of the fourteen words the reference tells -/
def zt_ky (so key w : Int) : Prop := (so = 1 ∧ 0 ≤ key ∧ key < 14 ∧ w = zt_kw key) ∨ (so = 1 ∧ key = -1 ∧ ∀ q : Int, 0 ≤ q → q < 14 → w ≠ zt_kw q) ∨ (so ≠ 1 ∧ key = -1)
theorem zt_kw_ne {p q : Int} (p0 : 0 ≤ p) (p1 : p < 14) (q0 : 0 ≤ q) (q1 : q < 14) (h : zt_kw p = zt_kw q) : p = q := by
  have := zt_tx_ne p.toNat (by omega) q.toNat (by omega) h
  omega
theorem zt_ky_ne {key w p : Int} (h : zt_ky 1 key w) (p0 : 0 ≤ p) (p1 : p < 14) (hne : key ≠ p) : w ≠ zt_kw p := by
  rcases h with ⟨-, h0, h1, h2⟩ | ⟨-, -, h2⟩ | ⟨h0, -⟩
  · intro e
    exact hne (zt_kw_ne h0 h1 p0 p1 (by rw [← h2, e]))
  · exact h2 p p0 p1
  · exact absurd rfl h0
theorem zt_ky_eq {key w : Int} (h : zt_ky 1 key w) (h0 : 0 ≤ key) : w = zt_kw key := by
  rcases h with ⟨-, -, -, h2⟩ | ⟨-, h1, -⟩ | ⟨h1, -⟩
  · exact h2
  · omega
  · exact absurd rfl h1
theorem zt_ky_lt {key w : Int} (h : zt_ky 1 key w) (h0 : 0 ≤ key) : key ≤ 13 := by
  rcases h with ⟨-, -, h2, -⟩ | ⟨-, h1, -⟩ | ⟨h1, -⟩
  · omega
  · omega
  · exact absurd rfl h1
def zt_by (x t : Int) : Int := (Int32.ofInt x >>> Int32.ofInt t).toInt8.toInt32.toInt
theorem zt_ush0 (X : Int32) : ((X.toUInt32 >>> ((Int32.ofInt 0).toUInt32 &&& Int32.toUInt32 31)).toInt32).toInt8 = (X >>> Int32.ofInt 0).toInt8 := by
  apply Int8.toBitVec_inj.mp
  have e1 : ((X.toUInt32 >>> ((Int32.ofInt 0).toUInt32 &&& Int32.toUInt32 31)).toInt32).toInt8.toBitVec = BitVec.signExtend 8 (X.toBitVec >>> (0 : Nat)) := by
    rfl
  have e2 : (X >>> Int32.ofInt 0).toInt8.toBitVec = BitVec.signExtend 8 (X.toBitVec.sshiftRight 0) := by
    rfl
  rw [e1, e2, BitVec.signExtend_eq_setWidth_of_le _ (by decide), BitVec.signExtend_eq_setWidth_of_le _ (by decide)]
  ext i hi
  rw [BitVec.getElem_setWidth, BitVec.getElem_setWidth, BitVec.getLsbD_ushiftRight, BitVec.getLsbD_sshiftRight, if_pos (by omega), decide_eq_false (by omega), Bool.not_false, Bool.true_and]
theorem zt_ush8 (X : Int32) : ((X.toUInt32 >>> ((Int32.ofInt 8).toUInt32 &&& Int32.toUInt32 31)).toInt32).toInt8 = (X >>> Int32.ofInt 8).toInt8 := by
  apply Int8.toBitVec_inj.mp
  have e1 : ((X.toUInt32 >>> ((Int32.ofInt 8).toUInt32 &&& Int32.toUInt32 31)).toInt32).toInt8.toBitVec = BitVec.signExtend 8 (X.toBitVec >>> (8 : Nat)) := by
    rfl
  have e2 : (X >>> Int32.ofInt 8).toInt8.toBitVec = BitVec.signExtend 8 (X.toBitVec.sshiftRight 8) := by
    rfl
  rw [e1, e2, BitVec.signExtend_eq_setWidth_of_le _ (by decide), BitVec.signExtend_eq_setWidth_of_le _ (by decide)]
  ext i hi
  rw [BitVec.getElem_setWidth, BitVec.getElem_setWidth, BitVec.getLsbD_ushiftRight, BitVec.getLsbD_sshiftRight, if_pos (by omega), decide_eq_false (by omega), Bool.not_false, Bool.true_and]
theorem zt_ush16 (X : Int32) : ((X.toUInt32 >>> ((Int32.ofInt 16).toUInt32 &&& Int32.toUInt32 31)).toInt32).toInt8 = (X >>> Int32.ofInt 16).toInt8 := by
  apply Int8.toBitVec_inj.mp
  have e1 : ((X.toUInt32 >>> ((Int32.ofInt 16).toUInt32 &&& Int32.toUInt32 31)).toInt32).toInt8.toBitVec = BitVec.signExtend 8 (X.toBitVec >>> (16 : Nat)) := by
    rfl
  have e2 : (X >>> Int32.ofInt 16).toInt8.toBitVec = BitVec.signExtend 8 (X.toBitVec.sshiftRight 16) := by
    rfl
  rw [e1, e2, BitVec.signExtend_eq_setWidth_of_le _ (by decide), BitVec.signExtend_eq_setWidth_of_le _ (by decide)]
  ext i hi
  rw [BitVec.getElem_setWidth, BitVec.getElem_setWidth, BitVec.getLsbD_ushiftRight, BitVec.getLsbD_sshiftRight, if_pos (by omega), decide_eq_false (by omega), Bool.not_false, Bool.true_and]
theorem zt_ush24 (X : Int32) : ((X.toUInt32 >>> ((Int32.ofInt 24).toUInt32 &&& Int32.toUInt32 31)).toInt32).toInt8 = (X >>> Int32.ofInt 24).toInt8 := by
  apply Int8.toBitVec_inj.mp
  have e1 : ((X.toUInt32 >>> ((Int32.ofInt 24).toUInt32 &&& Int32.toUInt32 31)).toInt32).toInt8.toBitVec = BitVec.signExtend 8 (X.toBitVec >>> (24 : Nat)) := by
    rfl
  have e2 : (X >>> Int32.ofInt 24).toInt8.toBitVec = BitVec.signExtend 8 (X.toBitVec.sshiftRight 24) := by
    rfl
  rw [e1, e2, BitVec.signExtend_eq_setWidth_of_le _ (by decide), BitVec.signExtend_eq_setWidth_of_le _ (by decide)]
  ext i hi
  rw [BitVec.getElem_setWidth, BitVec.getElem_setWidth, BitVec.getLsbD_ushiftRight, BitVec.getLsbD_sshiftRight, if_pos (by omega), decide_eq_false (by omega), Bool.not_false, Bool.true_and]
theorem zt_by35 {x t z w : Int} (h : zrn 35 x t z) (g : (Int32.ofInt z).toInt8.toInt32 = Int32.ofInt w) (ht : t = 0 ∨ t = 8 ∨ t = 16 ∨ t = 24) (h1 : -128 ≤ w) (h2 : w ≤ 127) : w = zt_by x t := by
  have h : some (Value.int ((Int32.ofInt x).toUInt32 >>> ((Int32.ofInt t).toUInt32 &&& Int32.toUInt32 31)).toInt32) = some (Value.int (Int32.ofInt z)) := h
  have h := Value.int.inj (Option.some.inj h)
  unfold zt_by
  rw [← h] at g
  have e : (Int32.ofInt w).toInt = w := zk_i32 (by omega) (by omega)
  rw [← e, ← g]
  rcases ht with rfl | rfl | rfl | rfl
  · rw [zt_ush0]
  · rw [zt_ush8]
  · rw [zt_ush16]
  · rw [zt_ush24]
theorem zt_by34 {x t z w : Int} (h : zrn 34 x t z) (g : (Int32.ofInt z).toInt8.toInt32 = Int32.ofInt w) (ht : t = 0 ∨ t = 8 ∨ t = 16 ∨ t = 24) (h1 : -128 ≤ w) (h2 : w ≤ 127) : w = zt_by x t := by
  have h : some (Value.int (Int32.ofInt x >>> (Int32.ofInt t &&& 31))) = some (Value.int (Int32.ofInt z)) := h
  have h := Value.int.inj (Option.some.inj h)
  unfold zt_by
  rw [← h] at g
  have e : (Int32.ofInt w).toInt = w := zk_i32 (by omega) (by omega)
  rw [← e, ← g]
  rcases ht with rfl | rfl | rfl | rfl <;> rfl
/-- the byte k of five numbers -/
def zt_w (a b c d e : Int) (k : Int) : Int := zt_by (if k < 4 then a else if k < 8 then b else if k < 12 then c else if k < 16 then d else e) (24 - 8 * (k % 4))
theorem zt_w0 {va vb vc vd ve : Int} : zt_w va vb vc vd ve 0 = zt_by va 24 := rfl
theorem zt_w1 {va vb vc vd ve : Int} : zt_w va vb vc vd ve 1 = zt_by va 16 := rfl
theorem zt_w2 {va vb vc vd ve : Int} : zt_w va vb vc vd ve 2 = zt_by va 8 := rfl
theorem zt_w3 {va vb vc vd ve : Int} : zt_w va vb vc vd ve 3 = zt_by va 0 := rfl
theorem zt_w4 {va vb vc vd ve : Int} : zt_w va vb vc vd ve 4 = zt_by vb 24 := rfl
theorem zt_w5 {va vb vc vd ve : Int} : zt_w va vb vc vd ve 5 = zt_by vb 16 := rfl
theorem zt_w6 {va vb vc vd ve : Int} : zt_w va vb vc vd ve 6 = zt_by vb 8 := rfl
theorem zt_w7 {va vb vc vd ve : Int} : zt_w va vb vc vd ve 7 = zt_by vb 0 := rfl
theorem zt_w8 {va vb vc vd ve : Int} : zt_w va vb vc vd ve 8 = zt_by vc 24 := rfl
theorem zt_w9 {va vb vc vd ve : Int} : zt_w va vb vc vd ve 9 = zt_by vc 16 := rfl
theorem zt_w10 {va vb vc vd ve : Int} : zt_w va vb vc vd ve 10 = zt_by vc 8 := rfl
theorem zt_w11 {va vb vc vd ve : Int} : zt_w va vb vc vd ve 11 = zt_by vc 0 := rfl
theorem zt_w12 {va vb vc vd ve : Int} : zt_w va vb vc vd ve 12 = zt_by vd 24 := rfl
theorem zt_w13 {va vb vc vd ve : Int} : zt_w va vb vc vd ve 13 = zt_by vd 16 := rfl
theorem zt_w14 {va vb vc vd ve : Int} : zt_w va vb vc vd ve 14 = zt_by vd 8 := rfl
theorem zt_w15 {va vb vc vd ve : Int} : zt_w va vb vc vd ve 15 = zt_by vd 0 := rfl
theorem zt_w16 {va vb vc vd ve : Int} : zt_w va vb vc vd ve 16 = zt_by ve 24 := rfl
theorem zt_w17 {va vb vc vd ve : Int} : zt_w va vb vc vd ve 17 = zt_by ve 16 := rfl
theorem zt_w18 {va vb vc vd ve : Int} : zt_w va vb vc vd ve 18 = zt_by ve 8 := rfl
theorem zt_w19 {va vb vc vd ve : Int} : zt_w va vb vc vd ve 19 = zt_by ve 0 := rfl
/-! SPELLING: the machine that reads it: 0 a clause begins, 1 the first letter of a same, 2 its second, 3 further ones, 4 the first of a drop, 5 further ones, 6 a number, 7 ;, 9 the end, 10 a fault. d: double was told, f: first's number, r: the letter that a same stands for; U: letters that were told, I: what they stand for -/
def zs_m (m : Int) : Int := if m = 1 then 2 else if m = 4 then 5 else if m = 2 then 3 else m
def zs_r (m w r : Int) : Int := if m = 1 then w else r
def zs_v (m w r : Int) : Int := if m ≤ 3 then zs_r m w r else 0
def zs_f (kd a : Int) (U I : Nat → Int) : zwS := ((10, 0, kd, a, 0, 0), U, I)
def zs_d (k a x w v m i N d f r : Int) (U I : Nat → Int) : zwS :=
  if m = 0 then (if k = 0 then ((9, i, N, d, f, 0), U, I) else if w = zt_kw 0 then ((1, x, N, d, f, 0), U, I) else if w = zt_kw 1 then ((4, x, N, d, f, 0), U, I) else if w = zt_kw 2 then (if d = 0 then ((7, x, N, 1, f, 0), U, I) else zs_f 3 a U I) else if w = zt_kw 3 then (if f = 0 then ((6, x, N, d, f, 0), U, I) else zs_f 3 a U I) else zs_f 1 a U I)
  else if m ≤ 5 then (if (m = 3 ∨ m = 5) ∧ k = 3 then ((0, x, N + 1, d, f, 0), U, I) else if 1 ≤ w ∧ w ≤ 31 then (if U w.toNat = 0 then ((zs_m m, x, N, d, f, zs_r m w r), zw_u U w.toNat 1, zw_u I w.toNat (zs_v m w r)) else zs_f 3 a U I) else zs_f 1 a U I)
  else if m = 6 then (if k = 2 then (if 1 ≤ v ∧ v ≤ 10 then ((7, x, N, d, v, 0), U, I) else zs_f 2 a U I) else zs_f 1 a U I)
  else if m = 7 then (if k = 3 then ((0, x, N + 1, d, f, 0), U, I) else zs_f 1 a U I)
  else ((m, i, N, d, f, r), U, I)
noncomputable def zs_n (S : Int → Int) (s : zwS) : zwS := zs_d (zt_tok S s.1.2.1).1 (zt_tok S s.1.2.1).2.1 (zt_tok S s.1.2.1).2.2.1 (zt_tok S s.1.2.1).2.2.2.1 (zt_tok S s.1.2.1).2.2.2.2 s.1.1 s.1.2.1 s.1.2.2.1 s.1.2.2.2.1 s.1.2.2.2.2.1 s.1.2.2.2.2.2 s.2.1 s.2.2
noncomputable def zs_it (S : Int → Int) : Nat → zwS
  | 0 => ((0, 0, 0, 0, 0, 0), fun _ => 0, fun j => (j : Int))
  | j + 1 => zs_n S (zs_it S j)
def zs_re (S : Int → Int) (s : zwS) : Prop := ∃ j, zs_it S j = s
theorem zs_re0 (S : Int → Int) : zs_re S ((0, 0, 0, 0, 0, 0), fun _ => 0, fun j => (j : Int)) := ⟨0, rfl⟩
theorem zs_st {S : Int → Int} {m i N d f r k a x w v : Int} {U I : Nat → Int} (h : zs_re S ((m, i, N, d, f, r), U, I)) (g : zt_tk S i k a x w v) : zs_re S (zs_d k a x (zt_p1 k w) (zt_p2 k v) m i N d f r U I) := by
  obtain ⟨j, h⟩ := h
  refine ⟨j + 1, ?_⟩
  show zs_n S (zs_it S j) = _
  rw [h]
  unfold zs_n
  dsimp only
  rw [zt_tok_of g]
theorem zs_end {S : Int → Int} {s : zwS} (hs : zs_n S s = s) {j : Nat} (h : zs_it S j = s) : ∀ d, zs_it S (j + d) = s
  | 0 => h
  | d + 1 => by
    show zs_n S (zs_it S (j + d)) = s
    rw [zs_end hs h d, hs]
theorem zs_one {S : Int → Int} {s t : zwS} (h : zs_re S s) (g : zs_re S t) (hs : zs_n S s = s) (ht : zs_n S t = t) : s = t := by
  obtain ⟨j, h⟩ := h
  obtain ⟨l, g⟩ := g
  rcases Nat.le_total j l with z | z
  · have := zs_end hs h (l - j)
    rw [show j + (l - j) = l by omega, g] at this
    exact this.symm
  · have := zs_end ht g (j - l)
    rw [show l + (j - l) = j by omega, h] at this
    exact this
theorem zs_n_end {S : Int → Int} {m i N d f r : Int} {U I : Nat → Int} (h : 9 ≤ m) : zs_n S ((m, i, N, d, f, r), U, I) = ((m, i, N, d, f, r), U, I) := by
  unfold zs_n
  dsimp only
  unfold zs_d
  rw [if_neg (by omega), if_neg (by omega), if_neg (by omega), if_neg (by omega)]
/-- what is answered: clauses, or -1 -/
def zs_rs (S : Int → Int) (r : Int) : Prop := (∃ i d f U I, zs_re S ((9, i, r, d, f, 0), U, I)) ∨ (r = -1 ∧ ∃ kd a U I, zs_re S (zs_f kd a U I))
theorem zs_rs_eq {S : Int → Int} {r q : Int} (h : zs_rs S r) (g : zs_rs S q) : r = q := by
  rcases h with ⟨i, d, f, U, I, h⟩ | ⟨e, kd, a, U, I, h⟩ <;> rcases g with ⟨i1, d1, f1, U1, I1, g⟩ | ⟨e1, kd1, a1, U1, I1, g⟩
  · have := zs_one h g (zs_n_end (by decide)) (zs_n_end (by decide))
    exact congrArg (fun s : zwS => s.1.2.2.1) this
  · have := congrArg (fun s : zwS => s.1.1) (zs_one h g (zs_n_end (by decide)) (zs_n_end (by decide)))
    have this : (9 : Int) = 10 := this
    omega
  · have := congrArg (fun s : zwS => s.1.1) (zs_one h g (zs_n_end (by decide)) (zs_n_end (by decide)))
    have this : (10 : Int) = 9 := this
    omega
  · omega
/-! the machine's steps -/
section
variable {k a x u y m i N d f r q : Int} {U I : Nat → Int}
theorem zs_d00 : zs_d 0 a x u y 0 i N d f r U I = ((9, i, N, d, f, 0), U, I) := by
  unfold zs_d
  rw [if_pos rfl, if_pos rfl]
theorem zs_d0n (h0 : k ≠ 0) (h1 : u ≠ zt_kw 0) (h2 : u ≠ zt_kw 1) (h3 : u ≠ zt_kw 2) (h4 : u ≠ zt_kw 3) : zs_d k a x u y 0 i N d f r U I = zs_f 1 a U I := by
  unfold zs_d
  rw [if_pos rfl, if_neg h0, if_neg h1, if_neg h2, if_neg h3, if_neg h4]
theorem zs_d0s (h0 : k ≠ 0) (h1 : u = zt_kw 0) : zs_d k a x u y 0 i N d f r U I = ((1, x, N, d, f, 0), U, I) := by
  unfold zs_d
  rw [if_pos rfl, if_neg h0, if_pos h1]
theorem zs_d0d (h0 : k ≠ 0) (h1 : u = zt_kw 1) : zs_d k a x u y 0 i N d f r U I = ((4, x, N, d, f, 0), U, I) := by
  unfold zs_d
  rw [if_pos rfl, if_neg h0, if_neg (by rw [h1]; decide), if_pos h1]
theorem zs_d0b (h0 : k ≠ 0) (h1 : u = zt_kw 2) (h2 : d = 0) : zs_d k a x u y 0 i N d f r U I = ((7, x, N, 1, f, 0), U, I) := by
  unfold zs_d
  rw [if_pos rfl, if_neg h0, if_neg (by rw [h1]; decide), if_neg (by rw [h1]; decide), if_pos h1, if_pos h2]
theorem zs_d0bf (h0 : k ≠ 0) (h1 : u = zt_kw 2) (h2 : d ≠ 0) : zs_d k a x u y 0 i N d f r U I = zs_f 3 a U I := by
  unfold zs_d
  rw [if_pos rfl, if_neg h0, if_neg (by rw [h1]; decide), if_neg (by rw [h1]; decide), if_pos h1, if_neg h2]
theorem zs_d0f (h0 : k ≠ 0) (h1 : u = zt_kw 3) (h2 : f = 0) : zs_d k a x u y 0 i N d f r U I = ((6, x, N, d, f, 0), U, I) := by
  unfold zs_d
  rw [if_pos rfl, if_neg h0, if_neg (by rw [h1]; decide), if_neg (by rw [h1]; decide), if_neg (by rw [h1]; decide), if_pos h1, if_pos h2]
theorem zs_d0ff (h0 : k ≠ 0) (h1 : u = zt_kw 3) (h2 : f ≠ 0) : zs_d k a x u y 0 i N d f r U I = zs_f 3 a U I := by
  unfold zs_d
  rw [if_pos rfl, if_neg h0, if_neg (by rw [h1]; decide), if_neg (by rw [h1]; decide), if_neg (by rw [h1]; decide), if_pos h1, if_neg h2]
theorem zs_dls (h0 : m = 3 ∨ m = 5) (h1 : k = 3) : zs_d k a x u y m i N d f r U I = ((0, x, N + 1, d, f, 0), U, I) := by
  unfold zs_d
  rw [if_neg (by omega), if_pos (by omega), if_pos ⟨h0, h1⟩]
theorem zs_dl1 (h0 : 1 ≤ m ∧ m ≤ 5) (h1 : ¬ ((m = 3 ∨ m = 5) ∧ k = 3)) (h2 : ¬ (1 ≤ u ∧ u ≤ 31)) : zs_d k a x u y m i N d f r U I = zs_f 1 a U I := by
  unfold zs_d
  rw [if_neg (by omega), if_pos (by omega), if_neg h1, if_neg h2]
theorem zs_dl3 (h0 : 1 ≤ m ∧ m ≤ 5) (h1 : k ≠ 3) (h2 : 1 ≤ u ∧ u ≤ 31) (h3 : U u.toNat ≠ 0) : zs_d k a x u y m i N d f r U I = zs_f 3 a U I := by
  unfold zs_d
  rw [if_neg (by omega), if_pos (by omega), if_neg (fun z => h1 z.2), if_pos h2, if_neg h3]
theorem zs_dln (h0 : 1 ≤ m ∧ m ≤ 5) (h1 : k ≠ 3) (h2 : 1 ≤ u ∧ u ≤ 31) (h3 : U u.toNat = 0) : zs_d k a x u y m i N d f r U I = ((zs_m m, x, N, d, f, zs_r m u r), zw_u U u.toNat 1, zw_u I u.toNat (zs_v m u r)) := by
  unfold zs_d
  rw [if_neg (by omega), if_pos (by omega), if_neg (fun z => h1 z.2), if_pos h2, if_pos h3]
theorem zs_d6k (h1 : k ≠ 2) : zs_d k a x u y 6 i N d f r U I = zs_f 1 a U I := by
  unfold zs_d
  rw [if_neg (by decide), if_neg (by decide), if_pos rfl, if_neg h1]
theorem zs_d6v (h1 : k = 2) (h2 : ¬ (1 ≤ y ∧ y ≤ 10)) : zs_d k a x u y 6 i N d f r U I = zs_f 2 a U I := by
  unfold zs_d
  rw [if_neg (by decide), if_neg (by decide), if_pos rfl, if_pos h1, if_neg h2]
theorem zs_d6n (h1 : k = 2) (h2 : 1 ≤ y ∧ y ≤ 10) : zs_d k a x u y 6 i N d f r U I = ((7, x, N, d, y, 0), U, I) := by
  unfold zs_d
  rw [if_neg (by decide), if_neg (by decide), if_pos rfl, if_pos h1, if_pos h2]
theorem zs_d7k (h1 : k ≠ 3) : zs_d k a x u y 7 i N d f r U I = zs_f 1 a U I := by
  unfold zs_d
  rw [if_neg (by decide), if_neg (by decide), if_neg (by decide), if_pos rfl, if_neg h1]
theorem zs_d7n (h1 : k = 3) : zs_d k a x u y 7 i N d f r U I = ((0, x, N + 1, d, f, 0), U, I) := by
  unfold zs_d
  rw [if_neg (by decide), if_neg (by decide), if_neg (by decide), if_pos rfl, if_pos h1]
/-- clauses are no more than bytes -/
theorem zs_d_up {w v : Int} (hk : k = 0 ∨ i < x) (hw : w = 0 ∨ k ≠ 0) (hm : m = 10 ∨ N ≤ i) {t : zwS} (ht : zs_d k a x w v m i N d f r U I = t) (h : t.1.1 ≠ 10) : t.1.2.2.1 ≤ t.1.2.1 := by
  have k0 : 0 < zt_kw 0 := by decide
  have k1 : 0 < zt_kw 1 := by decide
  have k2 : 0 < zt_kw 2 := by decide
  have k3 : 0 < zt_kw 3 := by decide
  unfold zs_d zs_f at ht
  repeat' split at ht
  all_goals subst ht
  all_goals dsimp only at h ⊢
  all_goals omega
end
theorem zt_tok_up {S : Int → Int} {i : Int} : (zt_tok S i).1 = 0 ∨ i < (zt_tok S i).2.2.1 := by
  by_cases hx : ∃ q : Int × Int × Int × Int × Int, zt_tk S i q.1 q.2.1 q.2.2.1 q.2.2.2.1 q.2.2.2.2
  · obtain ⟨⟨k, a, x, w, v⟩, hq⟩ := hx
    have hq : zt_tk S i k a x w v := hq
    rw [zt_tok_of hq]
    show k = 0 ∨ i < x
    have h1 := hq.2.1.1
    rcases hq.2.2.2 with ⟨g0, -⟩ | ⟨-, g, -⟩ | ⟨-, g, -⟩ | ⟨-, -, g⟩ | ⟨-, g, -⟩ | ⟨-, g, -⟩ | ⟨-, -, -, -, -, g⟩
    all_goals omega
  · left
    unfold zt_tok
    rw [dif_neg hx]
theorem zt_tok_w {S : Int → Int} {i : Int} : (zt_tok S i).2.2.2.1 = 0 ∨ (zt_tok S i).1 ≠ 0 := by
  by_cases hx : ∃ q : Int × Int × Int × Int × Int, zt_tk S i q.1 q.2.1 q.2.2.1 q.2.2.2.1 q.2.2.2.2
  · obtain ⟨⟨k, a, x, w, v⟩, hq⟩ := hx
    have hq : zt_tk S i k a x w v := hq
    rw [zt_tok_of hq]
    show zt_p1 k w = 0 ∨ k ≠ 0
    unfold zt_p1
    split
    · right
      omega
    · left
      rfl
  · left
    unfold zt_tok
    rw [dif_neg hx]
theorem zs_up {S : Int → Int} : ∀ j, (zs_it S j).1.1 = 10 ∨ (zs_it S j).1.2.2.1 ≤ (zs_it S j).1.2.1
  | 0 => by
    right
    show (0 : Int) ≤ 0
    decide
  | j + 1 => by
    have ih := zs_up (S := S) j
    by_cases e : (zs_it S (j + 1)).1.1 = 10
    · exact Or.inl e
    · right
      have e2 : zs_n S (zs_it S j) = zs_it S (j + 1) := rfl
      unfold zs_n at e2
      exact zs_d_up zt_tok_up zt_tok_w ih e2 e
theorem zs_le {S : Int → Int} {m i N d f r : Int} {U I : Nat → Int} (h : zs_re S ((m, i, N, d, f, r), U, I)) (hm : m ≠ 10) : N ≤ i := by
  obtain ⟨j, h⟩ := h
  have := zs_up (S := S) j
  rw [h] at this
  rcases this with this | this
  · exact absurd this hm
  · exact this
/-- letters are told or not -/
def zs_ok (U : Nat → Int) : Prop := U 0 = 0 ∧ ∀ j, U j = 0 ∨ U j = 1
theorem zs_ok0 : zs_ok (fun _ => 0) := ⟨rfl, fun _ => Or.inl rfl⟩
theorem zs_ok_u {U : Nat → Int} {l : Nat} (h : zs_ok U) (hl : l ≠ 0) : zs_ok (zw_u U l 1) := by
  refine ⟨?_, fun j => ?_⟩
  · unfold zw_u
    rw [if_neg (fun z => hl z.symm)]
    exact h.1
  · unfold zw_u
    by_cases e : j = l
    · rw [if_pos e]
      exact Or.inr rfl
    · rw [if_neg e]
      exact h.2 j
/-- how many letters were told -/
def zs_c (f : Nat → Int) : Nat → Int
  | 0 => 0
  | m + 1 => zs_c f m + f (m + 1)
theorem zs_c0 {f : Nat → Int} : ∀ {m : Nat}, (∀ j : Nat, j ≤ m → 0 ≤ f j) → 0 ≤ zs_c f m
  | 0, _ => by
    show (0 : Int) ≤ 0
    decide
  | m + 1, h => by
    have h1 := zs_c0 (m := m) (fun j hj => h j (by omega))
    have h2 := h (m + 1) (by omega)
    show 0 ≤ zs_c f m + f (m + 1)
    omega
theorem zs_cA {f : Nat → Int} : ∀ {m : Nat}, (∀ j : Nat, j ≤ m → f j ≤ 1) → zs_c f m ≤ m
  | 0, _ => by
    show (0 : Int) ≤ ((0 : Nat) : Int)
    decide
  | m + 1, h => by
    have h1 := zs_cA (m := m) (fun j hj => h j (by omega))
    have h2 := h (m + 1) (by omega)
    show zs_c f m + f (m + 1) ≤ ((m + 1 : Nat) : Int)
    omega
theorem zs_cB {f : Nat → Int} {p : Nat} (hp : 1 ≤ p) (h0 : f p = 0) : ∀ {m : Nat}, p ≤ m → (∀ j : Nat, j ≤ m → f j ≤ 1) → zs_c f m ≤ m - 1
  | 0, z, _ => by omega
  | m + 1, z, h => by
    have h2 := h (m + 1) (by omega)
    show zs_c f m + f (m + 1) ≤ ((m + 1 : Nat) : Int) - 1
    by_cases e : p = m + 1
    · have h1 := zs_cA (m := m) (fun j hj => h j (by omega))
      rw [e] at h0
      omega
    · have h1 := zs_cB hp h0 (m := m) (by omega) (fun j hj => h j (by omega))
      omega
theorem zs_cE {f g : Nat → Int} : ∀ {m : Nat}, (∀ j : Nat, j ≤ m → f j = g j) → zs_c f m = zs_c g m
  | 0, _ => rfl
  | m + 1, h => by
    show zs_c f m + f (m + 1) = zs_c g m + g (m + 1)
    rw [zs_cE (m := m) (fun j hj => h j (by omega)), h (m + 1) (by omega)]
theorem zs_cU {f : Nat → Int} {p : Nat} (hp : 1 ≤ p) (h0 : f p = 0) : ∀ {m : Nat}, zs_c (zw_u f p 1) m = zs_c f m + (if p ≤ m then 1 else 0)
  | 0 => by
    rw [if_neg (by omega)]
    rfl
  | m + 1 => by
    show zs_c (zw_u f p 1) m + zw_u f p 1 (m + 1) = zs_c f m + f (m + 1) + _
    rw [zs_cU hp h0 (m := m)]
    unfold zw_u
    by_cases e : m + 1 = p
    · rw [if_pos e, if_neg (by omega), if_pos (by omega), e, h0]
    · rw [if_neg e]
      by_cases e2 : p ≤ m
      · rw [if_pos e2, if_pos (by omega)]
        omega
      · rw [if_neg e2, if_neg (by omega)]
        omega
theorem zs_uu {f g hs : Nat → Int} {n p i : Nat} {w v : Int} (h : ∀ j, j < n → f j = hs j) (e : i = p) (hw : g i = w) (hv : w = v) (ho : ∀ j, j ≠ i → g j = f j) : ∀ j, j < n → g j = zw_u hs p v j := by
  intro j hj
  unfold zw_u
  by_cases z : j = p
  · rw [if_pos z, z, ← e, hw, hv]
  · rw [if_neg z, ho j (fun y => z (by rw [y, e]))]
    exact h j hj
/-! bits of a number -/
def zs_b (x : Int) (j : Nat) : Int := if (Int32.ofInt x).toBitVec.getLsbD j = true then 1 else 0
theorem zs_b_0 (j : Nat) : zs_b 0 j = 0 := by
  unfold zs_b
  rw [show (Int32.ofInt 0).toBitVec = 0#32 by rfl, BitVec.getLsbD_zero]
  rfl
theorem zs_shr : ∀ r : Nat, r < 32 → ((Int32.ofInt (r : Int) &&& 31).toBitVec.smod 32).toNat = r := by decide +kernel
theorem zs_bit {x r z q : Int} (h : zrn 34 x r z) (g : zrn 31 z 1 q) (r0 : 0 ≤ r) (r1 : r ≤ 31) (q0 : -2147483648 ≤ q) (q1 : q ≤ 2147483647) : q = zs_b x r.toNat := by
  have h : some (Value.int (Int32.ofInt x >>> (Int32.ofInt r &&& 31))) = some (Value.int (Int32.ofInt z)) := h
  have h := Value.int.inj (Option.some.inj h)
  have g : some (Value.int (Int32.ofInt z &&& Int32.ofInt 1)) = some (Value.int (Int32.ofInt q)) := g
  have g := Value.int.inj (Option.some.inj g)
  have es := zs_shr r.toNat (by omega)
  rw [show ((r.toNat : Nat) : Int) = r by omega] at es
  have e1 : (Int32.ofInt z &&& Int32.ofInt 1).toBitVec = BitVec.setWidth 32 (BitVec.ofBool ((Int32.ofInt z).toBitVec.getLsbD 0)) := by
    rw [Int32.toBitVec_and, show (Int32.ofInt 1).toBitVec = 1#32 by rfl, BitVec.and_one_eq_setWidth_ofBool_getLsbD]
  have e2 : (Int32.ofInt z).toBitVec.getLsbD 0 = (Int32.ofInt x).toBitVec.getLsbD r.toNat := by
    rw [← h, Int32.toBitVec_shiftRight, BitVec.sshiftRight_eq', BitVec.getLsbD_sshiftRight, es, if_pos (by omega), Nat.add_zero]
    rfl
  have e5 : (Int32.ofInt z &&& Int32.ofInt 1).toInt = zs_b x r.toNat := by
    show (Int32.ofInt z &&& Int32.ofInt 1).toBitVec.toInt = _
    rw [e1, e2]
    unfold zs_b
    cases (Int32.ofInt x).toBitVec.getLsbD r.toNat
    · rfl
    · rfl
  rw [g, zk_i32 q0 q1] at e5
  exact e5
theorem zs_b01 (x : Int) (j : Nat) : zs_b x j = 0 ∨ zs_b x j = 1 := by
  unfold zs_b
  split
  · exact Or.inr rfl
  · exact Or.inl rfl
theorem zs_bor {x r s y : Int} (h : zrn 33 1 r s) (g : zrn 32 x s y) (r0 : 0 ≤ r) (r1 : r ≤ 31) (j : Nat) (hj : j < 32) : zs_b y j = if j = r.toNat then 1 else zs_b x j := by
  have h : some (Value.int (Int32.ofInt 1 <<< (Int32.ofInt r &&& 31))) = some (Value.int (Int32.ofInt s)) := h
  have h := Value.int.inj (Option.some.inj h)
  have g : some (Value.int (Int32.ofInt x ||| Int32.ofInt s)) = some (Value.int (Int32.ofInt y)) := g
  have g := Value.int.inj (Option.some.inj g)
  have es := zs_shr r.toNat (by omega)
  rw [show ((r.toNat : Nat) : Int) = r by omega] at es
  have e1 : (Int32.ofInt y).toBitVec.getLsbD j = ((Int32.ofInt x).toBitVec.getLsbD j || decide (j = r.toNat)) := by
    rw [← g, Int32.toBitVec_or, BitVec.getLsbD_or, ← h, Int32.toBitVec_shiftLeft, BitVec.shiftLeft_eq', es, BitVec.getLsbD_shiftLeft, show (Int32.ofInt 1).toBitVec = 1#32 by rfl, BitVec.getLsbD_one]
    generalize r.toNat = t
    by_cases e : j = t
    · rw [decide_eq_true hj, decide_eq_false (show ¬ j < t by omega), decide_eq_true (show (0 : Nat) < 32 by decide), decide_eq_true (show j - t = 0 by omega), decide_eq_true e]
      rfl
    · rw [decide_eq_false e]
      by_cases e2 : j < t
      · rw [decide_eq_true e2, Bool.not_true, Bool.and_false, Bool.false_and]
      · rw [decide_eq_false (show ¬ j - t = 0 by omega), Bool.and_false, Bool.and_false]
  unfold zs_b
  rw [e1]
  by_cases e : j = r.toNat
  · rw [if_pos e, decide_eq_true e, Bool.or_true, if_pos rfl]
  · rw [if_neg e, decide_eq_false e, Bool.or_false]
/-- what first told, and which words the reference has had -/
def zs_g (f : Int) : Int := if f = 0 then 10 else f
def zs_w (d f m : Int) : Int := 4 * d + if f = 0 ∧ m ≠ 6 then 0 else 8
theorem zs_wm {d f m n : Int} (h : m ≠ 6) (g : n ≠ 6) : zs_w d f m = zs_w d f n := by
  unfold zs_w
  by_cases z : f = 0
  · rw [if_pos (show f = 0 ∧ m ≠ 6 from ⟨z, h⟩), if_pos (show f = 0 ∧ n ≠ 6 from ⟨z, g⟩)]
  · rw [if_neg (show ¬ (f = 0 ∧ m ≠ 6) from fun t => z t.1), if_neg (show ¬ (f = 0 ∧ n ≠ 6) from fun t => z t.1)]
theorem zs_w2 {d f m : Int} (h : d = 0 ∨ d = 1) : zs_b (zs_w d f m) 2 = d := by
  unfold zs_w
  by_cases z : f = 0 ∧ m ≠ 6
  · rw [if_pos z]
    rcases h with rfl | rfl <;> decide +kernel
  · rw [if_neg z]
    rcases h with rfl | rfl <;> decide +kernel
theorem zs_w3 {d f m : Int} (h : d = 0 ∨ d = 1) : zs_b (zs_w d f m) 3 = if f = 0 ∧ m ≠ 6 then 0 else 1 := by
  unfold zs_w
  by_cases z : f = 0 ∧ m ≠ 6
  · rw [if_pos z, if_pos z]
    rcases h with rfl | rfl <;> decide +kernel
  · rw [if_neg z, if_neg z]
    rcases h with rfl | rfl <;> decide +kernel
theorem zs_orc {u r s y c e : Int} (h : zrn 33 1 r s) (g : zrn 32 u s y) (hs : Int32.ofInt 1 <<< (Int32.ofInt r &&& 31) = Int32.ofInt c) (hy : Int32.ofInt u ||| Int32.ofInt c = Int32.ofInt e) (e0 : -2147483648 ≤ e) (e1 : e ≤ 2147483647) (y0 : -2147483648 ≤ y) (y1 : y ≤ 2147483647) : y = e := by
  have h : some (Value.int (Int32.ofInt 1 <<< (Int32.ofInt r &&& 31))) = some (Value.int (Int32.ofInt s)) := h
  have h := Value.int.inj (Option.some.inj h)
  have g : some (Value.int (Int32.ofInt u ||| Int32.ofInt s)) = some (Value.int (Int32.ofInt y)) := g
  have g := Value.int.inj (Option.some.inj g)
  rw [← h, hs, hy] at g
  have := congrArg Int32.toInt g
  rw [zk_i32 e0 e1, zk_i32 y0 y1] at this
  exact this.symm
theorem zs_or2 {u s y : Int} (h : zrn 33 1 2 s) (g : zrn 32 u s y) (hu : u = 0 ∨ u = 8) (y0 : -2147483648 ≤ y) (y1 : y ≤ 2147483647) : y = u + 4 := by
  rcases hu with rfl | rfl
  · exact zs_orc h g (c := 4) (e := 4) (by decide) (by decide) (by decide) (by decide) y0 y1
  · exact zs_orc h g (c := 4) (e := 12) (by decide) (by decide) (by decide) (by decide) y0 y1
theorem zs_or3 {u s y : Int} (h : zrn 33 1 3 s) (g : zrn 32 u s y) (hu : u = 0 ∨ u = 4) (y0 : -2147483648 ≤ y) (y1 : y ≤ 2147483647) : y = u + 8 := by
  rcases hu with rfl | rfl
  · exact zs_orc h g (c := 8) (e := 8) (by decide) (by decide) (by decide) (by decide) y0 y1
  · exact zs_orc h g (c := 8) (e := 12) (by decide) (by decide) (by decide) (by decide) y0 y1
/-! KEYS: letters of a word as one number, five bits each -/
def zl_dg : Int → Nat → Int
  | w, 0 => w % 32
  | w, j + 1 => zl_dg (w / 32) j
theorem zl_dg_bd : ∀ {w : Int} {j : Nat}, 0 ≤ zl_dg w j ∧ zl_dg w j ≤ 31
  | w, 0 => by
    show 0 ≤ w % 32 ∧ w % 32 ≤ 31
    omega
  | w, j + 1 => zl_dg_bd (w := w / 32) (j := j)
theorem zl_dg_z : ∀ {j : Nat}, zl_dg 0 j = 0
  | 0 => by
    show (0 : Int) % 32 = 0
    decide
  | j + 1 => by
    show zl_dg (0 / 32) j = 0
    rw [show (0 : Int) / 32 = 0 by decide]
    exact zl_dg_z
theorem zl_dg_add {w e : Int} (h0 : 0 ≤ e) (h1 : e ≤ 31) : zl_dg (32 * w + e) 0 = e ∧ ∀ j, zl_dg (32 * w + e) (j + 1) = zl_dg w j := by
  refine ⟨?_, fun j => ?_⟩
  · show (32 * w + e) % 32 = e
    omega
  · show zl_dg ((32 * w + e) / 32) j = zl_dg w j
    rw [show (32 * w + e) / 32 = w by omega]
/-- a shift and a mask tell a letter -/
theorem zl_dg_sh : ∀ {j : Nat} {w : Int}, 0 ≤ w → zl_dg w j = ((w.toNat / 2 ^ (5 * j) % 32 : Nat) : Int)
  | 0, w, h => by
    show w % 32 = ((w.toNat / 2 ^ (5 * 0) % 32 : Nat) : Int)
    rw [show 2 ^ (5 * 0) = 1 by rfl, Nat.div_one]
    omega
  | j + 1, w, h => by
    show zl_dg (w / 32) j = _
    rw [zl_dg_sh (show 0 ≤ w / 32 by omega), show (w / 32).toNat = w.toNat / 32 by omega, Nat.div_div_eq_div_mul, show 32 * 2 ^ (5 * j) = 2 ^ (5 * (j + 1)) by rw [show 5 * (j + 1) = 5 * j + 5 by omega, Nat.pow_add]; omega]
/-- letter by letter: the key so far, how many letters it has, the one before -/
def zl_s (I : Nat → Int) (d m c : Int) (q : Int × Int × Int) : Int × Int × Int := if q.2.1 = m ∨ c = 0 ∨ I c.toNat = 0 ∨ (d ≠ 0 ∧ I c.toNat = q.2.2) then q else (32 * q.1 + I c.toNat, q.2.1 + 1, I c.toNat)
def zl_q (I : Nat → Int) (d m w : Int) : Nat → Int × Int × Int
  | 0 => (0, 0, 0)
  | j + 1 => zl_s I d m (zl_dg w (9 - j)) (zl_q I d m w j)
section
variable {I J : Nat → Int} {d m w c : Int}
theorem zl_s_skip {q : Int × Int × Int} (h : q.2.1 = m ∨ c = 0 ∨ I c.toNat = 0 ∨ (d ≠ 0 ∧ I c.toNat = q.2.2)) : zl_s I d m c q = q := by
  unfold zl_s
  rw [if_pos h]
theorem zl_s_add {k t b : Int} (h1 : t ≠ m) (h2 : c ≠ 0) (h3 : I c.toNat ≠ 0) (h4 : d = 0 ∨ I c.toNat ≠ b) : zl_s I d m c (k, t, b) = (32 * k + I c.toNat, t + 1, I c.toNat) := by
  have hn : ¬ (t = m ∨ c = 0 ∨ I c.toNat = 0 ∨ (d ≠ 0 ∧ I c.toNat = b)) := by
    rintro (z | z | z | ⟨z1, z2⟩)
    · exact h1 z
    · exact h2 z
    · exact h3 z
    · rcases h4 with h4 | h4
      · exact z1 h4
      · exact h4 z2
  unfold zl_s
  exact if_neg hn
theorem zl_q_le (hm : 0 ≤ m) : ∀ j, 0 ≤ (zl_q I d m w j).2.1 ∧ (zl_q I d m w j).2.1 ≤ m
  | 0 => ⟨Int.le_refl 0, hm⟩
  | j + 1 => by
    have ih := zl_q_le hm j
    show 0 ≤ (zl_s I d m (zl_dg w (9 - j)) (zl_q I d m w j)).2.1 ∧ (zl_s I d m (zl_dg w (9 - j)) (zl_q I d m w j)).2.1 ≤ m
    unfold zl_s
    split
    · exact ih
    · rename_i h
      have : (zl_q I d m w j).2.1 ≠ m := fun z => h (Or.inl z)
      dsimp only
      omega
theorem zl_q_full : ∀ (n j : Nat), (zl_q I d m w j).2.1 = m → zl_q I d m w (j + n) = zl_q I d m w j
  | 0, _, _ => rfl
  | n + 1, j, h => by
    have ih := zl_q_full n j h
    show zl_s I d m (zl_dg w (9 - (j + n))) (zl_q I d m w (j + n)) = _
    rw [ih]
    exact zl_s_skip (Or.inl h)
theorem zl_q_eq (h : ∀ c : Nat, c ≤ 26 → I c = J c) (hw : ∀ j, zl_dg w j ≤ 26) : ∀ j, zl_q I d m w j = zl_q J d m w j
  | 0 => rfl
  | j + 1 => by
    show zl_s I d m (zl_dg w (9 - j)) (zl_q I d m w j) = zl_s J d m (zl_dg w (9 - j)) (zl_q J d m w j)
    rw [zl_q_eq h hw j]
    have h1 := hw (9 - j)
    unfold zl_s
    rw [h (zl_dg w (9 - j)).toNat (by omega)]
end
/-- a key of t letters -/
def zl_gd : Nat → Int → Prop
  | 0, k => k = 0
  | t + 1, k => 0 < k ∧ k % 32 ≠ 0 ∧ zl_gd t (k / 32)
theorem zl_gd_nn : ∀ {t : Nat} {k : Int}, zl_gd t k → 0 ≤ k
  | 0, k, h => by
    have h : k = 0 := h
    omega
  | t + 1, k, h => by
    have := h.1
    omega
theorem zl_gd_add {t : Nat} {k e : Int} (h : zl_gd t k) (h0 : 1 ≤ e) (h1 : e ≤ 31) : zl_gd (t + 1) (32 * k + e) := by
  have hk := zl_gd_nn h
  refine ⟨by omega, by omega, ?_⟩
  rw [show (32 * k + e) / 32 = k by omega]
  exact h
theorem zl_gd_one : ∀ {t u : Nat} {k : Int}, zl_gd t k → zl_gd u k → t = u
  | 0, 0, _, _, _ => rfl
  | 0, u + 1, k, h, g => by
    have h : k = 0 := h
    have := g.1
    omega
  | t + 1, 0, k, h, g => by
    have g : k = 0 := g
    have := h.1
    omega
  | t + 1, u + 1, k, h, g => by rw [zl_gd_one h.2.2 g.2.2]
theorem zl_gd_lt : ∀ {t : Nat} {k : Int}, zl_gd t k → k < 32 ^ t
  | 0, k, h => by
    have h : k = 0 := h
    rw [h]
    decide
  | t + 1, k, h => by
    have h1 := zl_gd_lt h.2.2
    rw [Int.pow_succ]
    generalize (32 : Int) ^ t = z at h1 ⊢
    omega
theorem zl_gd_dg : ∀ {t : Nat} {k : Int} (_ : zl_gd t k) (j : Nat), zl_dg k j = 0 ↔ t ≤ j
  | 0, k, h, j => by
    have h : k = 0 := h
    rw [h, zl_dg_z]
    exact ⟨fun _ => by omega, fun _ => rfl⟩
  | t + 1, k, h, 0 => by
    show k % 32 = 0 ↔ t + 1 ≤ 0
    have := h.2.1
    exact ⟨fun z => absurd z this, fun z => by omega⟩
  | t + 1, k, h, j + 1 => by
    show zl_dg (k / 32) j = 0 ↔ t + 1 ≤ j + 1
    rw [zl_gd_dg h.2.2 j]
    omega
/-- what the letters stand for lies in five bits -/
def zl_bd (I : Nat → Int) : Prop := I 0 = 0 ∧ ∀ c : Nat, c < 27 → 0 ≤ I c ∧ I c ≤ 31
def zl_wd (w : Int) : Prop := 0 ≤ w ∧ w < 1125899906842624 ∧ ∀ j, zl_dg w j ≤ 26
theorem zl_q_gd {I : Nat → Int} {d m w : Int} (hI : zl_bd I) (hw : zl_wd w) (hm : 0 ≤ m) : ∀ j, zl_gd (zl_q I d m w j).2.1.toNat (zl_q I d m w j).1
  | 0 => by
    show (0 : Int) = 0
    rfl
  | j + 1 => by
    have ih := zl_q_gd (d := d) hI hw hm j
    have hl := (zl_q_le (I := I) (d := d) (w := w) hm j).1
    show zl_gd (zl_s I d m (zl_dg w (9 - j)) (zl_q I d m w j)).2.1.toNat (zl_s I d m (zl_dg w (9 - j)) (zl_q I d m w j)).1
    unfold zl_s
    split
    · exact ih
    · rename_i h
      dsimp only
      have h1 := hw.2.2 (9 - j)
      have h2 := hI.2 (zl_dg w (9 - j)).toNat (by omega)
      have h3 : I (zl_dg w (9 - j)).toNat ≠ 0 := fun z => h (Or.inr (Or.inr (Or.inl z)))
      rw [show ((zl_q I d m w j).2.1 + 1).toNat = (zl_q I d m w j).2.1.toNat + 1 by omega]
      exact zl_gd_add ih (by omega) (by omega)
/-- the reference's letters, as the class has them -/
def zl_I (G : Nat → Int) : Nat → Int := fun c => if c = 0 then 0 else G (c - 1) + 1
/-- words of tokens -/
theorem zl_wc {S : Int → Int} {a : Int} : ∀ {n : Nat}, (∀ t : Nat, t < n → zt_sm (S (a + t))) → ∀ j, zl_dg (zt_wc S a n) j ≤ 26
  | 0, _, j => by
    show zl_dg 0 j ≤ 26
    rw [zl_dg_z]
    decide
  | n + 1, h, j => by
    have h3 : zt_sm (S (a + n)) := h n (by omega)
    unfold zt_sm at h3
    have ha := zl_dg_add (w := zt_wc S a n) (e := S (a + n) - 96) (by omega) (by omega)
    show zl_dg (32 * zt_wc S a n + (S (a + n) - 96)) j ≤ 26
    match j with
    | 0 =>
      rw [ha.1]
      omega
    | j + 1 =>
      rw [ha.2]
      exact zl_wc (fun t ht => h t (by omega)) j
theorem zl_wd_of {S : Int → Int} {a s w : Int} (h : zt_wd S a s w) : zl_wd w := by
  have b1 := zt_wc_bd (zt_wd_t h)
  have b2 := zt_pow_mono (m := s.toNat) (n := 10) (by have := h.2.1; omega)
  rw [show (32 : Int) ^ 10 = 1125899906842624 by decide] at b2
  have b3 := zl_wc (zt_wd_t h)
  rw [← h.2.2.2.2] at b1 b3
  exact ⟨b1.1, by omega, b3⟩
/-- the answer: letter i of the key, or how many it has -/
def zl_ans (q : Int × Int × Int) (i : Int) : Int := if i = -1 then q.2.1 else if 0 ≤ i ∧ i < q.2.1 then 96 + zl_dg q.1 (q.2.1 - 1 - i).toNat else -1
noncomputable def zl_A (S : Int → Int) (I : Nat → Int) (d m i : Int) : Int := if (zt_tok S 0).1 = 1 ∧ (zt_tok S (zt_tok S 0).2.2.1).1 = 0 then zl_ans (zl_q I d m (zt_tok S 0).2.2.2.1 10) i else -1
theorem zl_tok1 {S : Int → Int} (h : (zt_tok S 0).1 = 1) : zl_wd (zt_tok S 0).2.2.2.1 := by
  by_cases hx : ∃ q : Int × Int × Int × Int × Int, zt_tk S 0 q.1 q.2.1 q.2.2.1 q.2.2.2.1 q.2.2.2.2
  · obtain ⟨⟨k, a, x, w, v⟩, hq⟩ := hx
    have hq : zt_tk S 0 k a x w v := hq
    rw [zt_tok_of hq] at h ⊢
    have h : k = 1 := h
    show zl_wd (zt_p1 k w)
    subst h
    rcases hq.2.2.2 with ⟨g0, -⟩ | ⟨-, g1, g2, g3, g4, g5⟩ | ⟨g0, -⟩ | ⟨g0, -⟩ | ⟨g0, -⟩ | ⟨g0, -⟩ | ⟨g0, -⟩
    · omega
    · refine zl_wd_of (S := S) (a := a) (s := x - a) ⟨by omega, by omega, ?_, ?_, ?_⟩
      · rw [show a + (x - a) = x by omega]
        exact g2
      · rw [show a + (x - a) = x by omega]
        exact g3
      · exact g5
    · omega
    · omega
    · omega
    · omega
    · omega
  · exfalso
    unfold zt_tok at h
    rw [dif_neg hx] at h
    exact absurd h (by decide)
theorem zl_A_eq {S : Int → Int} {I J : Nat → Int} {d m i : Int} (h : ∀ c : Nat, c ≤ 26 → I c = J c) : zl_A S I d m i = zl_A S J d m i := by
  unfold zl_A
  by_cases e : (zt_tok S 0).1 = 1 ∧ (zt_tok S (zt_tok S 0).2.2.1).1 = 0
  · rw [if_pos e, if_pos e, zl_q_eq h (zl_tok1 e.1).2.2]
  · rw [if_neg e, if_neg e]
/-! shifts of longs -/
theorem zb_s64 : ∀ n : Nat, n < 64 → (Int32.ofInt (n : Int)).toInt64.toUInt64.toNat = n := by decide +kernel
theorem zb_t64 : ∀ n : Nat, n < 64 → (((Int32.ofInt (n : Int)).toInt64 &&& 63).toBitVec.smod 64).toNat = n := by decide +kernel
theorem zm_45 {w s z : Int} (h : zrn 45 w s z) (h0 : 0 ≤ w) (h1 : w ≤ 9223372036854775807) (s0 : 0 ≤ s) (s1 : s ≤ 63) (h4 : -9223372036854775808 ≤ z) (h5 : z ≤ 9223372036854775807) : z = ((w.toNat / 2 ^ s.toNat : Nat) : Int) := by
  have h : some (Value.long ((Int64.ofInt w).toUInt64 >>> ((Int32.ofInt s).toInt64.toUInt64 &&& Int64.toUInt64 63)).toInt64) = some (Value.long (Int64.ofInt z)) := h
  have h := Value.long.inj (Option.some.inj h)
  have e1 : (Int64.ofInt w).toUInt64.toNat = w.toNat := zb64 h0 h1
  have e2 := zb_s64 s.toNat (by omega)
  rw [show ((s.toNat : Nat) : Int) = s by omega] at e2
  have e3 : ((Int64.ofInt w).toUInt64 >>> ((Int32.ofInt s).toInt64.toUInt64 &&& Int64.toUInt64 63)).toNat = w.toNat / 2 ^ s.toNat := by
    rw [UInt64.toNat_shiftRight, UInt64.toNat_and, e1, e2, show (Int64.toUInt64 63).toNat = 2 ^ 6 - 1 by rfl, Nat.and_two_pow_sub_one_eq_mod, Nat.shiftRight_eq_div_pow, show s.toNat % 2 ^ 6 % 64 = s.toNat by omega]
  have e5 : ((Int64.ofInt w).toUInt64 >>> ((Int32.ofInt s).toInt64.toUInt64 &&& Int64.toUInt64 63)).toInt64.toBitVec.toNat = w.toNat / 2 ^ s.toNat := e3
  have e6 : w.toNat / 2 ^ s.toNat ≤ w.toNat := Nat.div_le_self _ _
  have e4 := congrArg Int64.toInt h
  rw [zk_i64 h4 h5, zb64i (by rw [e5]; omega), e5] at e4
  exact e4.symm
theorem zm_44 {w s z : Int} (h : zrn 44 w s z) (h0 : 0 ≤ w) (h1 : w ≤ 9223372036854775807) (s0 : 0 ≤ s) (s1 : s ≤ 63) (h4 : -9223372036854775808 ≤ z) (h5 : z ≤ 9223372036854775807) : z = ((w.toNat / 2 ^ s.toNat : Nat) : Int) := by
  have h : some (Value.long (Int64.ofInt w >>> ((Int32.ofInt s).toInt64 &&& 63))) = some (Value.long (Int64.ofInt z)) := h
  have h := Value.long.inj (Option.some.inj h)
  have e2 := zb_t64 s.toNat (by omega)
  rw [show ((s.toNat : Nat) : Int) = s by omega] at e2
  have hm : (Int64.ofInt w).toBitVec.msb = false := by
    rw [BitVec.msb_eq_false_iff_two_mul_lt, zb64 h0 h1]
    omega
  have e5 : (Int64.ofInt w >>> ((Int32.ofInt s).toInt64 &&& 63)).toBitVec.toNat = w.toNat / 2 ^ s.toNat := by
    rw [Int64.toBitVec_shiftRight, BitVec.sshiftRight_eq', e2, BitVec.sshiftRight_eq_of_msb_false hm, BitVec.toNat_ushiftRight, zb64 h0 h1, Nat.shiftRight_eq_div_pow]
  have e6 : w.toNat / 2 ^ s.toNat ≤ w.toNat := Nat.div_le_self _ _
  have e4 := congrArg Int64.toInt h
  rw [zk_i64 h4 h5, zb64i (by rw [e5]; omega), e5] at e4
  exact e4.symm
theorem zm_41 {z q : Int} (h : zrn 41 z 31 q) (h0 : 0 ≤ z) (h1 : z ≤ 9223372036854775807) (h4 : -9223372036854775808 ≤ q) (h5 : q ≤ 9223372036854775807) : q = ((z.toNat % 32 : Nat) : Int) := by
  have h : some (Value.long (Int64.ofInt z &&& Int64.ofInt 31)) = some (Value.long (Int64.ofInt q)) := h
  have h := Value.long.inj (Option.some.inj h)
  have e5 : (Int64.ofInt z &&& Int64.ofInt 31).toBitVec.toNat = z.toNat % 32 := by
    rw [Int64.toBitVec_and, BitVec.toNat_and, zb64 h0 h1, show (Int64.ofInt 31).toBitVec.toNat = 2 ^ 5 - 1 by rfl, Nat.and_two_pow_sub_one_eq_mod]
  have e4 := congrArg Int64.toInt h
  rw [zk_i64 h4 h5, zb64i (by rw [e5]; omega), e5] at e4
  exact e4.symm
theorem zm_31m {z q : Int} (h : zrn 31 z 31 q) (h0 : 0 ≤ z) (h4 : -2147483648 ≤ q) (h5 : q ≤ 2147483647) : q = ((z.toNat % 32 : Nat) : Int) := by
  have h : some (Value.int (Int32.ofInt z &&& Int32.ofInt 31)) = some (Value.int (Int32.ofInt q)) := h
  have h := Value.int.inj (Option.some.inj h)
  have e5 : (Int32.ofInt z &&& Int32.ofInt 31).toBitVec.toNat = z.toNat % 32 := by
    rw [Int32.toBitVec_and, BitVec.toNat_and, show (Int32.ofInt z).toBitVec = BitVec.ofInt 32 z by rfl, BitVec.toNat_ofInt, show (Int32.ofInt 31).toBitVec.toNat = 2 ^ 5 - 1 by rfl, Nat.and_two_pow_sub_one_eq_mod]
    omega
  have e4 := congrArg Int32.toInt h
  rw [zk_i32 h4 h5, zb32i (by rw [e5]; omega), e5] at e4
  exact e4.symm
/-- spelling's letters stand for numbers of five bits -/
theorem zs_d_bd {k a x w v m i N d f r : Int} {U I : Nat → Int} (hr : 0 ≤ r ∧ r ≤ 31) (hI : zl_bd I) {t : zwS} (ht : zs_d k a x w v m i N d f r U I = t) : (0 ≤ t.1.2.2.2.2.2 ∧ t.1.2.2.2.2.2 ≤ 31) ∧ zl_bd t.2.2 := by
  unfold zs_d zs_f at ht
  repeat' split at ht
  all_goals subst ht
  all_goals dsimp only
  all_goals try exact ⟨by omega, hI⟩
  rename_i hw _
  have e1 : 0 ≤ zs_r m w r ∧ zs_r m w r ≤ 31 := by
    unfold zs_r
    split <;> omega
  refine ⟨e1, ?_, fun c hc => ?_⟩
  · unfold zw_u
    rw [if_neg (by omega)]
    exact hI.1
  · unfold zw_u
    split
    · unfold zs_v
      split <;> omega
    · exact hI.2 c hc
theorem zs_bd {S : Int → Int} : ∀ j, (0 ≤ (zs_it S j).1.2.2.2.2.2 ∧ (zs_it S j).1.2.2.2.2.2 ≤ 31) ∧ zl_bd (zs_it S j).2.2
  | 0 => by
    refine ⟨⟨by show (0 : Int) ≤ 0; decide, by show (0 : Int) ≤ 31; decide⟩, rfl, fun c hc => ?_⟩
    show 0 ≤ (c : Int) ∧ (c : Int) ≤ 31
    omega
  | j + 1 => by
    obtain ⟨h1, h2⟩ := zs_bd (S := S) j
    have e2 : zs_n S (zs_it S j) = zs_it S (j + 1) := rfl
    unfold zs_n at e2
    exact zs_d_bd h1 h2 e2
theorem zs_re_bd {S : Int → Int} {m i N d f r : Int} {U I : Nat → Int} (h : zs_re S ((m, i, N, d, f, r), U, I)) : zl_bd I := by
  obtain ⟨j, h⟩ := h
  have := (zs_bd (S := S) j).2
  rw [h] at this
  exact this
/-! LISTS: the machine that reads one: 0 a name begins, 1 its dowry, 2 ;, 9 the end, 10 a fault. p: the word that was read, q: its dowry; W: words, D: dowries so far. key: what a word's key is, mx: how many names there may be, dw: 0 without dowries -/
def zj_has (key : Int → Int) (W : Nat → Int) (N k : Int) : Prop := ∃ j : Nat, (j : Int) < N ∧ key (W j) = k
noncomputable def zj_0 (key : Int → Int) (mx dw x a w N : Int) (W D : Nat → Int) : zwS := @ite zwS (zj_has key W N (key w)) (Classical.propDecidable _) (zs_f 3 a W D) (if mx ≤ N then zs_f 4 a W D else ((if dw = 0 then 2 else 1, x, N, w, 0, 0), W, D))
noncomputable def zj_d (key : Int → Int) (mx dw k a x w v m i N p q : Int) (W D : Nat → Int) : zwS :=
  if m = 0 then (if k = 0 then ((9, i, N, 0, 0, 0), W, D) else if k = 1 then zj_0 key mx dw x a w N W D else zs_f 1 a W D)
  else if m = 1 then (if k = 2 then (if 0 ≤ v ∧ v ≤ 9999 then ((2, x, N, p, v, 0), W, D) else zs_f 2 a W D) else zs_f 1 a W D)
  else if m = 2 then (if k = 3 then ((0, x, N + 1, 0, 0, 0), zw_u W N.toNat p, zw_u D N.toNat q) else zs_f 1 a W D)
  else ((m, i, N, p, q, 0), W, D)
noncomputable def zj_n (key : Int → Int) (mx dw : Int) (S : Int → Int) (s : zwS) : zwS := zj_d key mx dw (zt_tok S s.1.2.1).1 (zt_tok S s.1.2.1).2.1 (zt_tok S s.1.2.1).2.2.1 (zt_tok S s.1.2.1).2.2.2.1 (zt_tok S s.1.2.1).2.2.2.2 s.1.1 s.1.2.1 s.1.2.2.1 s.1.2.2.2.1 s.1.2.2.2.2.1 s.2.1 s.2.2
noncomputable def zj_it (key : Int → Int) (mx dw : Int) (S : Int → Int) : Nat → zwS
  | 0 => ((0, 0, 0, 0, 0, 0), fun _ => 0, fun _ => 0)
  | j + 1 => zj_n key mx dw S (zj_it key mx dw S j)
def zj_re (key : Int → Int) (mx dw : Int) (S : Int → Int) (s : zwS) : Prop := ∃ j, zj_it key mx dw S j = s
section
variable {key : Int → Int} {mx dw : Int} {S : Int → Int}
theorem zj_re0 : zj_re key mx dw S ((0, 0, 0, 0, 0, 0), fun _ => 0, fun _ => 0) := ⟨0, rfl⟩
theorem zj_st {m i N p q k a x w v : Int} {W D : Nat → Int} (h : zj_re key mx dw S ((m, i, N, p, q, 0), W, D)) (g : zt_tk S i k a x w v) : zj_re key mx dw S (zj_d key mx dw k a x (zt_p1 k w) (zt_p2 k v) m i N p q W D) := by
  obtain ⟨j, h⟩ := h
  refine ⟨j + 1, ?_⟩
  show zj_n key mx dw S (zj_it key mx dw S j) = _
  rw [h]
  unfold zj_n
  dsimp only
  rw [zt_tok_of g]
theorem zj_end {s : zwS} (hs : zj_n key mx dw S s = s) {j : Nat} (h : zj_it key mx dw S j = s) : ∀ d, zj_it key mx dw S (j + d) = s
  | 0 => h
  | d + 1 => by
    show zj_n key mx dw S (zj_it key mx dw S (j + d)) = s
    rw [zj_end hs h d, hs]
theorem zj_one {s t : zwS} (h : zj_re key mx dw S s) (g : zj_re key mx dw S t) (hs : zj_n key mx dw S s = s) (ht : zj_n key mx dw S t = t) : s = t := by
  obtain ⟨j, h⟩ := h
  obtain ⟨l, g⟩ := g
  rcases Nat.le_total j l with z | z
  · have := zj_end hs h (l - j)
    rw [show j + (l - j) = l by omega, g] at this
    exact this.symm
  · have := zj_end ht g (j - l)
    rw [show l + (j - l) = j by omega, h] at this
    exact this
theorem zj_n_end {m i N p q : Int} {W D : Nat → Int} (h : 9 ≤ m) : zj_n key mx dw S ((m, i, N, p, q, 0), W, D) = ((m, i, N, p, q, 0), W, D) := by
  unfold zj_n
  dsimp only
  unfold zj_d
  rw [if_neg (by omega), if_neg (by omega), if_neg (by omega)]
/-- what is answered: names, or -1 -/
def zj_rs (key : Int → Int) (mx dw : Int) (S : Int → Int) (r : Int) : Prop := (∃ i W D, zj_re key mx dw S ((9, i, r, 0, 0, 0), W, D)) ∨ (r = -1 ∧ ∃ kd a W D, zj_re key mx dw S (zs_f kd a W D))
theorem zj_rs_eq {r q : Int} (h : zj_rs key mx dw S r) (g : zj_rs key mx dw S q) : r = q := by
  rcases h with ⟨i, W, D, h⟩ | ⟨e, kd, a, W, D, h⟩ <;> rcases g with ⟨i1, W1, D1, g⟩ | ⟨e1, kd1, a1, W1, D1, g⟩
  · have := zj_one h g (zj_n_end (by decide)) (zj_n_end (by decide))
    exact congrArg (fun s : zwS => s.1.2.2.1) this
  · have := congrArg (fun s : zwS => s.1.1) (zj_one h g (zj_n_end (by decide)) (zj_n_end (by decide)))
    have this : (9 : Int) = 10 := this
    omega
  · have := congrArg (fun s : zwS => s.1.1) (zj_one h g (zj_n_end (by decide)) (zj_n_end (by decide)))
    have this : (10 : Int) = 9 := this
    omega
  · omega
/-! the machine's steps -/
variable {k a x u y i N p q : Int} {W D : Nat → Int}
theorem zj_d00 : zj_d key mx dw 0 a x u y 0 i N p q W D = ((9, i, N, 0, 0, 0), W, D) := by
  unfold zj_d
  rw [if_pos rfl, if_pos rfl]
theorem zj_d01 (h0 : k ≠ 0) (h1 : k ≠ 1) : zj_d key mx dw k a x u y 0 i N p q W D = zs_f 1 a W D := by
  unfold zj_d
  rw [if_pos rfl, if_neg h0, if_neg h1]
theorem zj_d03 (h1 : k = 1) (h : zj_has key W N (key u)) : zj_d key mx dw k a x u y 0 i N p q W D = zs_f 3 a W D := by
  unfold zj_d zj_0
  rw [if_pos rfl, if_neg (by omega), if_pos h1, if_pos h]
theorem zj_d04 (h1 : k = 1) (h : ¬ zj_has key W N (key u)) (h2 : mx ≤ N) : zj_d key mx dw k a x u y 0 i N p q W D = zs_f 4 a W D := by
  unfold zj_d zj_0
  rw [if_pos rfl, if_neg (by omega), if_pos h1, if_neg h, if_pos h2]
theorem zj_d0n (h1 : k = 1) (h : ¬ zj_has key W N (key u)) (h2 : ¬ mx ≤ N) : zj_d key mx dw k a x u y 0 i N p q W D = ((if dw = 0 then 2 else 1, x, N, u, 0, 0), W, D) := by
  unfold zj_d zj_0
  rw [if_pos rfl, if_neg (by omega), if_pos h1, if_neg h, if_neg h2]
theorem zj_d1k (h1 : k ≠ 2) : zj_d key mx dw k a x u y 1 i N p q W D = zs_f 1 a W D := by
  unfold zj_d
  rw [if_neg (by decide), if_pos rfl, if_neg h1]
theorem zj_d1v (h1 : k = 2) (h2 : ¬ (0 ≤ y ∧ y ≤ 9999)) : zj_d key mx dw k a x u y 1 i N p q W D = zs_f 2 a W D := by
  unfold zj_d
  rw [if_neg (by decide), if_pos rfl, if_pos h1, if_neg h2]
theorem zj_d1n (h1 : k = 2) (h2 : 0 ≤ y ∧ y ≤ 9999) : zj_d key mx dw k a x u y 1 i N p q W D = ((2, x, N, p, y, 0), W, D) := by
  unfold zj_d
  rw [if_neg (by decide), if_pos rfl, if_pos h1, if_pos h2]
theorem zj_d2k (h1 : k ≠ 3) : zj_d key mx dw k a x u y 2 i N p q W D = zs_f 1 a W D := by
  unfold zj_d
  rw [if_neg (by decide), if_neg (by decide), if_pos rfl, if_neg h1]
theorem zj_d2n (h1 : k = 3) : zj_d key mx dw k a x u y 2 i N p q W D = ((0, x, N + 1, 0, 0, 0), zw_u W N.toNat p, zw_u D N.toNat q) := by
  unfold zj_d
  rw [if_neg (by decide), if_neg (by decide), if_pos rfl, if_pos h1]
end
/-- a word's key, by what its letters stand for -/
def zl_G (I : Nat → Int) : Nat → Int := fun c => if c ≤ 26 then I c else 0
def zl_kf (I : Nat → Int) (d m : Int) : Int → Int := fun w => (zl_q (zl_G I) d m w 10).1
theorem zl_kf_eq {I J : Nat → Int} {d m : Int} (h : ∀ c : Nat, c ≤ 26 → I c = J c) : zl_kf I d m = zl_kf J d m := by
  have e : zl_G I = zl_G J := funext fun c => by
    unfold zl_G
    by_cases z : c ≤ 26
    · rw [if_pos z, if_pos z, h c z]
    · rw [if_neg z, if_neg z]
  unfold zl_kf
  rw [e]
theorem zl_kf_w {I : Nat → Int} {d m w : Int} (hw : zl_wd w) : (zl_q I d m w 10).1 = zl_kf I d m w := by
  unfold zl_kf
  rw [zl_q_eq (J := zl_G I) (fun c hc => by
    unfold zl_G
    rw [if_pos hc]) hw.2.2]
theorem zl_tk1 {S : Int → Int} {i a x w v : Int} (hq : zt_tk S i (zt_ks 1) a x w v) : zl_wd w := by
  have hq : zt_tk S i 1 a x w v := hq
  rcases hq.2.2.2 with ⟨g0, -⟩ | ⟨-, g1, g2, g3, g4, g5⟩ | ⟨g0, -⟩ | ⟨g0, -⟩ | ⟨g0, -⟩ | ⟨g0, -⟩ | ⟨g0, -⟩
  · omega
  · refine zl_wd_of (S := S) (a := a) (s := x - a) ⟨by omega, by omega, ?_, ?_, g5⟩
    · rw [show a + (x - a) = x by omega]
      exact g2
    · rw [show a + (x - a) = x by omega]
      exact g3
  · omega
  · omega
  · omega
  · omega
  · omega
/-! LISTS that the law keeps -/
theorem zl_tokw {S : Int → Int} {i : Int} (h : (zt_tok S i).1 = 1) : zl_wd (zt_tok S i).2.2.2.1 := by
  by_cases hx : ∃ q : Int × Int × Int × Int × Int, zt_tk S i q.1 q.2.1 q.2.2.1 q.2.2.2.1 q.2.2.2.2
  · obtain ⟨⟨k, a, x, w, v⟩, hq⟩ := hx
    have hq : zt_tk S i k a x w v := hq
    rw [zt_tok_of hq] at h ⊢
    have h : k = 1 := h
    show zl_wd (zt_p1 k w)
    subst h
    exact zl_tk1 hq
  · exfalso
    unfold zt_tok at h
    rw [dif_neg hx] at h
    exact absurd h (by decide)
/-- words that were read are words -/
def zj_ok (s : zwS) : Prop := s.1.1 ≤ 9 → (s.1.1 = 1 ∨ s.1.1 = 2 → zl_wd s.1.2.2.2.1) ∧ 0 ≤ s.1.2.2.1 ∧ ∀ j : Nat, (j : Int) < s.1.2.2.1 → zl_wd (s.2.1 j)
theorem zj_ok_f {kd a : Int} {W D : Nat → Int} : zj_ok (zs_f kd a W D) := by
  intro h
  have h : (10 : Int) ≤ 9 := h
  omega
theorem zj_ok_d {key : Int → Int} {mx dw k a x u v m i N p q : Int} {W D : Nat → Int} (hu : k = 1 → zl_wd u) (h : zj_ok ((m, i, N, p, q, 0), W, D)) : zj_ok (zj_d key mx dw k a x u v m i N p q W D) := by
  unfold zj_d zj_0
  by_cases e0 : m = 0
  · obtain ⟨-, h2, h3⟩ := h (by show m ≤ 9; omega)
    rw [if_pos e0]
    by_cases e1 : k = 0
    · rw [if_pos e1]
      exact fun _ => ⟨fun z => (by rcases z with z | z <;> exact absurd (show (9 : Int) = _ from z) (by decide)), h2, h3⟩
    · rw [if_neg e1]
      by_cases e2 : k = 1
      · rw [if_pos e2]
        split
        · exact zj_ok_f
        · split
          · exact zj_ok_f
          · exact fun _ => ⟨fun _ => hu e2, h2, h3⟩
      · rw [if_neg e2]
        exact zj_ok_f
  · rw [if_neg e0]
    by_cases e1 : m = 1
    · obtain ⟨h1, h2, h3⟩ := h (by show m ≤ 9; omega)
      rw [if_pos e1]
      split
      · split
        · exact fun _ => ⟨fun _ => h1 (Or.inl e1), h2, h3⟩
        · exact zj_ok_f
      · exact zj_ok_f
    · rw [if_neg e1]
      by_cases e2 : m = 2
      · obtain ⟨h1, h2, h3⟩ := h (by show m ≤ 9; omega)
        have h1 : zl_wd p := h1 (Or.inr e2)
        have h2 : 0 ≤ N := h2
        rw [if_pos e2]
        split
        · refine fun _ => ⟨fun z => (by rcases z with z | z <;> exact absurd (show (0 : Int) = _ from z) (by decide)), ?_, fun j hj => ?_⟩
          · show 0 ≤ N + 1
            omega
          · have hj : (j : Int) < N + 1 := hj
            show zl_wd (zw_u W N.toNat p j)
            unfold zw_u
            split
            · exact h1
            · exact h3 j (by show (j : Int) < N; omega)
        · exact zj_ok_f
      · rw [if_neg e2]
        exact h
theorem zj_ok_it {key : Int → Int} {mx dw : Int} {S : Int → Int} : ∀ j, zj_ok (zj_it key mx dw S j)
  | 0 => fun _ => ⟨fun z => (by rcases z with z | z <;> exact absurd (show (0 : Int) = _ from z) (by decide)), Int.le_refl 0, fun j hj => by
    have hj : (j : Int) < 0 := hj
    omega⟩
  | j + 1 => by
    have ih := zj_ok_it (key := key) (mx := mx) (dw := dw) (S := S) j
    show zj_ok (zj_n key mx dw S (zj_it key mx dw S j))
    unfold zj_n
    generalize zj_it key mx dw S j = s at ih
    refine zj_ok_d (fun hk => zl_tokw hk) ?_
    intro h9
    exact ih h9
theorem zj_wd {key : Int → Int} {mx dw i N : Int} {S : Int → Int} {W D : Nat → Int} (h : zj_re key mx dw S ((9, i, N, 0, 0, 0), W, D)) : ∀ j : Nat, (j : Int) < N → zl_wd (W j) := by
  obtain ⟨j, h⟩ := h
  have := zj_ok_it (key := key) (mx := mx) (dw := dw) (S := S) j
  rw [h] at this
  exact (this (show (9 : Int) ≤ 9 from Int.le_refl 9)).2.2
theorem zl_kf_bd {I : Nat → Int} {d m w : Int} (hI : zl_bd I) (hw : zl_wd w) (h0 : 0 ≤ m) (h10 : m ≤ 10) : 0 ≤ zl_kf I d m w ∧ zl_kf I d m w ≤ 1125899906842623 := by
  rw [← zl_kf_w hw]
  have g := zl_q_gd (d := d) hI hw h0 10
  have l := zl_q_le (I := I) (d := d) (w := w) h0 10
  have b := zl_gd_lt g
  have n := zl_gd_nn g
  have q50 := zt_pow_mono (m := (zl_q I d m w 10).2.1.toNat) (n := 10) (by omega)
  rw [show (32 : Int) ^ 10 = 1125899906842624 by decide] at q50
  generalize (32 : Int) ^ (zl_q I d m w 10).2.1.toNat = y32 at b q50
  exact ⟨n, by omega⟩
/-! NUMBERS of keys: v is 7 modulo m at first, then letter by letter -/
def zu_s (m l v : Int) : Int := if l = 0 then v else (31 * v + l) % m
def zu_n (m k : Int) : Nat → Int
  | 0 => 7 % m
  | j + 1 => zu_s m (zl_dg k (9 - j)) (zu_n m k j)
theorem zu_md {v m l : Int} : (31 * v + l) % m = (31 * (v % m) + l) % m := by
  rw [Int.add_emod (31 * v), Int.mul_emod 31 v, Int.add_emod (31 * (v % m)), Int.mul_emod 31 (v % m), Int.emod_emod]
/-! NEAR: pairs of alike keys of words that are not alike -/
def zu_c1 (K W K' W' : Nat → Int) (i : Nat) : Nat → Int
  | 0 => 0
  | j + 1 => zu_c1 K W K' W' i j + (if K i = K' j ∧ W i ≠ W' j then 1 else 0)
def zu_c (K W K' W' : Nat → Int) (n : Nat) : Nat → Int
  | 0 => 0
  | i + 1 => zu_c K W K' W' n i + zu_c1 K W K' W' i n
section
variable {K W K' W' A B A' B' : Nat → Int}
theorem zu_c1_bd {i : Nat} : ∀ j : Nat, 0 ≤ zu_c1 K W K' W' i j ∧ zu_c1 K W K' W' i j ≤ j
  | 0 => ⟨Int.le_refl 0, Int.le_refl 0⟩
  | j + 1 => by
    have ih := zu_c1_bd (i := i) j
    show 0 ≤ zu_c1 K W K' W' i j + _ ∧ zu_c1 K W K' W' i j + _ ≤ ((j + 1 : Nat) : Int)
    split <;> omega
theorem zu_c_bd {n : Nat} (h : n ≤ 40) : ∀ i : Nat, 0 ≤ zu_c K W K' W' n i ∧ zu_c K W K' W' n i ≤ 40 * (i : Int)
  | 0 => ⟨Int.le_refl 0, Int.le_refl 0⟩
  | i + 1 => by
    have ih := zu_c_bd h i
    have b := zu_c1_bd (K := K) (W := W) (K' := K') (W' := W') (i := i) n
    show 0 ≤ zu_c K W K' W' n i + zu_c1 K W K' W' i n ∧ zu_c K W K' W' n i + zu_c1 K W K' W' i n ≤ 40 * ((i + 1 : Nat) : Int)
    omega
theorem zu_c1_eq {i n : Nat} (h0 : K i = A i ∧ W i = B i) (h1 : ∀ j : Nat, j < n → K' j = A' j ∧ W' j = B' j) : ∀ j : Nat, j ≤ n → zu_c1 K W K' W' i j = zu_c1 A B A' B' i j
  | 0, _ => rfl
  | j + 1, hj => by
    show zu_c1 K W K' W' i j + _ = zu_c1 A B A' B' i j + _
    rw [zu_c1_eq h0 h1 j (by omega), h0.1, h0.2, (h1 j (by omega)).1, (h1 j (by omega)).2]
theorem zu_c_eq {n m : Nat} (h0 : ∀ i : Nat, i < m → K i = A i ∧ W i = B i) (h1 : ∀ j : Nat, j < n → K' j = A' j ∧ W' j = B' j) : ∀ i : Nat, i ≤ m → zu_c K W K' W' n i = zu_c A B A' B' n i
  | 0, _ => rfl
  | i + 1, hi => by
    show zu_c K W K' W' n i + zu_c1 K W K' W' i n = zu_c A B A' B' n i + zu_c1 A B A' B' i n
    rw [zu_c_eq h0 h1 i (by omega), zu_c1_eq (h0 i (by omega)) h1 n (Nat.le_refl n)]
theorem zu_c1_no {i j : Nat} (h : K i ≠ K' j ∨ W i = W' j) : zu_c1 K W K' W' i (j + 1) = zu_c1 K W K' W' i j := by
  show zu_c1 K W K' W' i j + _ = _
  rw [if_neg (fun z => h.elim (fun y => y z.1) (fun y => z.2 y)), Int.add_zero]
theorem zu_c1_ye {i j : Nat} (h1 : K i = K' j) (h2 : W i ≠ W' j) : zu_c1 K W K' W' i (j + 1) = zu_c1 K W K' W' i j + 1 := by
  show zu_c1 K W K' W' i j + _ = _
  rw [if_pos ⟨h1, h2⟩]
end
/-! THROWN: the bits of a number, the row of a list -/
def zu_b (x m : Int) (j : Nat) : Nat := ((x * (2 * (j : Int) + 3) + (j : Int)) % m).toNat
def zu_bs (x m : Int) : Nat → Nat
  | 0 => 0
  | j + 1 => zu_bs x m j ||| 2 ^ zu_b x m j
def zu_r (X : Nat → Int) (m : Int) (h : Nat) : Nat → Nat
  | 0 => 0
  | i + 1 => zu_r X m h i ||| zu_bs (X i) m h
theorem zu_62 : (2 : Nat) ^ 62 = 4611686018427387904 := by decide
section
variable {x m : Int} {X Y : Nat → Int} {h : Nat}
theorem zu_b_lt (h1 : 1 ≤ m) (h2 : m ≤ 62) (j : Nat) : zu_b x m j < 62 := by
  have a := Int.emod_nonneg (x * (2 * (j : Int) + 3) + (j : Int)) (show m ≠ 0 by omega)
  have b := Int.emod_lt_of_pos (x * (2 * (j : Int) + 3) + (j : Int)) (show 0 < m by omega)
  unfold zu_b
  omega
theorem zu_p_lt {t : Nat} (h : t < 62) : 2 ^ t < 2 ^ 62 := Nat.pow_lt_pow_right (by decide) h
theorem zu_bs_lt (h1 : 1 ≤ m) (h2 : m ≤ 62) : ∀ j : Nat, zu_bs x m j < 2 ^ 62
  | 0 => Nat.two_pow_pos 62
  | j + 1 => Nat.or_lt_two_pow (zu_bs_lt h1 h2 j) (zu_p_lt (zu_b_lt h1 h2 j))
theorem zu_r_lt (h1 : 1 ≤ m) (h2 : m ≤ 62) : ∀ i : Nat, zu_r X m h i < 2 ^ 62
  | 0 => Nat.two_pow_pos 62
  | i + 1 => Nat.or_lt_two_pow (zu_r_lt h1 h2 i) (zu_bs_lt h1 h2 h)
theorem zu_r_eq {n : Nat} (e : ∀ i : Nat, i < n → X i = Y i) : ∀ i : Nat, i ≤ n → zu_r X m h i = zu_r Y m h i
  | 0, _ => rfl
  | i + 1, hi => by
    show zu_r X m h i ||| zu_bs (X i) m h = zu_r Y m h i ||| zu_bs (Y i) m h
    rw [zu_r_eq e i (by omega), e i (by omega)]
theorem zu_n_bd {k : Int} (hm : 4 ≤ m) : ∀ j : Nat, 0 ≤ zu_n m k j ∧ zu_n m k j < m
  | 0 => ⟨Int.emod_nonneg _ (by omega), Int.emod_lt_of_pos _ (by omega)⟩
  | j + 1 => by
    have ih := zu_n_bd (k := k) hm j
    show 0 ≤ zu_s m (zl_dg k (9 - j)) (zu_n m k j) ∧ zu_s m (zl_dg k (9 - j)) (zu_n m k j) < m
    unfold zu_s
    split
    · exact ih
    · exact ⟨Int.emod_nonneg _ (by omega), Int.emod_lt_of_pos _ (by omega)⟩
end
theorem zb_1s : ∀ n : Nat, n < 62 → (Int64.ofInt 1 <<< ((Int32.ofInt (n : Int)).toInt64 &&& 63)).toInt = ((2 ^ n : Nat) : Int) := by decide +kernel
theorem zm_43s {r b : Int} (h : zrn 43 1 r b) (h0 : 0 ≤ r) (h1 : r < 62) (h4 : -9223372036854775808 ≤ b) (h5 : b ≤ 9223372036854775807) : b = ((2 ^ r.toNat : Nat) : Int) := by
  have h : some (Value.long (Int64.ofInt 1 <<< ((Int32.ofInt r).toInt64 &&& 63))) = some (Value.long (Int64.ofInt b)) := h
  have h := Value.long.inj (Option.some.inj h)
  have e := zb_1s r.toNat (by omega)
  rw [show ((r.toNat : Nat) : Int) = r by omega] at e
  have e4 := congrArg Int64.toInt h
  rw [zk_i64 h4 h5, e] at e4
  exact e4.symm
theorem zm_42o {z c w : Int} (h : zrn 42 z c w) (z0 : 0 ≤ z) (z1 : z < 4611686018427387904) (c0 : 0 ≤ c) (c1 : c < 4611686018427387904) (h4 : -9223372036854775808 ≤ w) (h5 : w ≤ 9223372036854775807) : w = ((z.toNat ||| c.toNat : Nat) : Int) := by
  have h : some (Value.long (Int64.ofInt z ||| Int64.ofInt c)) = some (Value.long (Int64.ofInt w)) := h
  have h := Value.long.inj (Option.some.inj h)
  have e5 : (Int64.ofInt z ||| Int64.ofInt c).toBitVec.toNat = z.toNat ||| c.toNat := by
    rw [Int64.toBitVec_or, BitVec.toNat_or, zb64 (by omega) (by omega), zb64 (by omega) (by omega)]
  have lt : z.toNat ||| c.toNat < 2 ^ 62 := Nat.or_lt_two_pow (by rw [zu_62]; omega) (by rw [zu_62]; omega)
  rw [zu_62] at lt
  have e4 := congrArg Int64.toInt h
  rw [zk_i64 h4 h5, zb64i (by rw [e5]; omega), e5] at e4
  exact e4.symm
/-- one more bit -/
theorem zu_or {a b w z c : Int} {p t : Nat} (h : zrn 42 w z c) (hw : w = ((p : Nat) : Int)) (hp : p < 2 ^ 62) (hz : z = ((t : Nat) : Int)) (ht : t < 2 ^ 62) (h4 : -9223372036854775808 ≤ c) (h5 : c ≤ 9223372036854775807) : c = ((p ||| t : Nat) : Int) := by
  rw [zu_62] at hp ht
  have e := zm_42o h (by omega) (by omega) (by omega) (by omega) h4 h5
  rw [e, hw, hz, Int.toNat_natCast, Int.toNat_natCast]
/-- the place of a bit -/
theorem zu_pl {x m j a z y r : Int} (hx0 : 0 ≤ x) (hx1 : x ≤ 2147483647) (hj0 : 0 ≤ j) (hj1 : j ≤ 5) (hm1 : 1 ≤ m) (hm2 : m ≤ 62) (ha : zrec 27 2 j a) (hz : zrec 22 x (a + 3) z) (hy : zrn 46 z j y) (hr : zrec 24 y m r) (a1 : -2147483648 ≤ a ∧ a ≤ 2147483647) (z1 : -9223372036854775808 ≤ z ∧ z ≤ 9223372036854775807) (y1 : -9223372036854775808 ≤ y ∧ y ≤ 9223372036854775807) (r1 : -9223372036854775808 ≤ r ∧ r ≤ 9223372036854775807) : r = ((zu_b x m j.toNat : Nat) : Int) := by
  have e1 := zm_27 ha (by omega) (by omega) a1.1 a1.2
  have g0 : 0 ≤ x * (a + 3) := Int.mul_nonneg hx0 (by omega)
  have g1 : x * (a + 3) ≤ 2147483647 * 13 := Int.mul_le_mul hx1 (by omega) (by omega) (by decide)
  have e2 := zm_22 hz (by omega) (by omega) z1.1 z1.2
  have e3 := zm_46 hy (by omega) (by omega) y1.1 y1.2
  have e4 := zm_24 hr (by omega) (by omega) (by omega) (by omega) r1.1 r1.2
  have n0 := Int.emod_nonneg y (show m ≠ 0 by omega)
  have eb : zu_b x m j.toNat = r.toNat := by
    unfold zu_b
    rw [show ((j.toNat : Nat) : Int) = j by omega, e4, e3, e2, e1]
  rw [eb]
  omega
def zPT (j : Nat) (vs : List Int) : Prop :=
  if j = 220 then ∃ kd0 k0 kd1 k1 p x : Int, vs = [kd0, k0, kd1, k1, p, x] ∧ ∀ y : Int, 1 ≤ y → y < x → zn_cm kd0 k0 kd1 k1 p y
  else if j = 221 then ∃ kd0 k0 kd1 k1 p l : Int, vs = [kd0, k0, kd1, k1, p, l] ∧ ((∀ y : Int, 1 ≤ y → y ≤ l → zn_cm kd0 k0 kd1 k1 p y) → ∀ y : Int, 1 ≤ y → y < p → zn_cm kd0 k0 kd1 k1 p y)
  else if j = 222 ∨ j = 223 then ∃ kd0 k0 kd1 k1 p r : Int, vs = [kd0, k0, kd1, k1, p, r] ∧ zn_un kd0 k0 kd1 k1 p r
  else if j = 180 then ∃ n c w : Int, vs = [n, c, w] ∧ 0 ≤ c ∧ w = (zch n.toNat c.toNat : Int)
  else if j = 181 then ∃ n i w : Int, vs = [n, i, w] ∧ 0 ≤ i ∧ w = (zb n.toNat i.toNat : Int)
  else if j = 182 then ∃ n k i w : Int, vs = [n, k, i, w] ∧ 1 ≤ i ∧ w = (zrw (n - k).toNat (i - 1).toNat : Int)
  else if j = 183 then ∃ n f c h : Int, vs = [n, f, c, h] ∧ h = (zht n.toNat f.toNat c.toNat : Int)
  else if j = 191 ∨ j = 195 then ∃ n f c q : Int, vs = [n, f, c, q] ∧ q = ((zht n.toNat f.toNat c.toNat / zgq n.toNat f.toNat c.toNat : Nat) : Int)
  else if j = 192 ∨ j = 196 then ∃ n f c q : Int, vs = [n, f, c, q] ∧ q = ((zch n.toNat c.toNat / zgq n.toNat f.toNat c.toNat : Nat) : Int)
  else if j = 193 then ∃ n f a b c : Int, vs = [n, f, a, b, c] ∧ ∀ x : Nat, (x : Int) < c → ¬ zsat n f a b x
  else if j = 194 ∨ j = 198 then ∃ n f a b c : Int, vs = [n, f, a, b, c] ∧ (0 ≤ c ∧ c ≤ n) ∧ zsat n f a b c.toNat ∧ ∀ x : Nat, (x : Int) < c → ¬ zsat n f a b x
  else if j = 199 ∨ j = 200 then ∃ n f a b : Int, vs = [n, f, a, b] ∧ ∀ x : Nat, (x : Int) ≤ n → ¬ zsat n f a b x
  else if j = 230 then ∃ kd k p x r : Int, vs = [kd, k, p, x, r] ∧ r = zn_t kd k p x
  else if j = 242 then ∃ x k m t a q : Int, vs = [x, k, m, t, a, q] ∧ (0 ≤ t ∧ 0 ≤ a ∧ a < m ∧ 0 ≤ q) ∧ a.toNat * q.toNat ^ (k.toNat / 2 ^ t.toNat) % m.toNat = x.toNat ^ k.toNat % m.toNat
  else if j = 243 then ∃ x k m e a q : Int, vs = [x, k, m, e, a, q] ∧ (0 ≤ e ∧ 0 ≤ a ∧ a < m ∧ 0 ≤ q) ∧ a.toNat * q.toNat ^ e.toNat % m.toNat = x.toNat ^ k.toNat % m.toNat
  else if j = 245 then ∃ x k m r : Int, vs = [x, k, m, r] ∧ 0 ≤ r ∧ r.toNat = x.toNat ^ k.toNat % m.toNat
  else if j = 246 then ∃ x y m r : Int, vs = [x, y, m, r] ∧ r = x * y % m
  else if j = 247 then ∃ x k p r : Int, vs = [x, k, p, r] ∧ r = (if p - 1 < x + k then x + k - (p - 1) else x + k)
  else if j = 241 then ∃ k n r : Int, vs = [k, n, r] ∧ r = zn_iv k n
  else if j = 250 then ∃ k n a b x y t : Int, vs = [k, n, a, b, x, y, t] ∧ zn_e k n a b x y ∧ 0 ≤ t ∧ (t = 0 ∨ b < a) ∧ a.toNat * b.toNat * 2 ^ t.toNat ≤ 1267650600228229401496703205376
  else if j = 253 then ∃ k n a b x y : Int, vs = [k, n, a, b, x, y] ∧ zn_e k n a b x y
  else if j = 251 then ∃ k n x : Int, vs = [k, n, x] ∧ (1 ≤ k ∧ k < n) ∧ zg k n = 1 ∧ n ∣ k * x - 1 ∧ -n < x ∧ x < n
  else if j = 252 then ∃ x y r : Int, vs = [x, y, r] ∧ 0 ≤ r ∧ r < y ∧ ∃ c : Int, r = x + c * y
  else if j = 254 then ∃ kd k p x r : Int, vs = [kd, k, p, x, r] ∧ r = zn_u kd k p x
  else if j = 248 ∨ j = 249 then ∃ s kd0 k0 p0 kd1 k1 p1 x bk r : Int, vs = [s, kd0, k0, p0, kd1, k1, p1, x, bk, r] ∧ r = zn_td s kd0 k0 p0 kd1 k1 p1 x bk
  else if j = 201 ∨ j = 202 then ∃ n f c w r : Int, vs = [n, f, c, w, r] ∧ r = zn_ca n f c w
  else if j = 203 ∨ j = 204 then ∃ n f a b r : Int, vs = [n, f, a, b, r] ∧ zn_op n f a b r
  else if j = 217 then ∃ kd k p r : Int, vs = [kd, k, p, r] ∧ r = zn_fx kd k p
  else if j = 178 ∨ j = 179 then ∃ s kd0 k0 p0 kd1 k1 p1 r : Int, vs = [s, kd0, k0, p0, kd1, k1, p1, r] ∧ r = (if s = 0 then zn_fx kd0 k0 p0 else if s = 1 then zn_fx kd1 k1 p1 else -2)
  else if j = 210 ∨ j = 211 ∨ j = 212 then ∃ kd k p : Int, vs = [kd, k, p] ∧ zn_al kd k p
  else if j = 215 then ∃ kd k p : Int, vs = [kd, k, p] ∧ ¬ zn_al kd k p
  else if j = 214 then ∃ s kd k p : Int, vs = [s, kd, k, p] ∧ (s = 0 ∨ s = 1) ∧ zn_al kd k p
  else if j = 213 then ∃ s kd k p : Int, vs = [s, kd, k, p] ∧ ¬ ((s = 0 ∨ s = 1) ∧ zn_al kd k p)
  else if j = 224 then ∃ k c : Int, vs = [k, c] ∧ (k ≠ c)
  else if j = 225 then ∃ b : Int, vs = [b] ∧ (¬ zt_bl b)
  else if j = 226 then ∃ b : Int, vs = [b] ∧ (¬ zt_sm b)
  else if j = 227 then ∃ b : Int, vs = [b] ∧ (¬ zt_dg b)
  else if j = 228 then ∃ b : Int, vs = [b] ∧ (zt_bl b)
  else if j = 229 then ∃ q j c : Int, vs = [q, j, c] ∧ (zt_ch q j = c)
  else if j = 231 then ∃ q l : Int, vs = [q, l] ∧ (zt_ln q = l)
  else if j = 232 then ∃ w q : Int, vs = [w, q] ∧ (w = zt_kw q)
  else if j = 233 then ∃ w q : Int, vs = [w, q] ∧ (w ≠ zt_kw q)
  else if j = 234 then ∃ w m : Int, vs = [w, m] ∧ (∀ q : Int, 0 ≤ q → q < m → w ≠ zt_kw q)
  else if j = 235 then ∃ w key : Int, vs = [w, key] ∧ ((0 ≤ key ∧ key < 14 ∧ w = zt_kw key) ∨ (key = -1 ∧ ∀ q : Int, 0 ≤ q → q < 14 → w ≠ zt_kw q))
  else if j = 236 then ∃ k w ac : Int, vs = [k, w, ac] ∧ (k = 1 ∧ zt_acw w = ac)
  else if j = 237 then ∃ k w : Int, vs = [k, w] ∧ (¬ (k = 1 ∧ 0 ≤ zt_acw w))
  else if j = 257 then ∃ so w r : Int, vs = [so, w, r] ∧ (r = (if so = 1 ∧ w < 32 then w - 1 else -1))
  else if j = 238 then ∃ k v lo hi fk : Int, vs = [k, v, lo, hi, fk] ∧ ((k ≠ 2 ∧ fk = 1) ∨ (k = 2 ∧ (v < lo ∨ hi < v) ∧ fk = 2))
  else if j = 239 then ∃ k w q : Int, vs = [k, w, q] ∧ (k = 1 ∧ w = zt_kw q)
  else if j = 240 then ∃ k w q : Int, vs = [k, w, q] ∧ (¬ (k = 1 ∧ w = zt_kw q))
  else if j = 255 then ∃ a e s : Int, vs = [a, e, s] ∧ (s = e - a)
  else if j = 259 then ∃ o q : Int, vs = [o, q] ∧ (o ≠ q)
  else if j = 258 then ∃ x L : Int, vs = [x, L] ∧ (x = L)
  else if j = 256 then ∃ k w r : Int, vs = [k, w, r] ∧ (r = (if k = 1 ∧ w < 32 then w else 0))
  else if j = 262 then ∃ k t : Int, vs = [k, t] ∧ (∃ u : Nat, t = u ∧ u ≤ 10 ∧ zl_gd u k)
  else if j = 263 then ∃ w : Int, vs = [w] ∧ (zl_wd w)
  else if j = 265 then ∃ w s c : Int, vs = [w, s, c] ∧ (0 ≤ w ∧ c = ((w.toNat / 2 ^ s.toNat % 32 : Nat) : Int))
  else if j = 266 then ∃ k s n : Int, vs = [k, s, n] ∧ (∃ t j : Nat, zl_gd t k ∧ t ≤ 10 ∧ j ≤ 10 ∧ s = 45 - 5 * (j : Int) ∧ n = (if 10 ≤ t + j then (t : Int) + j - 10 else 0))
  else if j = 267 then ∃ k l n : Int, vs = [k, l, n] ∧ (0 ≤ n ∧ n ≤ 10 ∧ ∃ t u : Nat, t ≤ 10 ∧ zl_gd t k ∧ zl_gd u l ∧ (t : Int) = n + u)
  else if j = 268 then ∃ f g : Int, vs = [f, g] ∧ (g = zs_g f)
  else if j = 261 then ∃ o q : Int, vs = [o, q] ∧ (o ≠ q)
  else if j = 269 then ∃ k m s v : Int, vs = [k, m, s, v] ∧ (∃ c : Nat, s = 45 - 5 * (c : Int) ∧ c ≤ 10 ∧ 0 ≤ k ∧ 1 ≤ m ∧ v % m = zu_n m k c)
  else if j = 270 then ∃ k m r : Int, vs = [k, m, r] ∧ (r = 1 + zu_n m k 10)
  else if j = 271 then ∃ x m j w : Int, vs = [x, m, j, w] ∧ (1 ≤ m ∧ m ≤ 62 ∧ 0 ≤ x ∧ x ≤ 2147483647 ∧ 0 ≤ j ∧ w = ((zu_bs x m j.toNat : Nat) : Int))
  else if j = 272 then ∃ x j m r : Int, vs = [x, j, m, r] ∧ (0 ≤ x ∧ 1 ≤ m ∧ m ≤ 62 ∧ 0 ≤ j ∧ r = ((zu_b x m j.toNat : Nat) : Int))
  else if j = 273 then ∃ m h : Int, vs = [m, h] ∧ (¬ (1 ≤ m ∧ m ≤ 62 ∧ 1 ≤ h ∧ h ≤ 6))
  else False
def zPR (ua : Nat → Nat) (dI : Nat → Nat → Nat) (j : Nat) (F : Nat → Nat → Int) (vs : List Int) : Prop :=
  if j = 150 then vs = [] ∧ zf_hd ua dI F (fun _ f n => zf_cl f n)
  else if j = 151 then ∃ x c v : Int, vs = [x, c, v] ∧ zf_hd ua dI F (zp_bi x c v)
  else if j = 152 then ∃ x v : Int, vs = [x, v] ∧ zf_hd ua dI F (zp_hw x v)
  else if j = 153 then ∃ x i : Int, vs = [x, i] ∧ 0 ≤ i ∧ zf_hd ua dI F (zp_wk x i.toNat)
  else if j = 154 then ∃ x i n : Int, vs = [x, i, n] ∧ 0 ≤ i ∧ 0 ≤ n ∧ n ≤ 60 ∧ zf_hd ua dI F (zp_wk x (i + 1 + n).toNat)
  else if j = 160 then ∃ n : Int, vs = [n] ∧ zn_pr n
  else if j = 161 then ∃ n : Int, vs = [n] ∧ ¬ zn_pr n
  else if j = 162 then ∃ n d : Int, vs = [n, d] ∧ zn_no n d
  else if j = 164 then ∃ n d : Int, vs = [n, d] ∧ zn_no n d ∧ n % 2 = 1 ∧ d % 2 = 1
  else if j = 170 then ∃ u v a b t : Int, vs = [u, v, a, b, t] ∧ (0 ≤ a ∧ 0 ≤ b ∧ 0 ≤ t) ∧ zg a b = zg u v ∧ (t = 0 ∨ b < a) ∧ a.toNat * b.toNat * 2 ^ t.toNat ≤ 1267650600228229401496703205376
  else if j = 171 then ∃ u v g : Int, vs = [u, v, g] ∧ 0 ≤ g ∧ g.toNat = zg u v
  else if j = 172 then ∃ u v : Int, vs = [u, v] ∧ zg u v = 1
  else if j = 173 then ∃ u v : Int, vs = [u, v] ∧ zg u v ≠ 1
  else if j = 174 then ∃ u v a b : Int, vs = [u, v, a, b] ∧ (0 ≤ a ∧ 0 ≤ b) ∧ zg a b = zg u v
  else zPT j vs
/-- how often a number stands in a row -/
def zc_n (f : Nat → Int) (x : Int) : Nat → Int
  | 0 => 0
  | n + 1 => zc_n f x n + (if f n = x then 1 else 0)
/-- what the changes of a side up to a day do to that -/
def zc_r (sd dy ky cm : Nat → Int) (s d x : Int) : Nat → Int
  | 0 => 0
  | c + 1 => zc_r sd dy ky cm s d x c + (if sd c = s ∧ dy c ≤ d ∧ ky c = x then (if 1 ≤ cm c then 1 else -1) else 0)
theorem zc_n_eq {f g : Nat → Int} {x : Int} : ∀ {n : Nat}, (∀ j, j < n → g j = f j) → zc_n g x n = zc_n f x n
  | 0, _ => rfl
  | n + 1, h => by
    show zc_n g x n + _ = zc_n f x n + _
    rw [zc_n_eq (fun j hj => h j (by omega)), h n (by omega)]
theorem zc_n_zero {f : Nat → Int} {x : Int} : ∀ {n : Nat}, (∀ j, j < n → f j ≠ x) → zc_n f x n = 0
  | 0, _ => rfl
  | n + 1, h => by
    show zc_n f x n + _ = 0
    rw [zc_n_zero (fun j hj => h j (by omega)), if_neg (h n (by omega))]
    rfl
theorem zc_n_nn (f : Nat → Int) (x : Int) : ∀ n, 0 ≤ zc_n f x n
  | 0 => Int.le_refl _
  | n + 1 => by
    have := zc_n_nn f x n
    show 0 ≤ zc_n f x n + _
    split <;> omega
theorem zc_n_ge {f : Nat → Int} {x : Int} {j : Nat} : ∀ {n : Nat}, j < n → f j = x → 1 ≤ zc_n f x n
  | 0, h, _ => by omega
  | n + 1, h, e => by
    show 1 ≤ zc_n f x n + _
    by_cases h' : j < n
    · have := zc_n_ge h' e
      split <;> omega
    · have ej : j = n := by omega
      rw [← ej, if_pos e]
      have := zc_n_nn f x j
      omega
theorem zc_n_upd {f g : Nat → Int} {x y : Int} {p : Nat} (hp : g p = y) (ho : ∀ j, j ≠ p → g j = f j) : ∀ {m : Nat}, p < m → zc_n g x m + (if f p = x then 1 else 0) = zc_n f x m + (if y = x then 1 else 0)
  | 0, h => by omega
  | m + 1, h => by
    show zc_n g x m + (if g m = x then 1 else 0) + _ = zc_n f x m + (if f m = x then 1 else 0) + _
    by_cases h' : p < m
    · have := zc_n_upd (x := x) hp ho h'
      rw [ho m (by omega)]
      omega
    · have e : p = m := by omega
      subst e
      rw [zc_n_eq (g := g) (f := f) (fun j hj => ho j (by omega)), hp]
      omega
theorem zc_n_swap {f g : Nat → Int} {x : Int} {p m : Nat} (hp : g p = f m) (ho : ∀ j, j ≠ p → g j = f j) (h : p ≤ m) : zc_n g x m + (if f p = x then 1 else 0) = zc_n f x (m + 1) := by
  show _ = zc_n f x m + (if f m = x then 1 else 0)
  by_cases h' : p < m
  · exact zc_n_upd hp ho h'
  · have e : p = m := by omega
    subst e
    rw [zc_n_eq (g := g) (f := f) (fun j hj => ho j (by omega))]
theorem zc_r_eq {sd dy ky cm sd' dy' ky' cm' : Nat → Int} {s d x : Int} : ∀ {c : Nat}, (∀ j, j < c → sd' j = sd j ∧ dy' j = dy j ∧ ky' j = ky j ∧ cm' j = cm j) → zc_r sd' dy' ky' cm' s d x c = zc_r sd dy ky cm s d x c
  | 0, _ => rfl
  | c + 1, h => by
    show zc_r sd' dy' ky' cm' s d x c + _ = zc_r sd dy ky cm s d x c + _
    obtain ⟨h1, h2, h3, h4⟩ := h c (by omega)
    rw [zc_r_eq (fun j hj => h j (by omega)), h1, h2, h3, h4]
theorem zc_r_day {sd dy ky cm : Nat → Int} {s d d' x : Int} : ∀ {c : Nat}, (∀ j, j < c → dy j ≤ d ∧ dy j ≤ d') → zc_r sd dy ky cm s d x c = zc_r sd dy ky cm s d' x c
  | 0, _ => rfl
  | c + 1, h => by
    show zc_r sd dy ky cm s d x c + _ = zc_r sd dy ky cm s d' x c + _
    obtain ⟨h1, h2⟩ := h c (by omega)
    rw [zc_r_day (fun j hj => h j (by omega))]
    simp only [h1, h2, true_and]
/-- how often a key stands in a side's list after c changes, those up to a day -/
def zc_t (ua : Nat → Nat) (F : Nat → Nat → Int) (s d : Int) (c : Nat) (x : Int) : Int := zc_n (fun j => F (ua 79) (40 * s.toNat + j)) x (F (ua 77) s.toNat).toNat + zc_r (F (ua 114)) (F (ua 115)) (F (ua 116)) (F (ua 118)) s d x c
/-- the changes: days don't fall, up to L; who goes is there -/
def zf_ch (ua : Nat → Nat) (F : Nat → Nat → Int) (n L : Int) : Prop := 0 ≤ n ∧ ∀ c : Nat, (c : Int) < n → F (ua 115) c ≤ L ∧ (∀ j, j < c → F (ua 115) j ≤ F (ua 115) c) ∧ (F (ua 114) c = 0 ∨ F (ua 114) c = 1) ∧ (F (ua 118) c ≤ 0 → 1 ≤ zc_t ua F (F (ua 114) c) (F (ua 115) c) c (F (ua 116) c))
def zPS (ua : Nat → Nat) (dI : Nat → Nat → Nat) (j : Nat) (F : Nat → Nat → Int) (vs : List Int) : Prop :=
  if j = 108 then vs = [] ∧ F (ua 43) (dI 12 60) = 0
  else if j = 109 then vs = [] ∧ True
  else if j = 110 then vs = [] ∧ zf_ch ua F (F (ua 43) (dI 12 60)) (F (ua 43) (dI 12 61))
  else if j = 111 then ∃ s d c : Int, vs = [s, d, c] ∧ 0 ≤ c ∧ (s = 0 ∨ s = 1) ∧ 0 ≤ F (ua 43) (dI 12 67) ∧ ∀ x, zc_n (F (ua 119)) x (F (ua 43) (dI 12 67)).toNat = zc_t ua F s d c.toNat x
  else if j = 112 then ∃ s k : Int, vs = [s, k] ∧ ∀ i : Nat, (i : Int) < k → F (ua 119) i = F (ua 79) (40 * s.toNat + i)
  else if j = 113 then ∃ k p : Int, vs = [k, p] ∧ ∀ i : Nat, (i : Int) < p → F (ua 119) i ≠ k
  else if j = 114 then ∃ s d c p : Int, vs = [s, d, c, p] ∧ 0 ≤ c ∧ (s = 0 ∨ s = 1) ∧ 0 ≤ p ∧ p ≤ F (ua 43) (dI 12 67) ∧ ∀ x, zc_n (F (ua 119)) x ((F (ua 43) (dI 12 67)).toNat + 1) = zc_t ua F s d (c.toNat + 1) x + (if F (ua 119) p.toNat = x then 1 else 0)
  else if j = 115 then ∃ s d k : Int, vs = [s, d, k] ∧ (s = 0 ∨ s = 1) ∧ 0 ≤ F (ua 43) (dI 12 60) ∧ 1 ≤ zc_t ua F s d (F (ua 43) (dI 12 60)).toNat k
  else if j = 116 then ∃ d : Int, vs = [d] ∧ zf_ch ua F (F (ua 43) (dI 12 60)) d
  else if j = 117 then ∃ k : Int, vs = [k] ∧ ∀ i : Nat, (i : Int) < F (ua 43) (dI 12 67) → F (ua 119) i ≠ k
  else if j = 118 then ∃ k p : Int, vs = [k, p] ∧ 0 ≤ p ∧ p < F (ua 43) (dI 12 67) ∧ F (ua 119) p.toNat = k
  else if j = 119 then ∃ s d : Int, vs = [s, d] ∧ (s = 0 ∨ s = 1) ∧ 0 ≤ F (ua 43) (dI 12 67) ∧ 0 ≤ F (ua 43) (dI 12 60) ∧ ∀ x, zc_n (F (ua 119)) x (F (ua 43) (dI 12 67)).toNat = zc_t ua F s d (F (ua 43) (dI 12 60)).toNat x
  else False
def zPP (ua : Nat → Nat) (dI : Nat → Nat → Nat) (j : Nat) (F : Nat → Nat → Int) (vs : List Int) : Prop :=
  if j = 102 then vs = [] ∧ F (ua 84) 0 ≤ 30 ∧ zf_ln ua F 0 (F (ua 84) 0)
  else if j = 103 then vs = [] ∧ F (ua 84) 1 ≤ 30 ∧ zf_ln ua F 30 (F (ua 84) 1)
  else if j = 104 then ∃ k : Int, vs = [k] ∧ zf_ln ua F 0 k
  else if j = 100 then vs = [] ∧ zf_wy ua dI F (fun _ _ => False)
  else if j = 101 then ∃ x i : Int, vs = [x, i] ∧ zf_wy ua dI F (fun a j => a = x.toNat ∧ j = i.toNat)
  else if 150 ≤ j then zPR ua dI j F vs
  else if 108 ≤ j ∧ j ≤ 119 then zPS ua dI j F vs
  else zPQ ua j F vs
/-- facts of the texts -/
def zyb (ty : Nat → Nat) (x : Int) : Prop := 0 ≤ x ∧ (ty x.toNat = 45 ∨ ty x.toNat = 74)
def zyh (ty : Nat → Nat) (x : Int) : Prop := 0 ≤ x ∧ (ty x.toNat = 57 ∨ ty x.toNat = 91)
def zyc (ty : Nat → Nat) (x : Int) : Prop := 0 ≤ x ∧ (ty x.toNat = 58 ∨ ty x.toNat = 92)
def zyp (ty : Nat → Nat) (x : Int) : Prop := 0 ≤ x ∧ (ty x.toNat = 45 ∨ ty x.toNat = 45)
def zyq (ty : Nat → Nat) (x : Int) : Prop := 0 ≤ x ∧ (ty x.toNat = 74 ∨ ty x.toNat = 74)
def zyw (ty : Nat → Nat) (x : Int) : Prop := 0 ≤ x ∧ ty x.toNat = 34
def zys (ty : Nat → Nat) (x : Int) : Prop := 0 ≤ x ∧ (ty x.toNat = 46 ∨ ty x.toNat = 46)
def zyt (ty : Nat → Nat) (x : Int) : Prop := 0 ≤ x ∧ (ty x.toNat = 47 ∨ ty x.toNat = 47)
def zyd (ty : Nat → Nat) (x : Int) : Prop := 0 ≤ x ∧ (ty x.toNat = 75 ∨ ty x.toNat = 75)
def zyx (ty : Nat → Nat) (x : Int) : Prop := 0 ≤ x ∧ (ty x.toNat = 79 ∨ ty x.toNat = 79)
def zyy (ty : Nat → Nat) (x : Int) : Prop := 0 ≤ x ∧ (ty x.toNat = 80 ∨ ty x.toNat = 80)
def zyz (ty : Nat → Nat) (x : Int) : Prop := 0 ≤ x ∧ (ty x.toNat = 81 ∨ ty x.toNat = 81)
def zyn (ty : Nat → Nat) (x : Int) : Prop := 0 ≤ x ∧ (ty x.toNat = 72 ∨ ty x.toNat = 72)
def zyN (ty : Nat → Nat) (dI : Nat → Nat → Nat) (F : Nat → Nat → Int) (x : Int) : Prop := 0 ≤ x ∧ ty x.toNat = 32 ∧ ty (F x.toNat (dI 4 0)).toNat = 48 ∧ ty (F x.toNat (dI 4 1)).toNat = 49 ∧ ty (F x.toNat (dI 4 2)).toNat = 50 ∧ ty (F x.toNat (dI 4 3)).toNat = 51 ∧ ty (F x.toNat (dI 4 4)).toNat = 52
def zyv (ty : Nat → Nat) (x : Int) : Prop := 0 ≤ x ∧ ty x.toNat = 33
def zyL (ty : Nat → Nat) (dI : Nat → Nat → Nat) (F : Nat → Nat → Int) (x : Int) : Prop := 0 ≤ x ∧ ty x.toNat = 32 ∧ ty (F x.toNat (dI 4 0)).toNat = 48 ∧ ty (F x.toNat (dI 4 1)).toNat = 49 ∧ ty (F x.toNat (dI 4 2)).toNat = 50
def zyD (ty : Nat → Nat) (x : Int) : Prop := 0 ≤ x ∧ ty x.toNat = 32
def zyT (ty : Nat → Nat) (x : Int) : Prop := 0 ≤ x ∧ ty x.toNat = 32
def zPM (ua : Nat → Nat) (dI : Nat → Nat → Nat) (ty : Nat → Nat) (j : Nat) (F : Nat → Nat → Int) (vs : List Int) : Prop :=
  if j = 340 then ∃ C M n : Int, vs = [C, M, n] ∧ zyp ty C ∧ zyq ty M ∧ (∀ k : Nat, (k : Int) < n → F C.toNat k = F M.toNat k)
  else if j = 341 then ∃ C M l k va vb vc vd ve : Int, vs = [C, M, l, k, va, vb, vc, vd, ve] ∧ zyp ty C ∧ zyq ty M ∧ (0 ≤ k ∧ (∀ t : Nat, (t : Int) < l - k → F C.toNat t = F M.toNat t) ∧ ∀ t : Nat, l - k ≤ (t : Int) → (t : Int) < l → F C.toNat t = zt_w va vb vc vd ve (t - (l - k)))
  else if j = 342 then ∃ C M l k va vb vc vd ve : Int, vs = [C, M, l, k, va, vb, vc, vd, ve] ∧ zyp ty C ∧ zyq ty M ∧ (0 ≤ k ∧ (∀ t : Nat, (t : Int) < l - k → F C.toNat t = F M.toNat t) ∧ (∀ t : Nat, l - k ≤ (t : Int) → (t : Int) < l - k + 20 → F C.toNat t = zt_w va vb vc vd ve (t - (l - k))) ∧ ∀ t : Nat, l - k ≤ (t : Int) → (t : Int) < l → F M.toNat t = zt_w va vb vc vd ve (t - (l - k)))
  else if j = 343 then ∃ o L : Int, vs = [o, L] ∧ zyw ty o ∧ (F o.toNat (dI 10 6) = L)
  else if j = 345 then ∃ B n i j : Int, vs = [B, n, i, j] ∧ zyb ty B ∧ (0 ≤ i ∧ zt_run zt_bl (zt_S (F B.toNat) n) i j)
  else if j = 346 then ∃ B n a e s w : Int, vs = [B, n, a, e, s, w] ∧ zyb ty B ∧ (0 ≤ a ∧ s = e - a ∧ zt_run zt_sm (zt_S (F B.toNat) n) a e ∧ (s ≤ 10 → w = zt_wc (zt_S (F B.toNat) n) a s.toNat))
  else if j = 347 then ∃ B n a e s v : Int, vs = [B, n, a, e, s, v] ∧ zyb ty B ∧ (0 ≤ a ∧ s = e - a ∧ zt_run zt_dg (zt_S (F B.toNat) n) a e ∧ v = zt_nc (zt_S (F B.toNat) n) a (min s 5).toNat)
  else if j = 348 then ∃ B n e : Int, vs = [B, n, e] ∧ zyb ty B ∧ (¬ zt_sm ((zt_S (F B.toNat) n) e))
  else if j = 349 then ∃ B n e : Int, vs = [B, n, e] ∧ zyb ty B ∧ (¬ zt_dg ((zt_S (F B.toNat) n) e))
  else if j = 350 then ∃ B n i k a x w v : Int, vs = [B, n, i, k, a, x, w, v] ∧ zyb ty B ∧ (zt_tk (zt_S (F B.toNat) n) i k a x w v)
  else if j = 351 then ∃ B n i so a x : Int, vs = [B, n, i, so, a, x] ∧ zyb ty B ∧ (zt_tk (zt_S (F B.toNat) n) i (zt_ks so) a x (F (ua 43) (dI 12 10)) (F (ua 43) (dI 12 7)))
  else if j = 358 then ∃ so key : Int, vs = [so, key] ∧ (zt_ky so key (F (ua 43) (dI 12 10)))
  else if j = 362 then ∃ so r : Int, vs = [so, r] ∧ (r = (if so = 1 ∧ F (ua 43) (dI 12 10) < 32 then F (ua 43) (dI 12 10) - 1 else -1))
  else if j = 352 then ∃ B n a : Int, vs = [B, n, a] ∧ zyb ty B ∧ (zt_sm ((zt_S (F B.toNat) n) a))
  else if j = 353 then ∃ B n a : Int, vs = [B, n, a] ∧ zyb ty B ∧ (zt_dg ((zt_S (F B.toNat) n) a))
  else if j = 354 then ∃ B n k a x w v : Int, vs = [B, n, k, a, x, w, v] ∧ zyb ty B ∧ (0 ≤ a ∧ ¬ zt_bl ((zt_S (F B.toNat) n) a) ∧ zt_at (zt_S (F B.toNat) n) k a x w v)
  else if j = 355 then ∃ B n a : Int, vs = [B, n, a] ∧ zyb ty B ∧ (¬ zt_bl ((zt_S (F B.toNat) n) a))
  else if j = 356 then ∃ B n k a s w : Int, vs = [B, n, k, a, s, w] ∧ zyb ty B ∧ ((k = 1 → 0 ≤ a ∧ zt_wd (zt_S (F B.toNat) n) a s w))
  else if j = 357 then ∃ B n a p j q : Int, vs = [B, n, a, p, j, q] ∧ zyb ty B ∧ (p = a + j ∧ 0 ≤ j ∧ ∀ t : Nat, (t : Int) < j → (zt_S (F B.toNat) n) (a + t) = zt_ch q t)
  else if j = 370 then ∃ B n h c m i L sd ac b : Int, vs = [B, n, h, c, m, i, L, sd, ac, b] ∧ zyb ty B ∧ zyh ty h ∧ zyc ty c ∧ (∃ hs ct : Nat → Int, zw_re (zt_S (F B.toNat) n) ((m, i, L, sd, ac, b), hs, ct) ∧ (∀ j : Nat, hs j = 0 → ct j = 0) ∧ (3 ≤ m → (ac = 0 ↔ hs (zw_p sd b) = 0)) ∧ ∀ j : Nat, j < 16 → F h.toNat j = hs j ∧ F c.toNat j = ct j)
  else if j = 371 then ∃ B n h c m i L sd ac b : Int, vs = [B, n, h, c, m, i, L, sd, ac, b] ∧ zyb ty B ∧ zyh ty h ∧ zyc ty c ∧ (∃ hs ct : Nat → Int, zw_re (zt_S (F B.toNat) n) ((m, i, L, sd, ac, b), hs, ct) ∧ (∀ j : Nat, hs j = 0 → ct j = 0) ∧ (3 ≤ m → (ac = 0 ↔ hs (zw_p sd b) = 0)) ∧ ∀ j : Nat, j < 16 → F h.toNat j = zw_h hs sd ac b j ∧ F c.toNat j = ct j)
  else if j = 372 then ∃ B n h c m i L sd ac b : Int, vs = [B, n, h, c, m, i, L, sd, ac, b] ∧ zyb ty B ∧ zyh ty h ∧ zyc ty c ∧ (∃ hs ct : Nat → Int, zw_re (zt_S (F B.toNat) n) ((m, i, L, sd, ac, b), hs, ct) ∧ (∀ j : Nat, hs j = 0 → ct j = 0) ∧ (3 ≤ m → (ac = 0 ↔ hs (zw_p sd b) = 0)) ∧ ∀ j : Nat, j < 16 → F h.toNat j = zw_h hs sd ac b j ∧ F c.toNat j = zw_c ct sd ac b j)
  else if j = 373 then ∃ B n kd a : Int, vs = [B, n, kd, a] ∧ zyb ty B ∧ (∃ hs ct : Nat → Int, zw_re (zt_S (F B.toNat) n) (zw_f kd a hs ct))
  else if j = 374 then ∃ B n L : Int, vs = [B, n, L] ∧ zyb ty B ∧ (∃ (i : Int) (hs ct : Nat → Int), zw_re (zt_S (F B.toNat) n) ((9, i, L, 0, 0, 0), hs, ct))
  else if j = 375 then ∃ h k : Int, vs = [h, k] ∧ zyh ty h ∧ (∀ j : Nat, (j : Int) < k → F h.toNat j = 0)
  else if j = 376 then ∃ c k : Int, vs = [c, k] ∧ zyc ty c ∧ (∀ j : Nat, (j : Int) < k → F c.toNat j = 0)
  else if j = 377 then ∃ h c sd ac b r : Int, vs = [h, c, sd, ac, b, r] ∧ zyh ty h ∧ zyc ty c ∧ (r = zw_q (F h.toNat) (F c.toNat) sd ac b)
  else if j = 379 then ∃ B n h c i L sd ac b : Int, vs = [B, n, h, c, i, L, sd, ac, b] ∧ zyb ty B ∧ zyh ty h ∧ zyc ty c ∧ (∃ hs ct : Nat → Int, zw_re (zt_S (F B.toNat) n) ((if ac = 5 then 3 else if 6 ≤ ac then 4 else 5, i, L, sd, ac, b), hs, ct) ∧ (∀ j : Nat, hs j = 0 → ct j = 0) ∧ (ac = 0 ↔ hs (zw_p sd b) = 0) ∧ ∀ j : Nat, j < 16 → F h.toNat j = hs j ∧ F c.toNat j = ct j)
  else if j = 378 then ∃ B n r : Int, vs = [B, n, r] ∧ zyb ty B ∧ (zw_rs (zt_S (F B.toNat) n) r)
  else if j = 380 then ∃ B n im tt m i N d f r : Int, vs = [B, n, im, tt, m, i, N, d, f, r] ∧ zyb ty B ∧ zys ty im ∧ zyt ty tt ∧ (∃ U I : Nat → Int, zs_re (zt_S (F B.toNat) n) ((m, i, N, d, f, r), U, I) ∧ zs_ok U ∧ ∀ j : Nat, j < 27 → F im.toNat j = I j ∧ F tt.toNat j = U j)
  else if j = 382 then ∃ B n im tt m i N d f r l v : Int, vs = [B, n, im, tt, m, i, N, d, f, r, l, v] ∧ zyb ty B ∧ zys ty im ∧ zyt ty tt ∧ (∃ U I : Nat → Int, zs_re (zt_S (F B.toNat) n) ((m, i, N, d, f, r), (zw_u U l.toNat 1), (zw_u I l.toNat v)) ∧ zs_ok U ∧ (1 ≤ l ∧ l ≤ 26) ∧ U l.toNat = 0 ∧ ∀ j : Nat, j < 27 → F im.toNat j = I j ∧ F tt.toNat j = U j)
  else if j = 383 then ∃ B n im tt m i N d f r l v : Int, vs = [B, n, im, tt, m, i, N, d, f, r, l, v] ∧ zyb ty B ∧ zys ty im ∧ zyt ty tt ∧ (∃ U I : Nat → Int, zs_re (zt_S (F B.toNat) n) ((m, i, N, d, f, r), (zw_u U l.toNat 1), (zw_u I l.toNat v)) ∧ zs_ok U ∧ (1 ≤ l ∧ l ≤ 26) ∧ ∀ j : Nat, j < 27 → F im.toNat j = I j ∧ F tt.toNat j = zw_u U l.toNat 1 j)
  else if j = 384 then ∃ B n kd a : Int, vs = [B, n, kd, a] ∧ zyb ty B ∧ (∃ U I : Nat → Int, zs_re (zt_S (F B.toNat) n) (zs_f kd a U I))
  else if j = 386 then ∃ B n r : Int, vs = [B, n, r] ∧ zyb ty B ∧ (zs_rs (zt_S (F B.toNat) n) r)
  else if j = 387 then ∃ B n st ul uw m i N d g r : Int, vs = [B, n, st, ul, uw, m, i, N, d, g, r] ∧ zyb ty B ∧ zyd ty st ∧ (∃ (U I : Nat → Int) (f : Int), zs_re (zt_S (F B.toNat) n) ((m, i, N, d, f, r), U, I) ∧ zs_ok U ∧ (d = 0 ∨ d = 1) ∧ g = zs_g f ∧ (0 ≤ f ∧ f ≤ 10) ∧ uw = zs_w d f m ∧ ∀ j : Nat, j < 26 → F st.toNat (26 + j) = I (j + 1) - 1 ∧ zs_b ul j = U (j + 1))
  else if j = 388 then ∃ B n st ul uw m i N d g r l v : Int, vs = [B, n, st, ul, uw, m, i, N, d, g, r, l, v] ∧ zyb ty B ∧ zyd ty st ∧ (∃ (U I : Nat → Int) (f : Int), zs_re (zt_S (F B.toNat) n) ((m, i, N, d, f, r), (zw_u U l.toNat 1), (zw_u I l.toNat v)) ∧ zs_ok U ∧ (d = 0 ∨ d = 1) ∧ g = zs_g f ∧ (0 ≤ f ∧ f ≤ 10) ∧ uw = zs_w d f m ∧ (1 ≤ l ∧ l ≤ 26) ∧ ∀ j : Nat, j < 26 → F st.toNat (26 + j) = I (j + 1) - 1 ∧ zs_b ul j = zw_u U l.toNat 1 (j + 1))
  else if j = 391 then ∃ im k : Int, vs = [im, k] ∧ zys ty im ∧ (∀ j : Nat, (j : Int) < k → F im.toNat j = j)
  else if j = 392 then ∃ tt k : Int, vs = [tt, k] ∧ zyt ty tt ∧ (∀ j : Nat, (j : Int) < k → F tt.toNat j = 0)
  else if j = 393 then ∃ tt c : Int, vs = [tt, c] ∧ zyt ty tt ∧ (c ≤ zs_c (F tt.toNat) 26)
  else if j = 396 then ∃ st k : Int, vs = [st, k] ∧ zyd ty st ∧ (∀ j : Nat, (j : Int) < k → F st.toNat (26 + j) = j)
  else if j = 397 then ∃ tt l r : Int, vs = [tt, l, r] ∧ zyt ty tt ∧ (F tt.toNat l.toNat = r)
  else if j = 389 then ∃ B n st i N d g : Int, vs = [B, n, st, i, N, d, g] ∧ zyb ty B ∧ zyd ty st ∧ (∃ (U I : Nat → Int) (f : Int), zs_re (zt_S (F B.toNat) n) ((9, i, N, d, f, 0), U, I) ∧ g = zs_g f ∧ ∀ c : Nat, c < 26 → F st.toNat c = I (c + 1) - 1)
  else if j = 390 then ∃ im st : Int, vs = [im, st] ∧ zys ty im ∧ zyd ty st ∧ ((∀ c : Nat, c ≤ 26 → F im.toNat c = zl_I (F st.toNat) c) ∧ zl_bd (F im.toNat))
  else if j = 394 then ∃ st k : Int, vs = [st, k] ∧ zyd ty st ∧ (∀ c : Nat, (c : Int) < k → F st.toNat c = F st.toNat (26 + c))
  else if j = 400 then ∃ im d m w s k t b : Int, vs = [im, d, m, w, s, k, t, b] ∧ zys ty im ∧ (∃ c : Nat, s = 45 - 5 * (c : Int) ∧ c ≤ 10 ∧ (0 ≤ m ∧ m ≤ 10) ∧ zl_bd (F im.toNat) ∧ zl_wd w ∧ zl_q (F im.toNat) d m w c = (k, t, b))
  else if j = 401 then ∃ im d f w r : Int, vs = [im, d, f, w, r] ∧ zys ty im ∧ (r = (zl_q (F im.toNat) d (zs_g f) w 10).1 ∧ zl_gd (zl_q (F im.toNat) d (zs_g f) w 10).2.1.toNat r ∧ 0 ≤ (zl_q (F im.toNat) d (zs_g f) w 10).2.1)
  else if j = 402 then ∃ st d m w s k t la : Int, vs = [st, d, m, w, s, k, t, la] ∧ zyd ty st ∧ (∃ (c : Nat) (b : Int), s = 45 - 5 * (c : Int) ∧ c ≤ 10 ∧ (0 ≤ m ∧ m ≤ 10) ∧ zl_bd (zl_I (F st.toNat)) ∧ zl_wd w ∧ zl_q (zl_I (F st.toNat)) d m w c = (k, t, b) ∧ (t = m ∨ b = la + 1))
  else if j = 403 then ∃ st d m w r : Int, vs = [st, d, m, w, r] ∧ zyd ty st ∧ (r = (zl_q (zl_I (F st.toNat)) d m w 10).1 ∧ zl_gd (zl_q (zl_I (F st.toNat)) d m w 10).2.1.toNat r ∧ 0 ≤ (zl_q (zl_I (F st.toNat)) d m w 10).2.1)
  else if j = 404 then ∃ B n im d f i r : Int, vs = [B, n, im, d, f, i, r] ∧ zyb ty B ∧ zys ty im ∧ (r = zl_A (zt_S (F B.toNat) n) (F im.toNat) d (zs_g f) i)
  else if j = 405 then ∃ B n st d g i r : Int, vs = [B, n, st, d, g, i, r] ∧ zyb ty B ∧ zyd ty st ∧ (r = zl_A (zt_S (F B.toNat) n) (zl_I (F st.toNat)) d g i)
  else if j = 408 then ∃ im : Int, vs = [im] ∧ zys ty im ∧ (zl_bd (F im.toNat))
  else if j = 409 then ∃ st : Int, vs = [st] ∧ zyd ty st ∧ (zl_bd (zl_I (F st.toNat)))
  else if j = 410 then ∃ B n w : Int, vs = [B, n, w] ∧ zyb ty B ∧ ((zt_tok (zt_S (F B.toNat) n) 0).1 = 1 ∧ (zt_tok (zt_S (F B.toNat) n) 0).2.2.2.1 = w ∧ (zt_tok (zt_S (F B.toNat) n) (zt_tok (zt_S (F B.toNat) n) 0).2.2.1).1 = 0)
  else if j = 411 then ∃ B n : Int, vs = [B, n] ∧ zyb ty B ∧ (¬ ((zt_tok (zt_S (F B.toNat) n) 0).1 = 1 ∧ (zt_tok (zt_S (F B.toNat) n) (zt_tok (zt_S (F B.toNat) n) 0).2.2.1).1 = 0))
  else if j = 412 then ∃ B n x w : Int, vs = [B, n, x, w] ∧ zyb ty B ∧ ((zt_tok (zt_S (F B.toNat) n) 0).1 = 1 ∧ (zt_tok (zt_S (F B.toNat) n) 0).2.2.1 = x ∧ (zt_tok (zt_S (F B.toNat) n) 0).2.2.2.1 = w)
  else if j = 398 then ∃ o d f : Int, vs = [o, d, f] ∧ zyv ty o ∧ (F o.toNat (dI 7 2) = d ∧ F o.toNat (dI 7 3) = f)
  else if j = 395 then ∃ st k : Int, vs = [st, k] ∧ zyd ty st ∧ (∀ c : Nat, (c : Int) < k → F st.toNat c = c)
  else if j = 430 then ∃ B n im d f o mx dw m i N p q : Int, vs = [B, n, im, d, f, o, mx, dw, m, i, N, p, q] ∧ zyb ty B ∧ zys ty im ∧ zyN ty dI F o ∧ (∃ W D : Nat → Int, zj_re (zl_kf (F im.toNat) d (zs_g f)) mx dw (zt_S (F B.toNat) n) ((m, i, N, p, q, 0), W, D) ∧ 0 ≤ N ∧ ∀ j : Nat, (j : Int) < N → F (F o.toNat (dI 4 0)).toNat j = W j ∧ F (F o.toNat (dI 4 1)).toNat j = (zl_kf (F im.toNat) d (zs_g f)) (W j) ∧ F (F o.toNat (dI 4 2)).toNat j = D j ∧ F (F o.toNat (dI 4 3)).toNat j = 0 ∧ F (F o.toNat (dI 4 4)).toNat j = 401)
  else if j = 431 then ∃ B n im d f o mx dw i N p q : Int, vs = [B, n, im, d, f, o, mx, dw, i, N, p, q] ∧ zyb ty B ∧ zys ty im ∧ zyN ty dI F o ∧ (∃ W D : Nat → Int, zj_re (zl_kf (F im.toNat) d (zs_g f)) mx dw (zt_S (F B.toNat) n) ((0, i, N + 1, 0, 0, 0), zw_u W N.toNat p, zw_u D N.toNat q) ∧ 0 ≤ N ∧ ∀ j : Nat, (j : Int) < N → F (F o.toNat (dI 4 0)).toNat j = W j ∧ F (F o.toNat (dI 4 1)).toNat j = (zl_kf (F im.toNat) d (zs_g f)) (W j) ∧ F (F o.toNat (dI 4 2)).toNat j = D j ∧ F (F o.toNat (dI 4 3)).toNat j = 0 ∧ F (F o.toNat (dI 4 4)).toNat j = 401)
  else if j = 432 then ∃ B n im d f mx dw kd a : Int, vs = [B, n, im, d, f, mx, dw, kd, a] ∧ zyb ty B ∧ zys ty im ∧ (∃ W D : Nat → Int, zj_re (zl_kf (F im.toNat) d (zs_g f)) mx dw (zt_S (F B.toNat) n) (zs_f kd a W D))
  else if j = 433 then ∃ o N : Int, vs = [o, N] ∧ zyN ty dI F o ∧ (∀ j : Nat, (j : Int) < N → F (F o.toNat (dI 4 3)).toNat j = 0 ∧ F (F o.toNat (dI 4 4)).toNat j = 401)
  else if j = 434 then ∃ o N k : Int, vs = [o, N, k] ∧ zyN ty dI F o ∧ (∀ j : Nat, (j : Int) < N → F (F o.toNat (dI 4 1)).toNat j ≠ k)
  else if j = 435 then ∃ o N k : Int, vs = [o, N, k] ∧ zyN ty dI F o ∧ (∃ j : Nat, (j : Int) < N ∧ F (F o.toNat (dI 4 1)).toNat j = k)
  else if j = 440 then ∃ B n st d g wr kr dr mx dw m i N p q : Int, vs = [B, n, st, d, g, wr, kr, dr, mx, dw, m, i, N, p, q] ∧ zyb ty B ∧ zyd ty st ∧ zyx ty wr ∧ zyy ty kr ∧ zyz ty dr ∧ (∃ W D : Nat → Int, zj_re (zl_kf (zl_I (F st.toNat)) d g) mx dw (zt_S (F B.toNat) n) ((m, i, N, p, q, 0), W, D) ∧ 0 ≤ N ∧ ∀ j : Nat, (j : Int) < N → F wr.toNat (120 + j) = W j ∧ F kr.toNat (120 + j) = (zl_kf (zl_I (F st.toNat)) d g) (W j) ∧ (dw = 0 ∨ F dr.toNat (120 + j) = D j))
  else if j = 441 then ∃ B n st d g wr kr dr mx dw i N p q : Int, vs = [B, n, st, d, g, wr, kr, dr, mx, dw, i, N, p, q] ∧ zyb ty B ∧ zyd ty st ∧ zyx ty wr ∧ zyy ty kr ∧ zyz ty dr ∧ (∃ W D : Nat → Int, zj_re (zl_kf (zl_I (F st.toNat)) d g) mx dw (zt_S (F B.toNat) n) ((0, i, N + 1, 0, 0, 0), zw_u W N.toNat p, zw_u D N.toNat q) ∧ 0 ≤ N ∧ ∀ j : Nat, (j : Int) < N → F wr.toNat (120 + j) = W j ∧ F kr.toNat (120 + j) = (zl_kf (zl_I (F st.toNat)) d g) (W j) ∧ (dw = 0 ∨ F dr.toNat (120 + j) = D j))
  else if j = 442 then ∃ B n st d g mx dw kd a : Int, vs = [B, n, st, d, g, mx, dw, kd, a] ∧ zyb ty B ∧ zyd ty st ∧ (∃ W D : Nat → Int, zj_re (zl_kf (zl_I (F st.toNat)) d g) mx dw (zt_S (F B.toNat) n) (zs_f kd a W D))
  else if j = 444 then ∃ kr i k : Int, vs = [kr, i, k] ∧ zyy ty kr ∧ (∀ j : Nat, (j : Int) < i → F kr.toNat (120 + j) ≠ k)
  else if j = 445 then ∃ kr N k : Int, vs = [kr, N, k] ∧ zyy ty kr ∧ (∃ j : Nat, (j : Int) < N ∧ F kr.toNat (120 + j) = k)
  else if j = 450 then ∃ B n im d f mx dw r : Int, vs = [B, n, im, d, f, mx, dw, r] ∧ zyb ty B ∧ zys ty im ∧ (zj_rs (zl_kf (F im.toNat) d (zs_g f)) mx dw (zt_S (F B.toNat) n) r)
  else if j = 451 then ∃ B n st d g mx dw r : Int, vs = [B, n, st, d, g, mx, dw, r] ∧ zyb ty B ∧ zyd ty st ∧ (zj_rs (zl_kf (zl_I (F st.toNat)) d g) mx dw (zt_S (F B.toNat) n) r)
  else if j = 459 then ∃ o q : Int, vs = [o, q] ∧ zyD ty o ∧ zyD ty q ∧ (o.toNat ≠ q.toNat ∧ (F o.toNat (dI 4 0)).toNat ≠ (F q.toNat (dI 4 0)).toNat ∧ (F o.toNat (dI 4 1)).toNat ≠ (F q.toNat (dI 4 1)).toNat ∧ (F o.toNat (dI 4 2)).toNat ≠ (F q.toNat (dI 4 2)).toNat ∧ (F o.toNat (dI 4 3)).toNat ≠ (F q.toNat (dI 4 3)).toNat ∧ (F o.toNat (dI 4 4)).toNat ≠ (F q.toNat (dI 4 4)).toNat)
  else if j = 463 then ∃ o oa ob oc : Int, vs = [o, oa, ob, oc] ∧ zyD ty o ∧ zyD ty oa ∧ zyD ty ob ∧ zyD ty oc ∧ ((o.toNat ≠ oa.toNat ∧ (F o.toNat (dI 4 0)).toNat ≠ (F oa.toNat (dI 4 0)).toNat ∧ (F o.toNat (dI 4 1)).toNat ≠ (F oa.toNat (dI 4 1)).toNat ∧ (F o.toNat (dI 4 2)).toNat ≠ (F oa.toNat (dI 4 2)).toNat ∧ (F o.toNat (dI 4 3)).toNat ≠ (F oa.toNat (dI 4 3)).toNat ∧ (F o.toNat (dI 4 4)).toNat ≠ (F oa.toNat (dI 4 4)).toNat) ∧ (o.toNat ≠ ob.toNat ∧ (F o.toNat (dI 4 0)).toNat ≠ (F ob.toNat (dI 4 0)).toNat ∧ (F o.toNat (dI 4 1)).toNat ≠ (F ob.toNat (dI 4 1)).toNat ∧ (F o.toNat (dI 4 2)).toNat ≠ (F ob.toNat (dI 4 2)).toNat ∧ (F o.toNat (dI 4 3)).toNat ≠ (F ob.toNat (dI 4 3)).toNat ∧ (F o.toNat (dI 4 4)).toNat ≠ (F ob.toNat (dI 4 4)).toNat) ∧ (o.toNat ≠ oc.toNat ∧ (F o.toNat (dI 4 0)).toNat ≠ (F oc.toNat (dI 4 0)).toNat ∧ (F o.toNat (dI 4 1)).toNat ≠ (F oc.toNat (dI 4 1)).toNat ∧ (F o.toNat (dI 4 2)).toNat ≠ (F oc.toNat (dI 4 2)).toNat ∧ (F o.toNat (dI 4 3)).toNat ≠ (F oc.toNat (dI 4 3)).toNat ∧ (F o.toNat (dI 4 4)).toNat ≠ (F oc.toNat (dI 4 4)).toNat) ∧ (oa.toNat ≠ ob.toNat ∧ (F oa.toNat (dI 4 0)).toNat ≠ (F ob.toNat (dI 4 0)).toNat ∧ (F oa.toNat (dI 4 1)).toNat ≠ (F ob.toNat (dI 4 1)).toNat ∧ (F oa.toNat (dI 4 2)).toNat ≠ (F ob.toNat (dI 4 2)).toNat ∧ (F oa.toNat (dI 4 3)).toNat ≠ (F ob.toNat (dI 4 3)).toNat ∧ (F oa.toNat (dI 4 4)).toNat ≠ (F ob.toNat (dI 4 4)).toNat) ∧ (oa.toNat ≠ oc.toNat ∧ (F oa.toNat (dI 4 0)).toNat ≠ (F oc.toNat (dI 4 0)).toNat ∧ (F oa.toNat (dI 4 1)).toNat ≠ (F oc.toNat (dI 4 1)).toNat ∧ (F oa.toNat (dI 4 2)).toNat ≠ (F oc.toNat (dI 4 2)).toNat ∧ (F oa.toNat (dI 4 3)).toNat ≠ (F oc.toNat (dI 4 3)).toNat ∧ (F oa.toNat (dI 4 4)).toNat ≠ (F oc.toNat (dI 4 4)).toNat) ∧ (ob.toNat ≠ oc.toNat ∧ (F ob.toNat (dI 4 0)).toNat ≠ (F oc.toNat (dI 4 0)).toNat ∧ (F ob.toNat (dI 4 1)).toNat ≠ (F oc.toNat (dI 4 1)).toNat ∧ (F ob.toNat (dI 4 2)).toNat ≠ (F oc.toNat (dI 4 2)).toNat ∧ (F ob.toNat (dI 4 3)).toNat ≠ (F oc.toNat (dI 4 3)).toNat ∧ (F ob.toNat (dI 4 4)).toNat ≠ (F oc.toNat (dI 4 4)).toNat))
  else if j = 465 then ∃ B n im d f o mx dw N : Int, vs = [B, n, im, d, f, o, mx, dw, N] ∧ zyb ty B ∧ zys ty im ∧ zyL ty dI F o ∧ (∃ (i : Int) (W D : Nat → Int), zj_re (zl_kf (F im.toNat) d (zs_g f)) mx dw (zt_S (F B.toNat) n) ((9, i, N, 0, 0, 0), W, D) ∧ 0 ≤ N ∧ ∀ j : Nat, (j : Int) < N → F (F o.toNat (dI 4 0)).toNat j = W j ∧ F (F o.toNat (dI 4 1)).toNat j = (zl_kf (F im.toNat) d (zs_g f)) (W j) ∧ F (F o.toNat (dI 4 2)).toNat j = D j)
  else if j = 469 then ∃ B n st d g wr kr dr mx dw N b : Int, vs = [B, n, st, d, g, wr, kr, dr, mx, dw, N, b] ∧ zyb ty B ∧ zyd ty st ∧ zyx ty wr ∧ zyy ty kr ∧ zyz ty dr ∧ (∃ (i : Int) (W D : Nat → Int), zj_re (zl_kf (zl_I (F st.toNat)) d g) mx dw (zt_S (F B.toNat) n) ((9, i, N, 0, 0, 0), W, D) ∧ 0 ≤ N ∧ 0 ≤ b ∧ ∀ j : Nat, (j : Int) < N → F wr.toNat (b.toNat + j) = W j ∧ F kr.toNat (b.toNat + j) = (zl_kf (zl_I (F st.toNat)) d g) (W j) ∧ (dw = 0 ∨ F dr.toNat (b.toNat + j) = D j))
  else if j = 466 then ∃ wr b i : Int, vs = [wr, b, i] ∧ zyx ty wr ∧ (0 ≤ b ∧ ∀ j : Nat, (j : Int) < i → F wr.toNat (b.toNat + j) = F wr.toNat (120 + j))
  else if j = 467 then ∃ kr b i : Int, vs = [kr, b, i] ∧ zyy ty kr ∧ (0 ≤ b ∧ ∀ j : Nat, (j : Int) < i → F kr.toNat (b.toNat + j) = F kr.toNat (120 + j))
  else if j = 468 then ∃ dr b i : Int, vs = [dr, b, i] ∧ zyz ty dr ∧ (0 ≤ b ∧ ∀ j : Nat, (j : Int) < i → F dr.toNat (b.toNat + j) = F dr.toNat (120 + j))
  else if j = 460 then ∃ o N wr kr dr : Int, vs = [o, N, wr, kr, dr] ∧ zyL ty dI F o ∧ zyx ty wr ∧ zyy ty kr ∧ zyz ty dr ∧ (0 ≤ N ∧ N ≤ 40 ∧ ∀ j : Nat, (j : Int) < N → F (F o.toNat (dI 4 0)).toNat j = F wr.toNat (0 + j) ∧ F (F o.toNat (dI 4 1)).toNat j = F kr.toNat (0 + j) ∧ (0 ≤ F kr.toNat (0 + j) ∧ F kr.toNat (0 + j) ≤ 1125899906842623) ∧ (0 = 80 ∨ F (F o.toNat (dI 4 2)).toNat j = F dr.toNat (0 + j)))
  else if j = 461 then ∃ o N wr kr dr : Int, vs = [o, N, wr, kr, dr] ∧ zyL ty dI F o ∧ zyx ty wr ∧ zyy ty kr ∧ zyz ty dr ∧ (0 ≤ N ∧ N ≤ 40 ∧ ∀ j : Nat, (j : Int) < N → F (F o.toNat (dI 4 0)).toNat j = F wr.toNat (40 + j) ∧ F (F o.toNat (dI 4 1)).toNat j = F kr.toNat (40 + j) ∧ (0 ≤ F kr.toNat (40 + j) ∧ F kr.toNat (40 + j) ≤ 1125899906842623) ∧ (40 = 80 ∨ F (F o.toNat (dI 4 2)).toNat j = F dr.toNat (40 + j)))
  else if j = 462 then ∃ o N wr kr dr : Int, vs = [o, N, wr, kr, dr] ∧ zyL ty dI F o ∧ zyx ty wr ∧ zyy ty kr ∧ zyz ty dr ∧ (0 ≤ N ∧ N ≤ 40 ∧ ∀ j : Nat, (j : Int) < N → F (F o.toNat (dI 4 0)).toNat j = F wr.toNat (80 + j) ∧ F (F o.toNat (dI 4 1)).toNat j = F kr.toNat (80 + j) ∧ (0 ≤ F kr.toNat (80 + j) ∧ F kr.toNat (80 + j) ≤ 1125899906842623) ∧ (80 = 80 ∨ F (F o.toNat (dI 4 2)).toNat j = F dr.toNat (80 + j)))
  else if j = 470 then ∃ o N : Int, vs = [o, N] ∧ zyT ty o ∧ (0 ≤ N ∧ F o.toNat (dI 4 5) = N ∧ N ≤ F o.toNat (dI 4 6))
  else if j = 471 then ∃ o N : Int, vs = [o, N] ∧ zyT ty o ∧ (0 ≤ N ∧ F o.toNat (dI 4 5) = N ∧ N ≤ F o.toNat (dI 4 6))
  else if j = 472 then ∃ o N : Int, vs = [o, N] ∧ zyT ty o ∧ (0 ≤ N ∧ F o.toNat (dI 4 5) = N ∧ N ≤ F o.toNat (dI 4 6))
  else if j = 473 then ∃ o N : Int, vs = [o, N] ∧ zyT ty o ∧ (0 ≤ N ∧ F o.toNat (dI 4 5) = N ∧ N ≤ F o.toNat (dI 4 6))
  else if j = 474 then ∃ o P i r : Int, vs = [o, P, i, r] ∧ zyL ty dI F o ∧ zyT ty o ∧ (r = (if 0 ≤ i ∧ i < F o.toNat (dI 4 5) then 1 + zu_n (P - 1) (F (F o.toNat (dI 4 1)).toNat i.toNat) 10 else -2))
  else if j = 475 then ∃ kr sd P i N r : Int, vs = [kr, sd, P, i, N, r] ∧ zyy ty kr ∧ (r = (if 0 ≤ i ∧ i < N then 1 + zu_n (P - 1) (F kr.toNat (40 * sd + i).toNat) 10 else -2))
  else if j = 477 then ∃ o q N i j n : Int, vs = [o, q, N, i, j, n] ∧ zyL ty dI F o ∧ zyL ty dI F q ∧ (0 ≤ i ∧ 0 ≤ j ∧ 0 ≤ N ∧ N ≤ 40 ∧ n = zu_c (F (F o.toNat (dI 4 1)).toNat) (F (F o.toNat (dI 4 0)).toNat) (F (F q.toNat (dI 4 1)).toNat) (F (F q.toNat (dI 4 0)).toNat) N.toNat i.toNat + zu_c1 (F (F o.toNat (dI 4 1)).toNat) (F (F o.toNat (dI 4 0)).toNat) (F (F q.toNat (dI 4 1)).toNat) (F (F q.toNat (dI 4 0)).toNat) i.toNat j.toNat)
  else if j = 478 then ∃ wr kr N i j n : Int, vs = [wr, kr, N, i, j, n] ∧ zyx ty wr ∧ zyy ty kr ∧ (0 ≤ i ∧ 0 ≤ j ∧ 0 ≤ N ∧ N ≤ 40 ∧ n = zu_c (F kr.toNat) (F wr.toNat) (fun j : Nat => F kr.toNat (40 + j)) (fun j : Nat => F wr.toNat (40 + j)) N.toNat i.toNat + zu_c1 (F kr.toNat) (F wr.toNat) (fun j : Nat => F kr.toNat (40 + j)) (fun j : Nat => F wr.toNat (40 + j)) i.toNat j.toNat)
  else if j = 479 then ∃ nu o P i : Int, vs = [nu, o, P, i] ∧ zyn ty nu ∧ zyL ty dI F o ∧ (5 ≤ P ∧ P ≤ 2147483647 ∧ ∀ q : Nat, (q : Int) < i → F nu.toNat q = 1 + zu_n (P - 1) (F (F o.toNat (dI 4 1)).toNat q) 10)
  else if j = 480 then ∃ nu m h i w : Int, vs = [nu, m, h, i, w] ∧ zyn ty nu ∧ (1 ≤ m ∧ m ≤ 62 ∧ 0 ≤ i ∧ w = ((zu_r (F nu.toNat) m h.toNat i.toNat : Nat) : Int))
  else if j = 481 then ∃ o P m h w : Int, vs = [o, P, m, h, w] ∧ zyL ty dI F o ∧ zyT ty o ∧ (w = (if 1 ≤ m ∧ m ≤ 62 ∧ 1 ≤ h ∧ h ≤ 6 then ((zu_r (fun q : Nat => 1 + zu_n (P - 1) (F (F o.toNat (dI 4 1)).toNat q) 10) m h.toNat (F o.toNat (dI 4 5)).toNat : Nat) : Int) else -2))
  else if j = 482 then ∃ kr sd P N m h w : Int, vs = [kr, sd, P, N, m, h, w] ∧ zyy ty kr ∧ (w = (if 1 ≤ m ∧ m ≤ 62 ∧ 1 ≤ h ∧ h ≤ 6 then ((zu_r (fun q : Nat => 1 + zu_n (P - 1) (F kr.toNat (40 * sd + (q : Int)).toNat) 10) m h.toNat N.toNat : Nat) : Int) else -2))
  else if j = 483 then ∃ kr sd P m h i j w : Int, vs = [kr, sd, P, m, h, i, j, w] ∧ zyy ty kr ∧ (1 ≤ m ∧ m ≤ 62 ∧ 0 ≤ i ∧ 0 ≤ j ∧ w = ((zu_r (fun q : Nat => 1 + zu_n (P - 1) (F kr.toNat (40 * sd + (q : Int)).toNat) 10) m h.toNat i.toNat ||| zu_bs ((fun q : Nat => 1 + zu_n (P - 1) (F kr.toNat (40 * sd + (q : Int)).toNat) 10) i.toNat) m j.toNat : Nat) : Int))
  else if j = 484 then ∃ kr sd P N m h w : Int, vs = [kr, sd, P, N, m, h, w] ∧ zyy ty kr ∧ (1 ≤ m ∧ m ≤ 62 ∧ w = ((zu_r (fun q : Nat => 1 + zu_n (P - 1) (F kr.toNat (40 * sd + (q : Int)).toNat) 10) m h.toNat N.toNat : Nat) : Int))
  else False
/-- facts that speak of types -/
def zPN (ua : Nat → Nat) (dI : Nat → Nat → Nat) (ty : Nat → Nat) (j : Nat) (F : Nat → Nat → Int) (vs : List Int) : Prop :=
  if j = 331 then ∃ x : Int, vs = [x] ∧ (0 ≤ x ∧ ty x.toNat = 123 ∧ ty (F x.toNat (dI 9 0)).toNat = 125) ∧ (1 ≤ F x.toNat (dI 9 1) → zf_tt dI F x.toNat (F x.toNat (dI 9 4)))
  else if j = 332 then ∃ x : Int, vs = [x] ∧ (0 ≤ x ∧ ty x.toNat = 124 ∧ ty (F x.toNat (dI 9 0)).toNat = 126) ∧ (1 ≤ F x.toNat (dI 9 1) → zf_tt dI F x.toNat (F x.toNat (dI 9 4)))
  else if j = 333 then ∃ x n : Int, vs = [x, n] ∧ (0 ≤ x ∧ ty x.toNat = 123 ∧ ty (F x.toNat (dI 9 0)).toNat = 125) ∧ zf_tt dI F x.toNat n
  else if j = 334 then ∃ x n : Int, vs = [x, n] ∧ (0 ≤ x ∧ ty x.toNat = 124 ∧ ty (F x.toNat (dI 9 0)).toNat = 126) ∧ zf_tt dI F x.toNat n
  else zPM ua dI ty j F vs
def zUq : List Nat := [84, 86, 88, 105, 106, 111, 112, 43, 77, 79, 114, 115, 116, 118, 119]
def zUa : List Nat := [84, 86, 88, 105, 106, 111, 112, 43, 77, 79, 114, 115, 116, 118, 119, 1000, 1001, 1010, 1011, 1020, 1021, 1030, 1031, 1040, 1041]
theorem zUq_a : ∀ t ∈ zUq, t ∈ zUa := by decide
/-- the cells that the facts speak of, with their types -/
def zUt : List (Nat × Nat) := [(84, 84), (86, 86), (88, 88), (105, 105), (106, 106), (111, 111), (112, 112), (43, 43), (77, 77), (79, 79), (114, 114), (115, 115), (116, 116), (118, 118), (119, 119), (1000, 33), (1001, 33), (1010, 53), (1011, 53), (1020, 55), (1021, 55), (1030, 37), (1031, 37), (1040, 63), (1041, 63)]
def zty (ua : Nat → Nat) (ty : Nat → Nat) : Prop := ∀ q ∈ zUt, ty (ua q.1) = q.2 + 1
/-- fields of one class lie apart -/
def zapt (dI : Nat → Nat → Nat) : Prop := ∀ (ci : Nat) (q : vw_C), zcl[ci]? = some q → ∀ a b : Nat, a < q.2.2 → b < q.2.2 → a ≠ b → dI ci a ≠ dI ci b
/-- facts from 300 on speak of types, too -/
def zPW (ua : Nat → Nat) (dI : Nat → Nat → Nat) (ty : Nat → Nat) (j : Nat) (F : Nat → Nat → Int) (vs : List Int) : Prop := if 300 ≤ j then zPN ua dI ty j F vs else zPP ua dI j F vs
def zk_d2 (D : zD) (ua : Nat → Nat) : Prop := (∀ j, 100 ≤ j → ∀ (ty : Nat → Nat) (H : Heap) (vs : List Int), D.OP j ty H vs ↔ zty ua ty ∧ zPW ua D.dI ty j (zi H) vs) ∧ (∀ t ∈ zUq, ∀ a, D.RO t a → a = ua t) ∧ (∀ t ∈ zUq, (D.TT t).1 ≠ 9) ∧ (∀ t ∈ zUa, ∀ u ∈ zUa, ua t = ua u → t = u) ∧ (∀ t, (D.TT t).1 = 0 → (D.TT t).1 ≠ 9) ∧ (D.TT 33).1 = 0 ∧ (D.TT 33).2.1 = 10 ∧ (∀ a, D.RO 33 a → a = ua 1000 ∨ a = ua 1001) ∧ (∀ (ty : Nat → Nat) (H : Heap) (l : List Int), D.OP 26 ty H l → ∃ a b c : Int, l = [a, b, c] ∧ Int32.ofInt a + Int32.ofInt b = Int32.ofInt c) ∧ D.TT = zTT ∧ (∀ a, D.RO 37 a → a = ua 1030 ∨ a = ua 1031) ∧ (∀ j ∈ [21, 22, 23, 24, 25, 27, 28], ∀ (ty : Nat → Nat) (H : Heap) (l : List Int), D.OP j ty H l → ∃ a b c : Int, l = [a, b, c] ∧ zrec j a b c) ∧ (∀ j ∈ zk_nl, ∀ (ty : Nat → Nat) (H : Heap) (l : List Int), D.OP j ty H l → ∃ a b c : Int, l = [a, b, c] ∧ zk_f (zk_rn j).1 (zk_k (zk_rn j).2.1 a) (zk_k (zk_rn j).2.2 b) = some (zk_k (zk_rn j).2.1 c)) ∧ (∀ (ty : Nat → Nat) (H : Heap) (l : List Int), D.OP 51 ty H l → ∃ a c : Int, l = [a, c] ∧ (Int32.ofInt a).toInt8.toInt32 = Int32.ofInt c) ∧ zapt D.dI
section
variable {D : zD} {ua : Nat → Nat} {ty : Nat → Nat} {H H' : Heap}
theorem zd_at (hD : zk_d2 D ua) (hT : zk_T D ty H) {x : Int} {t : Nat} (h : ty x.toNat = t + 1) (ht : t ∈ zUq) : x.toNat = ua t := hD.2.1 t ht _ (zk_T_RO hT h (hD.2.2.1 t ht))
theorem zd_em (hD : zk_d2 D ua) (hT : zk_T D ty H) {t : Nat} (ht : t ∈ zUq) {l : List Int} (h : zr_pr D ty H (1, t, 0) l) : ∃ x i v : Int, l = [x, i, v] ∧ 0 ≤ i ∧ zi H (ua t) i.toNat = v := by
  unfold zr_pr at h
  rw [if_neg (show ¬ (1 : Nat) = 0 by decide), if_pos rfl] at h
  obtain ⟨x, i, v, e, -, h1, h2, h3⟩ := h
  exact ⟨x, i, v, e, h2, by rw [← zd_at hD hT h1 ht]; exact h3⟩
theorem zd_op {j : Nat} {l : List Int} (hD : zk_d2 D ua) (hj : 100 ≤ j ∧ j < 300) (h : zr_pr D ty H (0, j, 0) l) : zPP ua D.dI j (zi H) l := by
  unfold zr_pr at h
  rw [if_pos rfl] at h
  have h2 := ((hD.1 j hj.1 _ _ _).mp h).2
  unfold zPW at h2
  rw [if_neg (by omega)] at h2
  exact h2
theorem zd_on {j : Nat} {l : List Int} (hD : zk_d2 D ua) (hj : 300 ≤ j) (h : zr_pr D ty H (0, j, 0) l) : zPN ua D.dI ty j (zi H) l := by
  unfold zr_pr at h
  rw [if_pos rfl] at h
  have h2 := ((hD.1 j (by omega) _ _ _).mp h).2
  unfold zPW at h2
  rw [if_pos hj] at h2
  exact h2
theorem zd_ty {j : Nat} {l : List Int} (hD : zk_d2 D ua) (hj : 100 ≤ j) (h : zr_pr D ty H (0, j, 0) l) : zty ua ty := by
  unfold zr_pr at h
  rw [if_pos rfl] at h
  exact ((hD.1 j hj _ _ _).mp h).1
/-- a store outside -/
theorem zd_ne (hD : zk_d2 D ua) (hT : zk_T D ty H) {a : Int} {t i : Nat} (ha : ty a.toNat = t + 1) (ht : t ∈ zUq) (ho : ∀ b k, ¬ (b = a.toNat ∧ k = i) → zi H' b k = zi H b k) {u k : Nat} (hu : u ∈ zUq) (hn : u ≠ t ∨ k ≠ i) : zi H' (ua u) k = zi H (ua u) k := by
  have e := zd_at hD hT ha ht
  refine ho _ _ (fun z => ?_)
  rcases hn with h | h
  · exact h (hD.2.2.2.1 u (zUq_a u hu) t (zUq_a t ht) (by rw [z.1, e]))
  · exact h z.2
end
section
variable {D : zD} {ua : Nat → Nat}
/-- a store into the one array of a type, as a statement about numbers -/
def zs_A (D : zD) (ua : Nat → Nat) (R : zRs) : Prop := ∀ (ty : Nat → Nat) (H H' : Heap) (w a : Int) (i : Nat) (Ls : List (List Int)), zk_T D ty H → zr_all D ty H R.2.1 Ls → zr_cs (0 :: w :: a :: (i : Int) :: Ls.flatten) R.2.2.1 → zi H' (ua R.1.2.1) i = w → (∀ u k, u ∈ zUq → (u ≠ R.1.2.1 ∨ k ≠ i) → zi H' (ua u) k = zi H (ua u) k) → zPP ua D.dI R.2.2.2.1 (zi H') (R.2.2.2.2.map (fun t => (0 :: w :: a :: (i : Int) :: Ls.flatten).getD t.1 0 + t.2))
theorem zs_A_ok (hD : zk_d2 D ua) {R : zRs} (h1 : R.1.1 = 1) (ht : R.1.2.1 ∈ zUq) (hj : 100 ≤ R.2.2.2.1 ∧ R.2.2.2.1 < 300) (h0 : ∃ j ps, R.2.1 = (0, j, 0) :: ps ∧ 100 ≤ j) (h : zs_A D ua R) : zr_okS D R := by
  intro ty H H' w a i hd Ls hT hT' ha hty hh hp hc hw ho
  rw [if_neg (by rw [h1]; decide)] at hh
  subst hh
  obtain ⟨j0, ps0, e0, h0⟩ := h0
  have hz : zty ua ty := by
    have hp' := hp
    rw [e0] at hp'
    obtain ⟨l0, Ls0, -, p0, -⟩ := zr_cons hp'
    exact zd_ty hD h0 p0
  refine (hD.1 _ hj.1 _ _ _).mpr ⟨hz, ?_⟩
  unfold zPW
  rw [if_neg (by omega)]
  refine h ty H H' w a i Ls hT hp hc (by rw [← zd_at hD hT hty ht]; exact hw) (fun u k hu hn => zd_ne hD hT hty ht ho hu hn)
theorem zc1 {es : List Int} {c : Nat × Nat × Int} {cs : List (Nat × Nat × Int)} (h : zr_cs es (c :: cs)) : es.getD c.1 0 ≤ es.getD c.2.1 0 + c.2.2 ∧ zr_cs es cs := ⟨h c List.mem_cons_self, fun c' hc' => h c' (List.mem_cons_of_mem _ hc')⟩
/-- a field of one of the ways -/
theorem zd_wy (hD : zk_d2 D ua) {ty : Nat → Nat} {H : Heap} (hT : zk_T D ty H) {k : Nat} {l : List Int} (h : zr_pr D ty H (2, 33, k) l) : ∃ x v : Int, l = [x, v] ∧ 0 ≤ x ∧ (∃ p, (p = 0 ∨ p = 1) ∧ x.toNat = ua (1000 + p)) ∧ zi H x.toNat (D.dI 10 k) = v := by
  unfold zr_pr at h
  rw [if_neg (show ¬ (2 : Nat) = 0 by decide), if_neg (show ¬ (2 : Nat) = 1 by decide), if_neg (show ¬ (2 : Nat) = 3 by decide)] at h
  obtain ⟨x, v, e, h0, h1, h2⟩ := h
  dsimp only at h1 h2
  rw [hD.2.2.2.2.2.2.1] at h2
  have := hD.2.2.2.2.2.2.2.1 _ (zk_T_RO hT h1 (by rw [hD.2.2.2.2.2.1]; decide))
  refine ⟨x, v, e, h0, ?_, h2⟩
  rcases this with e | e
  · exact ⟨0, Or.inl rfl, e⟩
  · exact ⟨1, Or.inr rfl, e⟩
theorem zd_pl {ty : Nat → Nat} {H : Heap} {t : Nat} {l : List Int} (h : zr_pr D ty H (1, t, 0) l) : ∃ x i v : Int, l = [x, i, v] ∧ 0 ≤ x ∧ 0 ≤ i ∧ zi H x.toNat i.toNat = v := by
  unfold zr_pr at h
  rw [if_neg (show ¬ (1 : Nat) = 0 by decide), if_pos rfl] at h
  obtain ⟨x, i, v, e, h0, h1, h2, h3⟩ := h
  exact ⟨x, i, v, e, h0, h2, h3⟩
theorem zd_plt {ty : Nat → Nat} {H : Heap} {t : Nat} {l : List Int} (h : zr_pr D ty H (1, t, 0) l) : ∃ x i v : Int, l = [x, i, v] ∧ (0 ≤ x ∧ ty x.toNat = t + 1) ∧ 0 ≤ i ∧ zi H x.toNat i.toNat = v := by
  unfold zr_pr at h
  rw [if_neg (show ¬ (1 : Nat) = 0 by decide), if_pos rfl] at h
  obtain ⟨x, i, v, e, h0, h1, h2, h3⟩ := h
  exact ⟨x, i, v, e, ⟨h0, h1⟩, h2, h3⟩
theorem zd_ww (hD : zk_d2 D ua) {t u : Nat} (ht : t ∈ zUa) (hu : u ∈ zUa) (h : t ≠ u) : ua t ≠ ua u := fun e => h (hD.2.2.2.1 t ht u hu e)
/-- a sum that was taken -/
theorem zd_26 (hD : zk_d2 D ua) {ty : Nat → Nat} {H : Heap} {l : List Int} (h : zr_pr D ty H (0, 26, 0) l) : ∃ a b c : Int, l = [a, b, c] ∧ Int32.ofInt a + Int32.ofInt b = Int32.ofInt c := by
  unfold zr_pr at h
  rw [if_pos rfl] at h
  exact hD.2.2.2.2.2.2.2.2.1 _ _ _ h
theorem zd_TT (hD : zk_d2 D ua) : D.TT = zTT := hD.2.2.2.2.2.2.2.2.2.1
theorem zd_ap (hD : zk_d2 D ua) : zapt D.dI := hD.2.2.2.2.2.2.2.2.2.2.2.2.2.2
theorem zd_dI (hD : zk_d2 D ua) : D.dI 3 3 ≠ D.dI 3 10 ∧ D.dI 12 60 ≠ D.dI 12 61 ∧ D.dI 12 60 ≠ D.dI 12 67 ∧ D.dI 12 61 ≠ D.dI 12 67 := by
  have h3 := zd_ap hD 3 (RX3, TX3, 14) rfl
  have h12 := zd_ap hD 12 (RX12, TX12, 73) rfl
  exact ⟨h3 3 10 (by decide) (by decide) (by decide), h12 60 61 (by decide) (by decide) (by decide), h12 60 67 (by decide) (by decide) (by decide), h12 61 67 (by decide) (by decide) (by decide)⟩
/-- what was recorded of a further operation -/
theorem zd_new (hD : zk_d2 D ua) {ty : Nat → Nat} {H : Heap} {j : Nat} (hj : j ∈ zk_nl) {l : List Int} (h : zr_pr D ty H (0, j, 0) l) : ∃ a b c : Int, l = [a, b, c] ∧ zrn j a b c := by
  unfold zr_pr at h
  rw [if_pos rfl] at h
  exact hD.2.2.2.2.2.2.2.2.2.2.2.2.1 j hj _ _ _ h
theorem zd_51 (hD : zk_d2 D ua) {ty : Nat → Nat} {H : Heap} {l : List Int} (h : zr_pr D ty H (0, 51, 0) l) : ∃ a c : Int, l = [a, c] ∧ (Int32.ofInt a).toInt8.toInt32 = Int32.ofInt c := by
  unfold zr_pr at h
  rw [if_pos rfl] at h
  exact hD.2.2.2.2.2.2.2.2.2.2.2.2.2.1 _ _ _ h
theorem zd_rec (hD : zk_d2 D ua) {ty : Nat → Nat} {H : Heap} {j : Nat} (hj : j ∈ [21, 22, 23, 24, 25, 27, 28]) {l : List Int} (h : zr_pr D ty H (0, j, 0) l) : ∃ a b c : Int, l = [a, b, c] ∧ zrec j a b c := by
  unfold zr_pr at h
  rw [if_pos rfl] at h
  exact hD.2.2.2.2.2.2.2.2.2.2.2.1 j hj _ _ _ h
theorem zd_loc {ty : Nat → Nat} {H : Heap} {k j : Nat} {l : List Int} (h : zr_pr D ty H (3, k, j) l) : ∃ v : Int, l = [v] := by
  unfold zr_pr at h
  rw [if_neg (show ¬ (3 : Nat) = 0 by decide), if_neg (show ¬ (3 : Nat) = 1 by decide), if_pos rfl] at h
  exact h
theorem zd_f0 {ty : Nat → Nat} {H : Heap} {t k : Nat} {l : List Int} (h : zr_pr D ty H (2, t, k) l) : ∃ x v : Int, l = [x, v] := by
  unfold zr_pr at h
  rw [if_neg (show ¬ (2 : Nat) = 0 by decide), if_neg (show ¬ (2 : Nat) = 1 by decide), if_neg (show ¬ (2 : Nat) = 3 by decide)] at h
  obtain ⟨x, v, e, -⟩ := h
  exact ⟨x, v, e⟩
/-- a field of a turning -/
theorem zd_f9 (hD : zk_d2 D ua) {ty : Nat → Nat} {H : Heap} {t k : Nat} {l : List Int} (ht : (zTT t).2.1 = 9) (h : zr_pr D ty H (2, t, k) l) : ∃ x v : Int, l = [x, v] ∧ 0 ≤ x ∧ ty x.toNat = t + 1 ∧ zi H x.toNat (D.dI 9 k) = v := by
  unfold zr_pr at h
  rw [if_neg (show ¬ (2 : Nat) = 0 by decide), if_neg (show ¬ (2 : Nat) = 1 by decide), if_neg (show ¬ (2 : Nat) = 3 by decide)] at h
  obtain ⟨x, v, e, h0, h1, h2⟩ := h
  dsimp only at h1 h2
  rw [zd_TT hD, ht] at h2
  exact ⟨x, v, e, h0, h1, h2⟩
theorem zd_f10 (hD : zk_d2 D ua) {ty : Nat → Nat} {H : Heap} {t k : Nat} {l : List Int} (ht : (zTT t).2.1 = 10) (h : zr_pr D ty H (2, t, k) l) : ∃ x v : Int, l = [x, v] ∧ 0 ≤ x ∧ ty x.toNat = t + 1 ∧ zi H x.toNat (D.dI 10 k) = v := by
  unfold zr_pr at h
  rw [if_neg (show ¬ (2 : Nat) = 0 by decide), if_neg (show ¬ (2 : Nat) = 1 by decide), if_neg (show ¬ (2 : Nat) = 3 by decide)] at h
  obtain ⟨x, v, e, h0, h1, h2⟩ := h
  dsimp only at h1 h2
  rw [zd_TT hD, ht] at h2
  exact ⟨x, v, e, h0, h1, h2⟩
theorem zd_f4 (hD : zk_d2 D ua) {ty : Nat → Nat} {H : Heap} {t k : Nat} {l : List Int} (ht : (zTT t).2.1 = 4) (h : zr_pr D ty H (2, t, k) l) : ∃ x v : Int, l = [x, v] ∧ 0 ≤ x ∧ ty x.toNat = t + 1 ∧ zi H x.toNat (D.dI 4 k) = v := by
  unfold zr_pr at h
  rw [if_neg (show ¬ (2 : Nat) = 0 by decide), if_neg (show ¬ (2 : Nat) = 1 by decide), if_neg (show ¬ (2 : Nat) = 3 by decide)] at h
  obtain ⟨x, v, e, h0, h1, h2⟩ := h
  dsimp only at h1 h2
  rw [zd_TT hD, ht] at h2
  exact ⟨x, v, e, h0, h1, h2⟩
theorem zd_f7 (hD : zk_d2 D ua) {ty : Nat → Nat} {H : Heap} {t k : Nat} {l : List Int} (ht : (zTT t).2.1 = 7) (h : zr_pr D ty H (2, t, k) l) : ∃ x v : Int, l = [x, v] ∧ 0 ≤ x ∧ ty x.toNat = t + 1 ∧ zi H x.toNat (D.dI 7 k) = v := by
  unfold zr_pr at h
  rw [if_neg (show ¬ (2 : Nat) = 0 by decide), if_neg (show ¬ (2 : Nat) = 1 by decide), if_neg (show ¬ (2 : Nat) = 3 by decide)] at h
  obtain ⟨x, v, e, h0, h1, h2⟩ := h
  dsimp only at h1 h2
  rw [zd_TT hD, ht] at h2
  exact ⟨x, v, e, h0, h1, h2⟩
theorem zd_r9 (hD : zk_d2 D ua) {ty : Nat → Nat} {H : Heap} (hT : zk_T D ty H) {a t u : Nat} (hx : ty a = t + 1) (h0 : (zTT t).1 = 0) (hk : (zTT t).2.2[0]? = some (2, [((u : Int), 0)])) (h9 : (zTT t).2.1 = 9) : ty (zi H a (D.dI 9 0)).toNat = u + 1 := by
  have h := hT.2 a t hx
  rw [zd_TT hD, if_neg (by rw [h0]; decide)] at h
  have h := h.2
  unfold zk_C at h
  rw [if_pos h0] at h
  obtain ⟨cell, hc, -, -, h⟩ := h
  obtain ⟨y, hy, z, e1, i, hi, hv⟩ := h 0 _ hk
  rw [List.mem_singleton.mp hi, if_pos rfl] at hv
  rw [h9] at hy
  have e2 : zi H a (D.dI 9 0) = ((z.toNat : Nat) : Int) := by
    unfold zi
    rw [hc]
    dsimp only
    rw [hy, e1]
    rfl
  rw [e2, Int.toNat_natCast]
  simpa using hv.2
theorem zd_ref (hD : zk_d2 D ua) {ty : Nat → Nat} {H : Heap} (hT : zk_T D ty H) {t k u : Nat} {l : List Int} (h0 : (zTT t).1 = 0) (hk : (zTT t).2.2[k]? = some (2, [((u : Int), 0)])) (h : zr_pr D ty H (2, t, k) l) : ∃ x v : Int, l = [x, v] ∧ 0 ≤ v ∧ ty v.toNat = u + 1 := by
  unfold zr_pr at h
  rw [if_neg (show ¬ (2 : Nat) = 0 by decide), if_neg (show ¬ (2 : Nat) = 1 by decide), if_neg (show ¬ (2 : Nat) = 3 by decide)] at h
  obtain ⟨x, v, e, x0, hx, hv⟩ := h
  dsimp only at hx hv
  rw [zd_TT hD] at hv
  have g := hT.2 x.toNat t hx
  rw [zd_TT hD, if_neg (by rw [h0]; decide)] at g
  have g := g.2
  unfold zk_C at g
  rw [if_pos h0] at g
  obtain ⟨cell, hc, -, -, g⟩ := g
  obtain ⟨y, hy, z, e1, i, hi, hw⟩ := g k _ hk
  rw [List.mem_singleton.mp hi, if_pos rfl] at hw
  have e2 : zi H x.toNat (D.dI (zTT t).2.1 k) = ((z.toNat : Nat) : Int) := by
    unfold zi
    rw [hc]
    dsimp only
    rw [hy, e1]
    rfl
  rw [e2] at hv
  subst hv
  exact ⟨x, _, e, by omega, by rw [Int.toNat_natCast]; simpa using hw.2⟩
/-- a field of the one reference -/
theorem zd_fm (hD : zk_d2 D ua) {ty : Nat → Nat} {H : Heap} (hT : zk_T D ty H) {k : Nat} {l : List Int} (h : zr_pr D ty H (2, 43, k) l) : ∃ x v : Int, l = [x, v] ∧ zi H (ua 43) (D.dI 12 k) = v := by
  unfold zr_pr at h
  rw [if_neg (show ¬ (2 : Nat) = 0 by decide), if_neg (show ¬ (2 : Nat) = 1 by decide), if_neg (show ¬ (2 : Nat) = 3 by decide)] at h
  obtain ⟨x, v, e, h0, h1, h2⟩ := h
  dsimp only at h1 h2
  rw [zd_at hD hT h1 (by decide), zd_TT hD, show (zTT 43).2.1 = 12 by decide] at h2
  exact ⟨x, v, e, h2⟩
/-- a field of one of the done hands -/
theorem zd_hd (hD : zk_d2 D ua) {ty : Nat → Nat} {H : Heap} (hT : zk_T D ty H) {k : Nat} {l : List Int} (h : zr_pr D ty H (2, 37, k) l) : ∃ x v : Int, l = [x, v] ∧ 0 ≤ x ∧ (∃ p, (p = 0 ∨ p = 1) ∧ x.toNat = ua (1030 + p)) ∧ zi H x.toNat (D.dI 3 k) = v := by
  unfold zr_pr at h
  rw [if_neg (show ¬ (2 : Nat) = 0 by decide), if_neg (show ¬ (2 : Nat) = 1 by decide), if_neg (show ¬ (2 : Nat) = 3 by decide)] at h
  obtain ⟨x, v, e, h0, h1, h2⟩ := h
  dsimp only at h1 h2
  rw [zd_TT hD, show (zTT 37).2.1 = 3 by decide] at h2
  have := hD.2.2.2.2.2.2.2.2.2.2.1 _ (zk_T_RO hT h1 (by rw [zd_TT hD]; decide))
  refine ⟨x, v, e, h0, ?_, h2⟩
  rcases this with e | e
  · exact ⟨0, Or.inl rfl, e⟩
  · exact ⟨1, Or.inr rfl, e⟩
/-- a store into a field of the one reference -/
def zs_F (D : zD) (ua : Nat → Nat) (R : zRs) : Prop := ∀ (ty : Nat → Nat) (H H' : Heap) (w a : Int) (Ls : List (List Int)), zk_T D ty H → zr_all D ty H R.2.1 Ls → zr_cs (0 :: w :: a :: Ls.flatten) R.2.2.1 → zi H' (ua 43) (D.dI 12 R.1.2.2) = w → (∀ u k, u ∈ zUq → (u ≠ 43 ∨ k ≠ D.dI 12 R.1.2.2) → zi H' (ua u) k = zi H (ua u) k) → zPP ua D.dI R.2.2.2.1 (zi H') (R.2.2.2.2.map (fun t => (0 :: w :: a :: Ls.flatten).getD t.1 0 + t.2))
theorem zs_F_ok (hD : zk_d2 D ua) {R : zRs} (h1 : R.1.1 = 0) (ht : R.1.2.1 = 43) (hj : 100 ≤ R.2.2.2.1 ∧ R.2.2.2.1 < 300) (h0 : ∃ j ps, R.2.1 = (0, j, 0) :: ps ∧ 100 ≤ j) (h : zs_F D ua R) : zr_okS D R := by
  intro ty H H' w a i hd Ls hT hT' ha hty hh hp hc hw ho
  rw [if_pos h1, ht, zd_TT hD, show (zTT 43).2.1 = 12 by decide] at hh
  obtain ⟨rfl, rfl⟩ := hh
  rw [ht] at hty
  obtain ⟨j0, ps0, e0, h0⟩ := h0
  have hz : zty ua ty := by
    have hp' := hp
    rw [e0] at hp'
    obtain ⟨l0, Ls0, -, p0, -⟩ := zr_cons hp'
    exact zd_ty hD h0 p0
  refine (hD.1 _ hj.1 _ _ _).mpr ⟨hz, ?_⟩
  unfold zPW
  rw [if_neg (by omega)]
  exact h ty H H' w a Ls hT hp hc (by rw [← zd_at hD hT hty (by decide)]; exact hw) (fun u k hu hn => zd_ne hD hT hty (by decide) ho hu hn)
/-- a store into what a hand has seen, or into its count -/
theorem zh_A (hD : zk_d2 D ua) {H H' : Heap} {P P' : Nat → (Nat → Int) → Int → Prop} (h : zf_hd ua D.dI (zi H) P) {q a i : Nat} (hq : q = 0 ∨ q = 1) (e1 : a = ua (1040 + q)) (ho : ∀ b k, ¬ (b = a ∧ k = i) → zi H' b k = zi H b k) (hne : ∀ b f n, b ≠ ua (1030 + q) → P b f n → P' b f n) (heq : (∀ j, j ≠ i → zi H' (ua (1040 + q)) j = zi H (ua (1040 + q)) j) → P (ua (1030 + q)) (zi H (ua (1040 + q))) (zi H (ua (1030 + q)) (D.dI 3 10)) → P' (ua (1030 + q)) (zi H' (ua (1040 + q))) (zi H (ua (1030 + q)) (D.dI 3 10))) : zf_hd ua D.dI (zi H') P' := by
  subst e1
  intro p hp
  obtain ⟨g1, g2⟩ := h p hp
  have n1 : ua (1030 + p) ≠ ua (1040 + q) := zd_ww hD (by rcases hp with rfl | rfl <;> decide) (by rcases hq with rfl | rfl <;> decide) (by omega)
  have e3 : ∀ k, zi H' (ua (1030 + p)) k = zi H (ua (1030 + p)) k := fun k => ho _ _ (fun z => n1 z.1)
  rw [e3, e3]
  refine ⟨g1, ?_⟩
  by_cases e : p = q
  · subst e
    exact heq (fun j hj => ho _ _ (fun z => hj z.2)) g2
  · have n2 : ua (1040 + p) ≠ ua (1040 + q) := zd_ww hD (by rcases hp with rfl | rfl <;> decide) (by rcases hq with rfl | rfl <;> decide) (by omega)
    have n3 : ua (1030 + p) ≠ ua (1030 + q) := zd_ww hD (by rcases hp with rfl | rfl <;> decide) (by rcases hq with rfl | rfl <;> decide) (by omega)
    have e4 : zi H' (ua (1040 + p)) = zi H (ua (1040 + p)) := funext (fun k => ho _ _ (fun z => n2 z.1))
    rw [e4]
    exact hne _ _ _ n3 g2
theorem zh_F (hD : zk_d2 D ua) {H H' : Heap} {P P' : Nat → (Nat → Int) → Int → Prop} (h : zf_hd ua D.dI (zi H) P) {q a : Nat} {w : Int} (hq : q = 0 ∨ q = 1) (e1 : a = ua (1030 + q)) (hw : zi H' a (D.dI 3 10) = w) (ho : ∀ b k, ¬ (b = a ∧ k = D.dI 3 10) → zi H' b k = zi H b k) (hne : ∀ b f n, b ≠ ua (1030 + q) → P b f n → P' b f n) (heq : P (ua (1030 + q)) (zi H (ua (1040 + q))) (zi H (ua (1030 + q)) (D.dI 3 10)) → P' (ua (1030 + q)) (zi H (ua (1040 + q))) w) : zf_hd ua D.dI (zi H') P' := by
  subst e1
  intro p hp
  obtain ⟨g1, g2⟩ := h p hp
  have n1 : ua (1040 + p) ≠ ua (1030 + q) := zd_ww hD (by rcases hp with rfl | rfl <;> decide) (by rcases hq with rfl | rfl <;> decide) (by omega)
  have e3 : zi H' (ua (1040 + p)) = zi H (ua (1040 + p)) := funext (fun k => ho _ _ (fun z => n1 z.1))
  rw [e3, ho _ _ (fun z => (zd_dI hD).1 z.2)]
  refine ⟨g1, ?_⟩
  by_cases e : p = q
  · subst e
    rw [hw]
    exact heq g2
  · have n3 : ua (1030 + p) ≠ ua (1030 + q) := zd_ww hD (by rcases hp with rfl | rfl <;> decide) (by rcases hq with rfl | rfl <;> decide) (by omega)
    rw [ho _ _ (fun z => n3 z.1)]
    exact hne _ _ _ n3 g2
theorem zp_bi_ne {x c v : Int} {a : Nat} {f : Nat → Int} {n : Int} (h : a ≠ x.toNat) : zp_bi x c v a f n ↔ zf_cl f n := by
  unfold zp_bi
  rw [if_neg h]
theorem zp_bi_eq {x c v : Int} {a : Nat} {f : Nat → Int} {n : Int} (h : a = x.toNat) : zp_bi x c v a f n ↔ zf_bi f n c v := by
  unfold zp_bi
  rw [if_pos h]
theorem zp_hw_ne {x v : Int} {a : Nat} {f : Nat → Int} {n : Int} (h : a ≠ x.toNat) : zp_hw x v a f n ↔ zf_cl f n := by
  unfold zp_hw
  rw [if_neg h]
theorem zp_hw_eq {x v : Int} {a : Nat} {f : Nat → Int} {n : Int} (h : a = x.toNat) : zp_hw x v a f n ↔ zf_hw f n v := by
  unfold zp_hw
  rw [if_pos h]
/-- the lists' sizes -/
theorem zd_many (hD : zk_d2 D ua) {ty : Nat → Nat} {H : Heap} (hT : zk_T D ty H) (hz : zty ua ty) {s : Nat} (hs : s = 0 ∨ s = 1) : 0 ≤ zi H (ua 77) s ∧ zi H (ua 77) s ≤ 40 := by
  have h := hT.2 (ua 77) 77 (hz (77, 77) (by decide))
  rw [zd_TT hD, if_neg (by decide)] at h
  obtain ⟨-, h⟩ := h
  unfold zk_C at h
  rw [if_neg (by decide)] at h
  obtain ⟨cell, hc, -, -, -, h⟩ := h
  obtain ⟨x, hx, z, e1, i, hi, hv⟩ := h s (by rcases hs with rfl | rfl <;> decide)
  have e2 : zk_el (zTT 77).2.2 s = (0, [(0, 40)]) := by rcases hs with rfl | rfl <;> decide
  rw [e2] at e1 hi hv
  rw [List.mem_singleton.mp hi, if_neg (by decide)] at hv
  unfold zi
  rw [hc]
  dsimp only
  rw [hx, e1]
  show 0 ≤ (Int32.ofInt z).toInt ∧ (Int32.ofInt z).toInt ≤ 40
  dsimp only at hv
  rw [zk_i32 (by omega) (by omega)]
  exact hv
theorem zc_t_eq {F G : Nat → Nat → Int} {s d x : Int} {c : Nat} (hs : s = 0 ∨ s = 1) (hm : F (ua 77) s.toNat ≤ 40) (h77 : G (ua 77) s.toNat = F (ua 77) s.toNat) (h79 : ∀ j, j < 80 → G (ua 79) j = F (ua 79) j) (hr : ∀ j, j < c → G (ua 114) j = F (ua 114) j ∧ G (ua 115) j = F (ua 115) j ∧ G (ua 116) j = F (ua 116) j ∧ G (ua 118) j = F (ua 118) j) : zc_t ua G s d c x = zc_t ua F s d c x := by
  unfold zc_t
  rw [h77, zc_r_eq hr, zc_n_eq (fun j hj => h79 _ (by rcases hs with rfl | rfl <;> omega))]
theorem zf_ch_eq {F G : Nat → Nat → Int} {n L : Int} (h77 : ∀ s, s = 0 ∨ s = 1 → G (ua 77) s = F (ua 77) s) (hm : ∀ s, s = 0 ∨ s = 1 → F (ua 77) s ≤ 40) (h79 : ∀ j, j < 80 → G (ua 79) j = F (ua 79) j) (hr : ∀ j : Nat, (j : Int) < n → G (ua 114) j = F (ua 114) j ∧ G (ua 115) j = F (ua 115) j ∧ G (ua 116) j = F (ua 116) j ∧ G (ua 118) j = F (ua 118) j) (h : zf_ch ua F n L) : zf_ch ua G n L := by
  refine ⟨h.1, fun c hc => ?_⟩
  obtain ⟨a1, a2, a3, a4⟩ := h.2 c hc
  obtain ⟨r1, r2, r3, r4⟩ := hr c hc
  rw [r1, r2, r3, r4]
  refine ⟨a1, fun j hj => by rw [(hr j (by omega)).2.1]; exact a2 j hj, a3, fun h' => ?_⟩
  have hs : (F (ua 114) c).toNat = 0 ∨ (F (ua 114) c).toNat = 1 := by omega
  rw [zc_t_eq a3 (hm _ hs) (h77 _ hs) h79 (fun j hj => hr j (by omega))]
  exact a4 h'
theorem zc_t_fun {F G : Nat → Nat → Int} {s d x : Int} {c : Nat} (h : ∀ t ∈ [77, 79, 114, 115, 116, 118], G (ua t) = F (ua t)) : zc_t ua G s d c x = zc_t ua F s d c x := by
  unfold zc_t
  rw [h 77 (by decide), h 79 (by decide), h 114 (by decide), h 115 (by decide), h 116 (by decide), h 118 (by decide)]
theorem zf_ch_fun {F G : Nat → Nat → Int} {n L : Int} (h : ∀ t ∈ [77, 79, 114, 115, 116, 118], G (ua t) = F (ua t)) : zf_ch ua G n L ↔ zf_ch ua F n L := by
  unfold zf_ch
  simp only [h 114 (by decide), h 115 (by decide), h 116 (by decide), h 118 (by decide), zc_t_fun h]
theorem zc_t_succ {F : Nat → Nat → Int} {s d x : Int} {c : Nat} : zc_t ua F s d (c + 1) x = zc_t ua F s d c x + (if F (ua 114) c = s ∧ F (ua 115) c ≤ d ∧ F (ua 116) c = x then (if 1 ≤ F (ua 118) c then 1 else -1) else 0) := by
  show zc_n _ x _ + (zc_r _ _ _ _ s d x c + _) = zc_n _ x _ + zc_r _ _ _ _ s d x c + _
  omega
theorem zUq6 : ∀ t ∈ [77, 79, 114, 115, 116, 118], t ∈ zUq ∧ t ≠ 43 ∧ t ≠ 119 := by decide
theorem zd_sum {a b c : Int} (h : Int32.ofInt a + Int32.ofInt b = Int32.ofInt c) (h1 : -2147483648 ≤ a + b) (h2 : a + b ≤ 2147483647) (h3 : -2147483648 ≤ c) (h4 : c ≤ 2147483647) : c = a + b := by
  rw [← Int32.ofInt_add] at h
  have := congrArg Int32.toInt h
  rw [zk_i32 h1 h2, zk_i32 h3 h4] at this
  exact this.symm
end
