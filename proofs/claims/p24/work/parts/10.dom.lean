/-! THE CHECKER, 1: symbolic whole numbers. A value is (tag, symbol, offset): tag 0 int, 1 long, 2 reference, 3 null; a valuation gives each symbol a whole number; symbol 0 is 0. -/
abbrev zV : Type := Nat × Nat × Int
/-- what is known of the numbers: intervals (x, lo, hi); differences (x, y, c): x ≤ y + c; answers of lcmp (r, v, w); x ≠ c -/
abbrev zP : Type := List (Nat × Int × Int) × List (Nat × Nat × Int) × List (Nat × zV × zV) × List (Nat × Int)
def zk_n (r : Nat → Int) (v : zV) : Int := r v.2.1 + v.2.2
def zk_k (t : Nat) (z : Int) : Value := match t with
  | 0 => .int (Int32.ofInt z)
  | 1 => .long (Int64.ofInt z)
  | 2 => .ref z.toNat
  | _ => .null
def zk_c (r : Nat → Int) (v : zV) : Value := zk_k v.1 (zk_n r v)
def zk_sg (a b c : Int) : Prop := (a < 0 ↔ b < c) ∧ (a = 0 ↔ b = c) ∧ (0 < a ↔ c < b)
def zk_P (r : Nat → Int) (P : zP) : Prop := (∀ q ∈ P.1, q.2.1 ≤ r q.1 ∧ r q.1 ≤ q.2.2) ∧ (∀ q ∈ P.2.1, r q.1 ≤ r q.2.1 + q.2.2) ∧ (∀ q ∈ P.2.2.1, zk_sg (r q.1) (zk_n r q.2.1) (zk_n r q.2.2)) ∧ (∀ q ∈ P.2.2.2, r q.1 ≠ q.2)
def zk_iv : List (Nat × Int × Int) → Nat → Option (Int × Int)
  | [], _ => none
  | q :: l, x => if q.1 = x then some q.2 else zk_iv l x
theorem zk_iv_mem : ∀ {l : List (Nat × Int × Int)} {x : Nat} {q : Int × Int}, zk_iv l x = some q → (x, q) ∈ l
  | [], _, _, h => by simp [zk_iv] at h
  | y :: l, x, q, h => by
    unfold zk_iv at h
    split at h
    · rename_i h1
      cases h
      rw [← h1]
      exact List.mem_cons_self
    · exact List.mem_cons_of_mem _ (zk_iv_mem h)
/-- the bounds of a value -/
def zk_r (P : zP) (v : zV) : Option (Int × Int) := match zk_iv P.1 v.2.1 with
  | none => none
  | some q => some (q.1 + v.2.2, q.2 + v.2.2)
theorem zk_r_ok {r : Nat → Int} {P : zP} (h : zk_P r P) {v : zV} {q : Int × Int} (hq : zk_r P v = some q) : q.1 ≤ zk_n r v ∧ zk_n r v ≤ q.2 := by
  unfold zk_r at hq
  split at hq
  · cases hq
  · rename_i q1 h1
    have h2 := h.1 _ (zk_iv_mem h1)
    cases hq
    unfold zk_n
    dsimp only at h2 ⊢
    omega
def zk_set : List (Nat × Int × Int) → Nat → Int → Int → List (Nat × Int × Int)
  | [], x, lo, hi => [(x, lo, hi)]
  | q :: l, x, lo, hi => if q.1 = x then (x, lo, hi) :: l else q :: zk_set l x lo hi
theorem zk_set_ok {r : Nat → Int} {x : Nat} {lo hi : Int} (h2 : lo ≤ r x ∧ r x ≤ hi) : ∀ {l : List (Nat × Int × Int)}, (∀ q ∈ l, q.2.1 ≤ r q.1 ∧ r q.1 ≤ q.2.2) → ∀ q ∈ zk_set l x lo hi, q.2.1 ≤ r q.1 ∧ r q.1 ≤ q.2.2
  | [], _, q, hq => by
    simp only [zk_set, List.mem_singleton] at hq
    subst hq
    exact h2
  | y :: l, h, q, hq => by
    unfold zk_set at hq
    split at hq
    · rcases List.mem_cons.mp hq with rfl | hq
      · exact h2
      · exact h q (List.mem_cons_of_mem _ hq)
    · rcases List.mem_cons.mp hq with rfl | hq
      · exact h _ List.mem_cons_self
      · exact zk_set_ok h2 (fun z hz => h z (List.mem_cons_of_mem _ hz)) q hq
/-- known: v ≤ w + c -/
def zk_leb (P : zP) (v w : zV) (c : Int) : Bool :=
  (v.2.1 = w.2.1 && decide (v.2.2 ≤ w.2.2 + c)) || (match zk_r P v, zk_r P w with
    | some a, some b => decide (a.2 ≤ b.1 + c)
    | _, _ => false) || P.2.1.any (fun q => q.1 = v.2.1 && q.2.1 = w.2.1 && decide (q.2.2 + v.2.2 ≤ w.2.2 + c))
theorem zk_leb_ok {r : Nat → Int} {P : zP} (h : zk_P r P) {v w : zV} {c : Int} (hb : zk_leb P v w c = true) : zk_n r v ≤ zk_n r w + c := by
  unfold zk_leb at hb
  simp only [Bool.or_eq_true, Bool.and_eq_true, decide_eq_true_eq, List.any_eq_true] at hb
  rcases hb with (⟨h1, h2⟩ | hb) | ⟨q, hq, ⟨h1, h2⟩, h3⟩
  · unfold zk_n; rw [h1]; omega
  · split at hb
    · rename_i a b ha hb2
      have h1 := zk_r_ok h ha
      have h2 := zk_r_ok h hb2
      simp only [decide_eq_true_eq] at hb
      omega
    · cases hb
  · have h4 := h.2.1 q hq
    rw [h1, h2] at h4
    unfold zk_n
    omega
/-- taken: v ≤ w + c. none: that can't be -/
def zk_le (P : zP) (v w : zV) (c : Int) : Option zP :=
  if v.2.1 = w.2.1 then (if v.2.2 ≤ w.2.2 + c then some P else none) else
  match zk_r P v, zk_r P w with
  | some a, some b => if zk_leb P w v (-c - 1) then none else
      some (if b.1 < a.1 - c then zk_set (if b.2 + c < a.2 then zk_set P.1 v.2.1 (a.1 - v.2.2) (b.2 + c - v.2.2) else P.1) w.2.1 (a.1 - c - w.2.2) (b.2 - w.2.2) else (if b.2 + c < a.2 then zk_set P.1 v.2.1 (a.1 - v.2.2) (b.2 + c - v.2.2) else P.1), if v.2.1 = 0 ∨ w.2.1 = 0 then P.2.1 else (v.2.1, w.2.1, w.2.2 + c - v.2.2) :: P.2.1, P.2.2)
  | _, _ => some P
theorem zk_le_ok {r : Nat → Int} {P : zP} (h : zk_P r P) {v w : zV} {c : Int} (hv : zk_n r v ≤ zk_n r w + c) : ∃ P', zk_le P v w c = some P' ∧ zk_P r P' := by
  unfold zk_le
  split
  · rename_i e
    rw [if_pos (by unfold zk_n at hv; rw [e] at hv; omega)]
    exact ⟨P, rfl, h⟩
  split
  · rename_i a b ha hb
    have h1 := zk_r_ok h ha
    have h2 := zk_r_ok h hb
    rw [if_neg (fun z => by
      have := zk_leb_ok h z
      omega)]
    refine ⟨_, rfl, ?_, ?_, h.2.2⟩
    · have s1 : ∀ q ∈ (if b.2 + c < a.2 then zk_set P.1 v.2.1 (a.1 - v.2.2) (b.2 + c - v.2.2) else P.1), q.2.1 ≤ r q.1 ∧ r q.1 ≤ q.2.2 := by
        split
        · exact zk_set_ok (by unfold zk_n at *; omega) h.1
        · exact h.1
      dsimp only
      split
      · refine zk_set_ok ?_ s1
        unfold zk_n at *
        omega
      · exact s1
    · intro q hq
      dsimp only at hq
      split at hq
      · exact h.2.1 q hq
      · rcases List.mem_cons.mp hq with rfl | hq
        · unfold zk_n at hv
          dsimp only
          omega
        · exact h.2.1 q hq
  · exact ⟨P, rfl, h⟩
/-- taken: v ≠ w -/
def zk_ne (P : zP) (v w : zV) : Option zP :=
  if v.2.1 = w.2.1 then (if v.2.2 = w.2.2 then none else some P) else
  match zk_r P v, zk_r P w with
  | some a, some b =>
    if b.1 = b.2 then
      (if a.1 = b.1 then (if a.2 = b.1 then none else some (zk_set P.1 v.2.1 (a.1 + 1 - v.2.2) (a.2 - v.2.2), P.2))
      else if a.2 = b.1 then some (zk_set P.1 v.2.1 (a.1 - v.2.2) (a.2 - 1 - v.2.2), P.2)
      else some (P.1, P.2.1, P.2.2.1, (v.2.1, b.1 - v.2.2) :: P.2.2.2))
    else if a.1 = a.2 then
      (if b.1 = a.1 then some (zk_set P.1 w.2.1 (b.1 + 1 - w.2.2) (b.2 - w.2.2), P.2)
      else if b.2 = a.1 then some (zk_set P.1 w.2.1 (b.1 - w.2.2) (b.2 - 1 - w.2.2), P.2)
      else some (P.1, P.2.1, P.2.2.1, (w.2.1, a.1 - w.2.2) :: P.2.2.2))
    else if zk_leb P v w 0 && zk_leb P w v 0 then none else some P
  | _, _ => some P
theorem zk_ne_ok {r : Nat → Int} {P : zP} (h : zk_P r P) {v w : zV} (hv : zk_n r v ≠ zk_n r w) : ∃ P', zk_ne P v w = some P' ∧ zk_P r P' := by
  unfold zk_ne
  split
  · rename_i e1
    split
    · rename_i e2
      exact absurd (by unfold zk_n; rw [e1, e2]) hv
    · exact ⟨_, rfl, h⟩
  split
  · rename_i a b ha hb
    have h1 := zk_r_ok h ha
    have h2 := zk_r_ok h hb
    split
    · split
      · split
        · exact absurd (by omega) hv
        · exact ⟨_, rfl, zk_set_ok (by unfold zk_n at *; omega) h.1, h.2⟩
      · split
        · exact ⟨_, rfl, zk_set_ok (by unfold zk_n at *; omega) h.1, h.2⟩
        · refine ⟨_, rfl, h.1, h.2.1, h.2.2.1, fun q hq => ?_⟩
          rcases List.mem_cons.mp hq with rfl | hq
          · unfold zk_n at *
            dsimp only
            omega
          · exact h.2.2.2 q hq
    · split
      · split
        · exact ⟨_, rfl, zk_set_ok (by unfold zk_n at *; omega) h.1, h.2⟩
        · split
          · exact ⟨_, rfl, zk_set_ok (by unfold zk_n at *; omega) h.1, h.2⟩
          · refine ⟨_, rfl, h.1, h.2.1, h.2.2.1, fun q hq => ?_⟩
            rcases List.mem_cons.mp hq with rfl | hq
            · unfold zk_n at *
              dsimp only
              omega
            · exact h.2.2.2 q hq
      · split
        · rename_i e
          simp only [Bool.and_eq_true] at e
          have k1 := zk_leb_ok h e.1
          have k2 := zk_leb_ok h e.2
          exact absurd (by omega) hv
        · exact ⟨_, rfl, h⟩
  · exact ⟨_, rfl, h⟩
/-- taken: v = w -/
def zk_eq (P : zP) (v w : zV) : Option zP := match zk_le P v w 0 with
  | none => none
  | some P1 => zk_le P1 w v 0
theorem zk_eq_ok {r : Nat → Int} {P : zP} (h : zk_P r P) {v w : zV} (hv : zk_n r v = zk_n r w) : ∃ P', zk_eq P v w = some P' ∧ zk_P r P' := by
  unfold zk_eq
  obtain ⟨P1, e1, h1⟩ := zk_le_ok h (v := v) (w := w) (c := 0) (by omega)
  rw [e1]
  exact zk_le_ok h1 (by omega)
/-- known: v ≠ 0 -/
def zk_nz (P : zP) (v : zV) : Bool := (match zk_r P v with
    | some a => decide (0 < a.1) || decide (a.2 < 0)
    | none => false) || P.2.2.2.any (fun q => q.1 = v.2.1 && decide (q.2 + v.2.2 = 0))
theorem zk_nz_ok {r : Nat → Int} {P : zP} (h : zk_P r P) {v : zV} (hb : zk_nz P v = true) : zk_n r v ≠ 0 := by
  unfold zk_nz at hb
  simp only [Bool.or_eq_true, Bool.and_eq_true, decide_eq_true_eq, List.any_eq_true] at hb
  rcases hb with hb | ⟨q, hq, h1, h2⟩
  · split at hb
    · rename_i a ha
      have h1 := zk_r_ok h ha
      simp only [Bool.or_eq_true, decide_eq_true_eq] at hb
      omega
    · cases hb
  · have h3 := h.2.2.2 q hq
    rw [h1] at h3
    unfold zk_n
    omega
/-- known: v lies in an interval -/
def zk_inb (P : zP) (v : zV) (lo hi : Int) : Bool := match zk_r P v with
  | some a => decide (lo ≤ a.1) && decide (a.2 ≤ hi)
  | none => false
theorem zk_inb_ok {r : Nat → Int} {P : zP} (h : zk_P r P) {v : zV} {lo hi : Int} (hb : zk_inb P v lo hi = true) : lo ≤ zk_n r v ∧ zk_n r v ≤ hi := by
  unfold zk_inb at hb
  split at hb
  · rename_i a ha
    have h1 := zk_r_ok h ha
    simp only [Bool.and_eq_true, decide_eq_true_eq] at hb
    omega
  · cases hb
theorem zk_i32 {a : Int} (h1 : -2147483648 ≤ a) (h2 : a ≤ 2147483647) : (Int32.ofInt a).toInt = a := Int32.toInt_ofInt_of_le (by omega) (by omega)
theorem zk_i64 {a : Int} (h1 : -9223372036854775808 ≤ a) (h2 : a ≤ 9223372036854775807) : (Int64.ofInt a).toInt = a := Int64.toInt_ofInt_of_le (by omega) (by omega)
theorem zk_b32 (x : Int32) : -2147483648 ≤ x.toInt ∧ x.toInt ≤ 2147483647 := by
  have h1 := x.minValue_le_toInt
  have h2 := x.toInt_le
  have e1 : Int32.minValue.toInt = -2147483648 := by decide
  have e2 : Int32.maxValue.toInt = 2147483647 := by decide
  omega
theorem zk_b64 (x : Int64) : -9223372036854775808 ≤ x.toInt ∧ x.toInt ≤ 9223372036854775807 := by
  have h1 := x.minValue_le_toInt
  have h2 := x.toInt_le
  have e1 : Int64.minValue.toInt = -9223372036854775808 := by decide
  have e2 : Int64.maxValue.toInt = 9223372036854775807 := by decide
  omega
