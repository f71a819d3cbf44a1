section
/-! THE CHECKER, 1: symbolic whole numbers. A value is (tag, symbol, offset): tag 0 int, 1 long, 2 reference, 3 null; a valuation gives each symbol a whole number; symbol 0 is 0. -/
abbrev zV : Type := Nat × Nat × Int
/-- what is known of the numbers: intervals (x, lo, hi); differences (x, y, c): x ≤ y + c; answers of lcmp (r, v, w); x ≠ c -/
abbrev zP : Type := List (Nat × Int × Int) × List (Nat × Nat × Int) × List (Nat × zV × zV) × List (Nat × Int)
def zk_n (r : Nat → Int) (v : zV) : Int := r v.2.1 + v.2.2
def zk_k (t : Nat) (z : Int) : Value := match t with
  | 0 => .int (Int32.ofInt z)
  | 1 => .long (Int64.ofInt z)
  | 2 => .ref z.toNat
  | _ => .null
def zk_c (r : Nat → Int) (v : zV) : Value := zk_k v.1 (zk_n r v)
def zk_sg (a b c : Int) : Prop := (a < 0 ↔ b < c) ∧ (a = 0 ↔ b = c) ∧ (0 < a ↔ c < b)
def zk_P (r : Nat → Int) (P : zP) : Prop := (∀ q ∈ P.1, q.2.1 ≤ r q.1 ∧ r q.1 ≤ q.2.2) ∧ (∀ q ∈ P.2.1, r q.1 ≤ r q.2.1 + q.2.2) ∧ (∀ q ∈ P.2.2.1, zk_sg (r q.1) (zk_n r q.2.1) (zk_n r q.2.2)) ∧ (∀ q ∈ P.2.2.2, r q.1 ≠ q.2)
def zk_iv : List (Nat × Int × Int) → Nat → Option (Int × Int)
  | [], _ => none
  | q :: l, x => if q.1 = x then some q.2 else zk_iv l x
theorem zk_iv_mem : ∀ {l : List (Nat × Int × Int)} {x : Nat} {q : Int × Int}, zk_iv l x = some q → (x, q) ∈ l
  | [], _, _, h => by simp [zk_iv] at h
  | y :: l, x, q, h => by
    unfold zk_iv at h
    split at h
    · rename_i h1
      cases h
      rw [← h1]
      exact List.mem_cons_self
    · exact List.mem_cons_of_mem _ (zk_iv_mem h)
/-- the bounds of a value -/
def zk_r (P : zP) (v : zV) : Option (Int × Int) := match zk_iv P.1 v.2.1 with
  | none => none
  | some q => some (q.1 + v.2.2, q.2 + v.2.2)
theorem zk_r_ok {r : Nat → Int} {P : zP} (h : zk_P r P) {v : zV} {q : Int × Int} (hq : zk_r P v = some q) : q.1 ≤ zk_n r v ∧ zk_n r v ≤ q.2 := by
  unfold zk_r at hq
  split at hq
  · cases hq
  · rename_i q1 h1
    have h2 := h.1 _ (zk_iv_mem h1)
    cases hq
    unfold zk_n
    dsimp only at h2 ⊢
    omega
def zk_set : List (Nat × Int × Int) → Nat → Int → Int → List (Nat × Int × Int)
  | [], x, lo, hi => [(x, lo, hi)]
  | q :: l, x, lo, hi => if q.1 = x then (x, lo, hi) :: l else q :: zk_set l x lo hi
theorem zk_set_ok {r : Nat → Int} {x : Nat} {lo hi : Int} (h2 : lo ≤ r x ∧ r x ≤ hi) : ∀ {l : List (Nat × Int × Int)}, (∀ q ∈ l, q.2.1 ≤ r q.1 ∧ r q.1 ≤ q.2.2) → ∀ q ∈ zk_set l x lo hi, q.2.1 ≤ r q.1 ∧ r q.1 ≤ q.2.2
  | [], _, q, hq => by
    simp only [zk_set, List.mem_singleton] at hq
    subst hq
    exact h2
  | y :: l, h, q, hq => by
    unfold zk_set at hq
    split at hq
    · rcases List.mem_cons.mp hq with rfl | hq
      · exact h2
      · exact h q (List.mem_cons_of_mem _ hq)
    · rcases List.mem_cons.mp hq with rfl | hq
      · exact h _ List.mem_cons_self
      · exact zk_set_ok h2 (fun z hz => h z (List.mem_cons_of_mem _ hz)) q hq
/-- taken: v ≤ w + c. none: that can't be -/
def zk_le (P : zP) (v w : zV) (c : Int) : Option zP :=
  if v.2.1 = w.2.1 then (if v.2.2 ≤ w.2.2 + c then some P else none) else
  match zk_r P v, zk_r P w with
  | some a, some b => if b.2 + c < a.1 then none else
      some (if b.1 < a.1 - c then zk_set (if b.2 + c < a.2 then zk_set P.1 v.2.1 (a.1 - v.2.2) (b.2 + c - v.2.2) else P.1) w.2.1 (a.1 - c - w.2.2) (b.2 - w.2.2) else (if b.2 + c < a.2 then zk_set P.1 v.2.1 (a.1 - v.2.2) (b.2 + c - v.2.2) else P.1), if v.2.1 = 0 ∨ w.2.1 = 0 then P.2.1 else (v.2.1, w.2.1, w.2.2 + c - v.2.2) :: P.2.1, P.2.2)
  | _, _ => some P
theorem zk_le_ok {r : Nat → Int} {P : zP} (h : zk_P r P) {v w : zV} {c : Int} (hv : zk_n r v ≤ zk_n r w + c) : ∃ P', zk_le P v w c = some P' ∧ zk_P r P' := by
  unfold zk_le
  split
  · rename_i e
    rw [if_pos (by unfold zk_n at hv; rw [e] at hv; omega)]
    exact ⟨P, rfl, h⟩
  split
  · rename_i a b ha hb
    have h1 := zk_r_ok h ha
    have h2 := zk_r_ok h hb
    rw [if_neg (by omega)]
    refine ⟨_, rfl, ?_, ?_, h.2.2⟩
    · have s1 : ∀ q ∈ (if b.2 + c < a.2 then zk_set P.1 v.2.1 (a.1 - v.2.2) (b.2 + c - v.2.2) else P.1), q.2.1 ≤ r q.1 ∧ r q.1 ≤ q.2.2 := by
        split
        · exact zk_set_ok (by unfold zk_n at *; omega) h.1
        · exact h.1
      dsimp only
      split
      · refine zk_set_ok ?_ s1
        unfold zk_n at *
        omega
      · exact s1
    · intro q hq
      dsimp only at hq
      split at hq
      · exact h.2.1 q hq
      · rcases List.mem_cons.mp hq with rfl | hq
        · unfold zk_n at hv
          dsimp only
          omega
        · exact h.2.1 q hq
  · exact ⟨P, rfl, h⟩
/-- known: v ≤ w + c -/
def zk_leb (P : zP) (v w : zV) (c : Int) : Bool :=
  (v.2.1 = w.2.1 && decide (v.2.2 ≤ w.2.2 + c)) || (match zk_r P v, zk_r P w with
    | some a, some b => decide (a.2 ≤ b.1 + c)
    | _, _ => false) || P.2.1.any (fun q => q.1 = v.2.1 && q.2.1 = w.2.1 && decide (q.2.2 + v.2.2 ≤ w.2.2 + c))
theorem zk_leb_ok {r : Nat → Int} {P : zP} (h : zk_P r P) {v w : zV} {c : Int} (hb : zk_leb P v w c = true) : zk_n r v ≤ zk_n r w + c := by
  unfold zk_leb at hb
  simp only [Bool.or_eq_true, Bool.and_eq_true, decide_eq_true_eq, List.any_eq_true] at hb
  rcases hb with (⟨h1, h2⟩ | hb) | ⟨q, hq, ⟨h1, h2⟩, h3⟩
  · unfold zk_n; rw [h1]; omega
  · split at hb
    · rename_i a b ha hb2
      have h1 := zk_r_ok h ha
      have h2 := zk_r_ok h hb2
      simp only [decide_eq_true_eq] at hb
      omega
    · cases hb
  · have h4 := h.2.1 q hq
    rw [h1, h2] at h4
    unfold zk_n
    omega
/-- taken: v ≠ w -/
def zk_ne (P : zP) (v w : zV) : Option zP :=
  match zk_r P v, zk_r P w with
  | some a, some b =>
    if b.1 = b.2 then
      (if a.1 = b.1 then (if a.2 = b.1 then none else some (zk_set P.1 v.2.1 (a.1 + 1 - v.2.2) (a.2 - v.2.2), P.2))
      else if a.2 = b.1 then some (zk_set P.1 v.2.1 (a.1 - v.2.2) (a.2 - 1 - v.2.2), P.2)
      else some (P.1, P.2.1, P.2.2.1, (v.2.1, b.1 - v.2.2) :: P.2.2.2))
    else if a.1 = a.2 then
      (if b.1 = a.1 then some (zk_set P.1 w.2.1 (b.1 + 1 - w.2.2) (b.2 - w.2.2), P.2)
      else if b.2 = a.1 then some (zk_set P.1 w.2.1 (b.1 - w.2.2) (b.2 - 1 - w.2.2), P.2)
      else some (P.1, P.2.1, P.2.2.1, (w.2.1, a.1 - w.2.2) :: P.2.2.2))
    else some P
  | _, _ => some P
theorem zk_ne_ok {r : Nat → Int} {P : zP} (h : zk_P r P) {v w : zV} (hv : zk_n r v ≠ zk_n r w) : ∃ P', zk_ne P v w = some P' ∧ zk_P r P' := by
  unfold zk_ne
  split
  · rename_i a b ha hb
    have h1 := zk_r_ok h ha
    have h2 := zk_r_ok h hb
    split
    · split
      · split
        · exact absurd (by omega) hv
        · exact ⟨_, rfl, zk_set_ok (by unfold zk_n at *; omega) h.1, h.2⟩
      · split
        · exact ⟨_, rfl, zk_set_ok (by unfold zk_n at *; omega) h.1, h.2⟩
        · refine ⟨_, rfl, h.1, h.2.1, h.2.2.1, fun q hq => ?_⟩
          rcases List.mem_cons.mp hq with rfl | hq
          · unfold zk_n at *
            dsimp only
            omega
          · exact h.2.2.2 q hq
    · split
      · split
        · exact ⟨_, rfl, zk_set_ok (by unfold zk_n at *; omega) h.1, h.2⟩
        · split
          · exact ⟨_, rfl, zk_set_ok (by unfold zk_n at *; omega) h.1, h.2⟩
          · refine ⟨_, rfl, h.1, h.2.1, h.2.2.1, fun q hq => ?_⟩
            rcases List.mem_cons.mp hq with rfl | hq
            · unfold zk_n at *
              dsimp only
              omega
            · exact h.2.2.2 q hq
      · exact ⟨_, rfl, h⟩
  · exact ⟨_, rfl, h⟩
/-- taken: v = w -/
def zk_eq (P : zP) (v w : zV) : Option zP := match zk_le P v w 0 with
  | none => none
  | some P1 => zk_le P1 w v 0
theorem zk_eq_ok {r : Nat → Int} {P : zP} (h : zk_P r P) {v w : zV} (hv : zk_n r v = zk_n r w) : ∃ P', zk_eq P v w = some P' ∧ zk_P r P' := by
  unfold zk_eq
  obtain ⟨P1, e1, h1⟩ := zk_le_ok h (v := v) (w := w) (c := 0) (by omega)
  rw [e1]
  exact zk_le_ok h1 (by omega)
/-- known: v ≠ 0 -/
def zk_nz (P : zP) (v : zV) : Bool := (match zk_r P v with
    | some a => decide (0 < a.1) || decide (a.2 < 0)
    | none => false) || P.2.2.2.any (fun q => q.1 = v.2.1 && decide (q.2 + v.2.2 = 0))
theorem zk_nz_ok {r : Nat → Int} {P : zP} (h : zk_P r P) {v : zV} (hb : zk_nz P v = true) : zk_n r v ≠ 0 := by
  unfold zk_nz at hb
  simp only [Bool.or_eq_true, Bool.and_eq_true, decide_eq_true_eq, List.any_eq_true] at hb
  rcases hb with hb | ⟨q, hq, h1, h2⟩
  · split at hb
    · rename_i a ha
      have h1 := zk_r_ok h ha
      simp only [Bool.or_eq_true, decide_eq_true_eq] at hb
      omega
    · cases hb
  · have h3 := h.2.2.2 q hq
    rw [h1] at h3
    unfold zk_n
    omega
/-- known: v lies in an interval -/
def zk_inb (P : zP) (v : zV) (lo hi : Int) : Bool := match zk_r P v with
  | some a => decide (lo ≤ a.1) && decide (a.2 ≤ hi)
  | none => false
theorem zk_inb_ok {r : Nat → Int} {P : zP} (h : zk_P r P) {v : zV} {lo hi : Int} (hb : zk_inb P v lo hi = true) : lo ≤ zk_n r v ∧ zk_n r v ≤ hi := by
  unfold zk_inb at hb
  split at hb
  · rename_i a ha
    have h1 := zk_r_ok h ha
    simp only [Bool.and_eq_true, decide_eq_true_eq] at hb
    omega
  · cases hb
theorem zk_i32 {a : Int} (h1 : -2147483648 ≤ a) (h2 : a ≤ 2147483647) : (Int32.ofInt a).toInt = a := Int32.toInt_ofInt_of_le (by omega) (by omega)
theorem zk_i64 {a : Int} (h1 : -9223372036854775808 ≤ a) (h2 : a ≤ 9223372036854775807) : (Int64.ofInt a).toInt = a := Int64.toInt_ofInt_of_le (by omega) (by omega)
theorem zk_b32 (x : Int32) : -2147483648 ≤ x.toInt ∧ x.toInt ≤ 2147483647 := by
  have h1 := x.minValue_le_toInt
  have h2 := x.toInt_le
  have e1 : Int32.minValue.toInt = -2147483648 := by decide
  have e2 : Int32.maxValue.toInt = 2147483647 := by decide
  omega
theorem zk_b64 (x : Int64) : -9223372036854775808 ≤ x.toInt ∧ x.toInt ≤ 9223372036854775807 := by
  have h1 := x.minValue_le_toInt
  have h2 := x.toInt_le
  have e1 : Int64.minValue.toInt = -9223372036854775808 := by decide
  have e2 : Int64.maxValue.toInt = 9223372036854775807 := by decide
  omega
end
section
/-! THE CHECKER, 2: arithmetic. A new symbol n is above all that are known. -/
def zk_u (r : Nat → Int) (n : Nat) (z : Int) : Nat → Int := fun x => if x = n then z else r x
theorem zk_u_n {r : Nat → Int} {n : Nat} {z : Int} : zk_u r n z n = z := by simp [zk_u]
theorem zk_u_ne {r : Nat → Int} {n x : Nat} {z : Int} (h : x < n) : zk_u r n z x = r x := by
  unfold zk_u; rw [if_neg (by omega)]
/-- all symbols are below n -/
def zk_fP (n : Nat) (P : zP) : Bool := P.1.all (fun q => Nat.blt q.1 n) && P.2.1.all (fun q => Nat.blt q.1 n && Nat.blt q.2.1 n) && P.2.2.1.all (fun q => Nat.blt q.1 n && (Nat.blt q.2.1.2.1 n && Nat.blt q.2.2.2.1 n)) && P.2.2.2.all (fun q => Nat.blt q.1 n)
theorem zk_blt {a b : Nat} (h : Nat.blt a b = true) : a < b := Nat.blt_eq.mp h
theorem zk_P_new {r r' : Nat → Int} {n : Nat} {P : zP} (hf : zk_fP n P = true) (he : ∀ x, x < n → r' x = r x) (h : zk_P r P) : zk_P r' P := by
  simp only [zk_fP, Bool.and_eq_true, List.all_eq_true] at hf
  obtain ⟨⟨⟨f1, f2⟩, f3⟩, f4⟩ := hf
  refine ⟨fun q hq => ?_, fun q hq => ?_, fun q hq => ?_, fun q hq => ?_⟩
  · rw [he _ (zk_blt (f1 q hq))]; exact h.1 q hq
  · rw [he _ (zk_blt (f2 q hq).1), he _ (zk_blt (f2 q hq).2)]; exact h.2.1 q hq
  · have h3 := h.2.2.1 q hq
    unfold zk_n at h3 ⊢
    rw [he _ (zk_blt (f3 q hq).1), he _ (zk_blt (f3 q hq).2.1), he _ (zk_blt (f3 q hq).2.2)]
    exact h3
  · rw [he _ (zk_blt (f4 q hq))]; exact h.2.2.2 q hq
def zk_nw (t n : Nat) (lo hi : Int) (ds : List (Nat × Nat × Int)) (P : zP) : zV × zP := ((t, n, 0), ((n, lo, hi) :: P.1, ds ++ P.2.1, P.2.2))
theorem zk_fresh {r : Nat → Int} {n : Nat} {P : zP} (hf : zk_fP n P = true) (h : zk_P r P) {z lo hi : Int} (hz : lo ≤ z ∧ z ≤ hi) {ds : List (Nat × Nat × Int)} (hd : ∀ q ∈ ds, zk_u r n z q.1 ≤ zk_u r n z q.2.1 + q.2.2) (t : Nat) : zk_P (zk_u r n z) (zk_nw t n lo hi ds P).2 := by
  have h1 := zk_P_new (r' := zk_u r n z) hf (fun x hx => zk_u_ne hx) h
  refine ⟨fun q hq => ?_, fun q hq => ?_, h1.2.2⟩
  · rcases List.mem_cons.mp hq with rfl | hq
    · rw [zk_u_n]; exact hz
    · exact h1.1 q hq
  · rcases List.mem_append.mp hq with hq | hq
    · exact hd q hq
    · exact h1.2.1 q hq
theorem zk_n_new {r : Nat → Int} {n : Nat} {v : zV} {z : Int} (hv : v.2.1 < n) : zk_n (zk_u r n z) v = zk_n r v := by
  unfold zk_n; rw [zk_u_ne hv]
theorem zk_n_n {r : Nat → Int} {t n : Nat} {z : Int} : zk_n (zk_u r n z) (t, n, 0) = z := by
  unfold zk_n; dsimp only; rw [zk_u_n]; omega
/-- what an operation of two numbers does on the machine: int 0 .. 10, long 20 .. 30 -/
def zk_f (o : Nat) (x y : Value) : Option Value := match x, y with
  | .int a, .int b => (match o with
    | 0 => some (.int (a + b)) | 1 => some (.int (a - b)) | 2 => some (.int (a * b)) | 3 => some (.int (a / b)) | 4 => some (.int (a - a / b * b))
    | 5 => some (.int (a &&& b)) | 6 => some (.int (a ||| b)) | 7 => some (.int (a ^^^ b)) | 8 => some (.int (a <<< (b &&& 31))) | 9 => some (.int (a >>> (b &&& 31)))
    | 10 => some (.int (a.toUInt32 >>> (b.toUInt32 &&& Int32.toUInt32 31)).toInt32) | _ => none)
  | .long a, .long b => (match o with
    | 20 => some (.long (a + b)) | 21 => some (.long (a - b)) | 22 => some (.long (a * b)) | 23 => some (.long (a / b)) | 24 => some (.long (a - a / b * b))
    | 25 => some (.long (a &&& b)) | 26 => some (.long (a ||| b)) | 27 => some (.long (a ^^^ b)) | _ => none)
  | .long a, .int b => (match o with
    | 28 => some (.long (a <<< (b.toInt64 &&& 63))) | 29 => some (.long (a >>> (b.toInt64 &&& 63)))
    | 30 => some (.long (a.toUInt64 >>> (b.toInt64.toUInt64 &&& Int64.toUInt64 63)).toInt64) | _ => none)
  | _, _ => none
/-- bounds of the answer, where they hold for all whole numbers within the operands' bounds; the second: what differences hold -/
def zk_add (t n : Nat) (lo hi : Int) (P : zP) (v w : zV) : zV × zP :=
  if w.2.1 = 0 then ((t, v.2.1, v.2.2 + w.2.2), P) else if v.2.1 = 0 then ((t, w.2.1, v.2.2 + w.2.2), P) else
  match zk_r P v, zk_r P w with
  | some a, some b => if lo ≤ a.1 + b.1 ∧ a.2 + b.2 ≤ hi then zk_nw t n (a.1 + b.1) (a.2 + b.2) [(n, v.2.1, v.2.2 + b.2), (v.2.1, n, -(v.2.2 + b.1)), (n, w.2.1, w.2.2 + a.2), (w.2.1, n, -(w.2.2 + a.1))] P else zk_nw t n lo hi [] P
  | _, _ => zk_nw t n lo hi [] P
def zk_sub (t n : Nat) (lo hi : Int) (P : zP) (v w : zV) : zV × zP :=
  if w.2.1 = 0 then ((t, v.2.1, v.2.2 - w.2.2), P) else if v.2.1 = w.2.1 then ((t, 0, v.2.2 - w.2.2), P) else
  match zk_r P v, zk_r P w with
  | some a, some b => if lo ≤ a.1 - b.2 ∧ a.2 - b.1 ≤ hi then zk_nw t n (a.1 - b.2) (a.2 - b.1) [(n, v.2.1, v.2.2 - b.1), (v.2.1, n, b.2 - v.2.2)] P else zk_nw t n lo hi [] P
  | _, _ => zk_nw t n lo hi [] P
def zk_mul (t n : Nat) (lo hi : Int) (P : zP) (v w : zV) : zV × zP :=
  if v.2.1 = 0 ∧ w.2.1 = 0 then ((t, 0, v.2.2 * w.2.2), P) else
  match zk_r P v, zk_r P w with
  | some a, some b => if 0 ≤ a.1 ∧ 0 ≤ b.1 ∧ a.2 * b.2 ≤ hi then zk_nw t n (a.1 * b.1) (a.2 * b.2) [] P else zk_nw t n lo hi [] P
  | _, _ => zk_nw t n lo hi [] P
def zk_div (t n : Nat) (lo hi : Int) (P : zP) (v w : zV) : zV × zP :=
  match zk_r P v, zk_r P w with
  | some a, some b => if 0 ≤ a.1 ∧ 1 ≤ b.1 ∧ a.2 ≤ hi ∧ b.2 ≤ hi then zk_nw t n 0 (a.2 / b.1) (if 1 ≤ a.1 ∧ 2 ≤ b.1 then [(n, v.2.1, v.2.2 - 1)] else [(n, v.2.1, v.2.2)]) P else zk_nw t n lo hi [] P
  | _, _ => zk_nw t n lo hi [] P
def zk_rem (t n : Nat) (lo hi : Int) (P : zP) (v w : zV) : zV × zP :=
  match zk_r P v, zk_r P w with
  | some a, some b => if 0 ≤ a.1 ∧ 1 ≤ b.1 ∧ a.2 ≤ hi ∧ b.2 ≤ hi then zk_nw t n 0 (min a.2 (b.2 - 1)) [(n, w.2.1, w.2.2 - 1), (n, v.2.1, v.2.2)] P else zk_nw t n lo hi [] P
  | _, _ => zk_nw t n lo hi [] P
def zk_and (t n : Nat) (lo hi : Int) (P : zP) (v w : zV) : zV × zP :=
  match zk_r P w with
  | some b => if 0 ≤ b.1 ∧ b.2 ≤ hi then zk_nw t n 0 b.2 [] P else zk_nw t n lo hi [] P
  | _ => zk_nw t n lo hi [] P
def zk_shr (t n : Nat) (lo hi : Int) (sh : Int) (P : zP) (v w : zV) : zV × zP :=
  match zk_r P v with
  | some a => if w.2.1 = 0 ∧ 0 ≤ w.2.2 ∧ w.2.2 < sh ∧ 0 ≤ a.1 ∧ a.2 ≤ hi then zk_nw t n 0 (a.2 / 2 ^ w.2.2.toNat) (if 1 ≤ a.1 ∧ 1 ≤ w.2.2 then [(n, v.2.1, v.2.2 - 1)] else [(n, v.2.1, v.2.2)]) P else zk_nw t n lo hi [] P
  | _ => zk_nw t n lo hi [] P
def zk_shl1 (n : Nat) (P : zP) (v w : zV) : zV × zP :=
  match zk_r P w with
  | some b => if v = (0, 0, 1) ∧ 0 ≤ b.1 ∧ b.2 ≤ 30 then zk_nw 0 n 1 (2 ^ b.2.toNat) [] P else zk_nw 0 n (-2147483648) 2147483647 [] P
  | _ => zk_nw 0 n (-2147483648) 2147483647 [] P
def zk_bin (o n : Nat) (P : zP) (v w : zV) : zV × zP := match o with
  | 0 => zk_add 0 n (-2147483648) 2147483647 P v w
  | 1 => zk_sub 0 n (-2147483648) 2147483647 P v w
  | 2 => zk_mul 0 n (-2147483648) 2147483647 P v w
  | 3 => zk_div 0 n (-2147483648) 2147483647 P v w
  | 4 => zk_rem 0 n (-2147483648) 2147483647 P v w
  | 5 => zk_and 0 n (-2147483648) 2147483647 P v w
  | 8 => zk_shl1 n P v w
  | 9 => zk_shr 0 n (-2147483648) 2147483647 32 P v w
  | 20 => zk_add 1 n (-9223372036854775808) 9223372036854775807 P v w
  | 21 => zk_sub 1 n (-9223372036854775808) 9223372036854775807 P v w
  | 22 => zk_mul 1 n (-9223372036854775808) 9223372036854775807 P v w
  | 23 => zk_div 1 n (-9223372036854775808) 9223372036854775807 P v w
  | 24 => zk_rem 1 n (-9223372036854775808) 9223372036854775807 P v w
  | 25 => zk_and 1 n (-9223372036854775808) 9223372036854775807 P v w
  | 29 => zk_shr 1 n (-9223372036854775808) 9223372036854775807 64 P v w
  | o => if o < 20 then zk_nw 0 n (-2147483648) 2147483647 [] P else zk_nw 1 n (-9223372036854775808) 9223372036854775807 [] P
end
section
/-! THE CHECKER, 3: the arithmetic is right. -/
theorem zk_c_new {r : Nat → Int} {n : Nat} {v : zV} {z : Int} (hv : v.2.1 < n) : zk_c (zk_u r n z) v = zk_c r v := by
  unfold zk_c; rw [zk_n_new hv]
theorem zk_c_n {r : Nat → Int} {t n : Nat} {z : Int} : zk_c (zk_u r n z) (t, n, 0) = zk_k t z := by
  unfold zk_c; rw [zk_n_n]
/-- what an operation's row must give -/
def zk_G (r : Nat → Int) (n : Nat) (q : zV × zP) (x : Value) : Prop := ∃ z, zk_P (zk_u r n z) q.2 ∧ zk_c (zk_u r n z) q.1 = x ∧ q.1.2.1 ≤ n
section
variable {r : Nat → Int} {n t : Nat} {P : zP} {v w : zV} {lo hi : Int} {x : Value}
theorem zk_G_top (hf : zk_fP n P = true) (h : zk_P r P) (ht : ∃ z, lo ≤ z ∧ z ≤ hi ∧ zk_k t z = x) : zk_G r n (zk_nw t n lo hi [] P) x := by
  obtain ⟨z, h1, h2, h3⟩ := ht
  exact ⟨z, zk_fresh hf h ⟨h1, h2⟩ (fun q hq => by cases hq) t, by rw [← h3]; exact zk_c_n, Nat.le_refl n⟩
theorem zk_G_nw (hf : zk_fP n P = true) (h : zk_P r P) {a b z : Int} {ds : List (Nat × Nat × Int)} (hx : zk_k t z = x) (hz : a ≤ z ∧ z ≤ b) (hd : ∀ q ∈ ds, zk_u r n z q.1 ≤ zk_u r n z q.2.1 + q.2.2) : zk_G r n (zk_nw t n a b ds P) x :=
  ⟨z, zk_fresh hf h hz hd t, by rw [← hx]; exact zk_c_n, Nat.le_refl n⟩
theorem zk_G_old (hf : zk_fP n P = true) (h : zk_P r P) {v : zV} (hv : v.2.1 < n) (hx : zk_c r v = x) : zk_G r n (v, P) x :=
  ⟨0, zk_P_new hf (fun y hy => zk_u_ne hy) h, by rw [zk_c_new hv]; exact hx, Nat.le_of_lt hv⟩
theorem zk_add_ok (hf : zk_fP n P = true) (h : zk_P r P) (h0 : r 0 = 0) (hv : v.2.1 < n) (hw : w.2.1 < n) (hx : zk_k t (zk_n r v + zk_n r w) = x) (ht : ∃ z, lo ≤ z ∧ z ≤ hi ∧ zk_k t z = x) : zk_G r n (zk_add t n lo hi P v w) x := by
  unfold zk_add
  split
  · rename_i e
    refine zk_G_old hf h hv ?_
    rw [← hx]
    unfold zk_c zk_n
    dsimp only
    rw [e, h0]
    congr 1
    omega
  split
  · rename_i e
    refine zk_G_old hf h hw ?_
    rw [← hx]
    unfold zk_c zk_n
    dsimp only
    rw [e, h0]
    congr 1
    omega
  split
  · rename_i a b ha hb
    split
    · have h1 := zk_r_ok h ha
      have h2 := zk_r_ok h hb
      refine zk_G_nw hf h hx (by omega) ?_
      intro q hq
      simp only [List.mem_cons, List.not_mem_nil, or_false] at hq
      rcases hq with rfl | rfl | rfl | rfl <;> dsimp only <;> simp only [zk_u_n, zk_u_ne hv, zk_u_ne hw] <;> unfold zk_n at * <;> omega
    · exact zk_G_top hf h ht
  · exact zk_G_top hf h ht
theorem zk_sub_ok (hf : zk_fP n P = true) (h : zk_P r P) (h0 : r 0 = 0) (hv : v.2.1 < n) (hw : w.2.1 < n) (hx : zk_k t (zk_n r v - zk_n r w) = x) (ht : ∃ z, lo ≤ z ∧ z ≤ hi ∧ zk_k t z = x) : zk_G r n (zk_sub t n lo hi P v w) x := by
  unfold zk_sub
  split
  · rename_i e
    refine zk_G_old hf h hv ?_
    rw [← hx]
    unfold zk_c zk_n
    dsimp only
    rw [e, h0]
    congr 1
    omega
  split
  · rename_i e
    refine zk_G_old hf h (by dsimp only; omega) ?_
    rw [← hx]
    unfold zk_c zk_n
    dsimp only
    rw [e, h0]
    congr 1
    omega
  split
  · rename_i a b ha hb
    split
    · have h1 := zk_r_ok h ha
      have h2 := zk_r_ok h hb
      refine zk_G_nw hf h hx (by omega) ?_
      intro q hq
      simp only [List.mem_cons, List.not_mem_nil, or_false] at hq
      rcases hq with rfl | rfl <;> dsimp only <;> simp only [zk_u_n, zk_u_ne hv] <;> unfold zk_n at * <;> omega
    · exact zk_G_top hf h ht
  · exact zk_G_top hf h ht
theorem zk_mul_ok (hf : zk_fP n P = true) (h : zk_P r P) (h0 : r 0 = 0) (hn : 0 < n) (hx : zk_k t (zk_n r v * zk_n r w) = x) (ht : ∃ z, lo ≤ z ∧ z ≤ hi ∧ zk_k t z = x) : zk_G r n (zk_mul t n lo hi P v w) x := by
  unfold zk_mul
  split
  · rename_i e
    refine zk_G_old hf h hn ?_
    rw [← hx]
    unfold zk_c zk_n
    dsimp only
    rw [e.1, e.2, h0]
    simp
  split
  · rename_i a b ha hb
    split
    · rename_i hc
      have h1 := zk_r_ok h ha
      have h2 := zk_r_ok h hb
      refine zk_G_nw hf h hx ⟨?_, ?_⟩ (fun q hq => by cases hq)
      · exact Int.mul_le_mul h1.1 h2.1 hc.2.1 (by omega)
      · exact Int.mul_le_mul h1.2 h2.2 (by omega) (by omega)
    · exact zk_G_top hf h ht
  · exact zk_G_top hf h ht
theorem zk_div_ok (hf : zk_fP n P = true) (h : zk_P r P) (hv : v.2.1 < n) (hx : 0 ≤ zk_n r v → 1 ≤ zk_n r w → zk_n r v ≤ hi → zk_n r w ≤ hi → zk_k t (zk_n r v / zk_n r w) = x) (ht : ∃ z, lo ≤ z ∧ z ≤ hi ∧ zk_k t z = x) : zk_G r n (zk_div t n lo hi P v w) x := by
  unfold zk_div
  split
  · rename_i a b ha hb
    split
    · rename_i hc
      have h1 := zk_r_ok h ha
      have h2 := zk_r_ok h hb
      have g1 : 0 ≤ zk_n r v / zk_n r w := Int.ediv_nonneg (by omega) (by omega)
      have g2 : zk_n r v / zk_n r w ≤ zk_n r v := Int.ediv_le_self _ (by omega)
      have g3 : zk_n r v / zk_n r w ≤ a.2 / b.1 := by
        have e1 : zk_n r v / zk_n r w ≤ a.2 / zk_n r w := Int.ediv_le_ediv (by omega) h1.2
        refine Int.le_trans e1 ?_
        refine (Int.le_ediv_iff_mul_le (by omega)).mpr ?_
        have e2 : a.2 / zk_n r w * zk_n r w ≤ a.2 := Int.ediv_mul_le _ (by omega)
        have e3 : 0 ≤ a.2 / zk_n r w := Int.ediv_nonneg (by omega) (by omega)
        exact Int.le_trans (Int.mul_le_mul_of_nonneg_left h2.1 e3) e2
      refine zk_G_nw hf h (hx (by omega) (by omega) (by omega) (by omega)) ⟨g1, g3⟩ ?_
      intro q hq
      split at hq
      · rename_i hc2
        simp only [List.mem_cons, List.not_mem_nil, or_false] at hq
        subst hq
        have g4 : zk_n r v / zk_n r w < zk_n r v := by
          refine Int.ediv_lt_of_lt_mul (by omega) ?_
          have : zk_n r v * 2 ≤ zk_n r v * zk_n r w := Int.mul_le_mul_of_nonneg_left (by omega) (by omega)
          omega
        dsimp only
        rw [zk_u_n, zk_u_ne hv]
        have e5 : zk_n r v = r v.2.1 + v.2.2 := rfl
        omega
      · simp only [List.mem_cons, List.not_mem_nil, or_false] at hq
        subst hq
        dsimp only
        rw [zk_u_n, zk_u_ne hv]
        have e5 : zk_n r v = r v.2.1 + v.2.2 := rfl
        omega
    · exact zk_G_top hf h ht
  · exact zk_G_top hf h ht
theorem zk_rem_ok (hf : zk_fP n P = true) (h : zk_P r P) (hv : v.2.1 < n) (hw : w.2.1 < n) (hx : 0 ≤ zk_n r v → 1 ≤ zk_n r w → zk_n r v ≤ hi → zk_n r w ≤ hi → zk_k t (zk_n r v % zk_n r w) = x) (ht : ∃ z, lo ≤ z ∧ z ≤ hi ∧ zk_k t z = x) : zk_G r n (zk_rem t n lo hi P v w) x := by
  unfold zk_rem
  split
  · rename_i a b ha hb
    split
    · rename_i hc
      have h1 := zk_r_ok h ha
      have h2 := zk_r_ok h hb
      have g1 : 0 ≤ zk_n r v % zk_n r w := Int.emod_nonneg _ (by omega)
      have g2 : zk_n r v % zk_n r w < zk_n r w := Int.emod_lt_of_pos _ (by omega)
      have g3 : zk_n r v % zk_n r w ≤ zk_n r v := by
        have e1 := Int.mul_ediv_add_emod (zk_n r v) (zk_n r w)
        have e2 : 0 ≤ zk_n r w * (zk_n r v / zk_n r w) := Int.mul_nonneg (by omega) (Int.ediv_nonneg (by omega) (by omega))
        omega
      refine zk_G_nw hf h (hx (by omega) (by omega) (by omega) (by omega)) ⟨g1, by omega⟩ ?_
      intro q hq
      simp only [List.mem_cons, List.not_mem_nil, or_false] at hq
      have e5 : zk_n r v = r v.2.1 + v.2.2 := rfl
      have e6 : zk_n r w = r w.2.1 + w.2.2 := rfl
      rcases hq with rfl | rfl <;> dsimp only <;> simp only [zk_u_n, zk_u_ne hv, zk_u_ne hw] <;> omega
    · exact zk_G_top hf h ht
  · exact zk_G_top hf h ht
theorem zk_and_ok (hf : zk_fP n P = true) (h : zk_P r P) (hx : 0 ≤ zk_n r w → zk_n r w ≤ hi → ∃ z, 0 ≤ z ∧ z ≤ zk_n r w ∧ zk_k t z = x) (ht : ∃ z, lo ≤ z ∧ z ≤ hi ∧ zk_k t z = x) : zk_G r n (zk_and t n lo hi P v w) x := by
  unfold zk_and
  split
  · rename_i b hb
    split
    · rename_i hc
      have h2 := zk_r_ok h hb
      obtain ⟨z, z1, z2, z3⟩ := hx (by omega) (by omega)
      exact zk_G_nw hf h z3 (by omega) (fun q hq => by cases hq)
    · exact zk_G_top hf h ht
  · exact zk_G_top hf h ht
theorem zk_shr_ok {sh : Int} (hf : zk_fP n P = true) (h : zk_P r P) (h0 : r 0 = 0) (hv : v.2.1 < n) (hx : 0 ≤ zk_n r v → zk_n r v ≤ hi → 0 ≤ zk_n r w → zk_n r w < sh → zk_k t (zk_n r v / 2 ^ (zk_n r w).toNat) = x) (ht : ∃ z, lo ≤ z ∧ z ≤ hi ∧ zk_k t z = x) : zk_G r n (zk_shr t n lo hi sh P v w) x := by
  unfold zk_shr
  split
  · rename_i a ha
    split
    · rename_i hc
      have h1 := zk_r_ok h ha
      have ew : zk_n r w = w.2.2 := by unfold zk_n; rw [hc.1, h0]; omega
      rw [ew] at hx
      have hp : (0 : Int) < 2 ^ w.2.2.toNat := Int.pow_pos (by decide)
      have g1 : 0 ≤ zk_n r v / 2 ^ w.2.2.toNat := Int.ediv_nonneg (by omega) (by omega)
      have g2 : zk_n r v / 2 ^ w.2.2.toNat ≤ zk_n r v := Int.ediv_le_self _ (by omega)
      have g3 : zk_n r v / 2 ^ w.2.2.toNat ≤ a.2 / 2 ^ w.2.2.toNat := Int.ediv_le_ediv hp h1.2
      have e5 : zk_n r v = r v.2.1 + v.2.2 := rfl
      refine zk_G_nw hf h (hx (by omega) (by omega) (by omega) (by omega)) ⟨g1, g3⟩ ?_
      intro q hq
      split at hq
      · rename_i hc2
        simp only [List.mem_cons, List.not_mem_nil, or_false] at hq
        subst hq
        have g4 : zk_n r v / 2 ^ w.2.2.toNat < zk_n r v := by
          refine Int.ediv_lt_of_lt_mul hp ?_
          obtain ⟨k, hk⟩ : ∃ k, w.2.2.toNat = k + 1 := ⟨w.2.2.toNat - 1, by omega⟩
          have h8 : (1 : Int) ≤ 2 ^ k := by have : (0 : Int) < 2 ^ k := Int.pow_pos (by decide); omega
          have h9 : (2 : Int) ≤ 2 ^ w.2.2.toNat := by rw [hk, Int.pow_succ]; omega
          have : zk_n r v * 2 ≤ zk_n r v * 2 ^ w.2.2.toNat := Int.mul_le_mul_of_nonneg_left h9 (by omega)
          omega
        dsimp only
        rw [zk_u_n, zk_u_ne hv]
        omega
      · simp only [List.mem_cons, List.not_mem_nil, or_false] at hq
        subst hq
        dsimp only
        rw [zk_u_n, zk_u_ne hv]
        omega
    · exact zk_G_top hf h ht
  · exact zk_G_top hf h ht
end
end
section
/-! THE CHECKER, 4: every operation of two numbers. -/
theorem zk_m32div {a b : Int} (h1 : 0 ≤ a) (h2 : 1 ≤ b) (h3 : a ≤ 2147483647) (h4 : b ≤ 2147483647) : Int32.ofInt a / Int32.ofInt b = Int32.ofInt (a / b) := by
  apply Int32.toInt_inj.mp
  have e1 : a / b ≤ a := Int.ediv_le_self _ h1
  have e2 : 0 ≤ a / b := Int.ediv_nonneg h1 (by omega)
  rw [Int32.toInt_div, zk_i32 (by omega) h3, zk_i32 (by omega) h4, zk_i32 (by omega) (by omega), Int.tdiv_eq_ediv_of_nonneg h1]
  rw [Int.bmod_eq_of_le (by omega) (by omega)]
theorem zk_m64div {a b : Int} (h1 : 0 ≤ a) (h2 : 1 ≤ b) (h3 : a ≤ 9223372036854775807) (h4 : b ≤ 9223372036854775807) : Int64.ofInt a / Int64.ofInt b = Int64.ofInt (a / b) := by
  apply Int64.toInt_inj.mp
  have e1 : a / b ≤ a := Int.ediv_le_self _ h1
  have e2 : 0 ≤ a / b := Int.ediv_nonneg h1 (by omega)
  rw [Int64.toInt_div, zk_i64 (by omega) h3, zk_i64 (by omega) h4, zk_i64 (by omega) (by omega), Int.tdiv_eq_ediv_of_nonneg h1]
  rw [Int.bmod_eq_of_le (by omega) (by omega)]
theorem zk_m32rem {a b : Int} (h1 : 0 ≤ a) (h2 : 1 ≤ b) (h3 : a ≤ 2147483647) (h4 : b ≤ 2147483647) : Int32.ofInt a - Int32.ofInt a / Int32.ofInt b * Int32.ofInt b = Int32.ofInt (a % b) := by
  rw [zk_m32div h1 h2 h3 h4, ← Int32.ofInt_mul, ← Int32.ofInt_sub]
  congr 1
  have := Int.mul_ediv_add_emod a b
  rw [Int.mul_comm] at this
  omega
theorem zk_m64rem {a b : Int} (h1 : 0 ≤ a) (h2 : 1 ≤ b) (h3 : a ≤ 9223372036854775807) (h4 : b ≤ 9223372036854775807) : Int64.ofInt a - Int64.ofInt a / Int64.ofInt b * Int64.ofInt b = Int64.ofInt (a % b) := by
  rw [zk_m64div h1 h2 h3 h4, ← Int64.ofInt_mul, ← Int64.ofInt_sub]
  congr 1
  have := Int.mul_ediv_add_emod a b
  rw [Int.mul_comm] at this
  omega
theorem zk_bvand {w : Nat} (x y : BitVec w) (hw : 0 < w) (hy : 0 ≤ y.toInt) : 0 ≤ (x &&& y).toInt ∧ (x &&& y).toInt ≤ y.toInt := by
  have h1 : (x &&& y).toNat ≤ y.toNat := by rw [BitVec.toNat_and]; exact Nat.and_le_right
  have h2 : 2 * y.toNat < 2 ^ w := by
    rw [BitVec.toInt_eq_toNat_cond] at hy
    split at hy
    · assumption
    · have := y.isLt
      omega
  have e1 : y.toInt = y.toNat := by rw [BitVec.toInt_eq_toNat_cond, if_pos h2]
  have e2 : (x &&& y).toInt = (x &&& y).toNat := by rw [BitVec.toInt_eq_toNat_cond, if_pos (by omega)]
  rw [e1, e2]
  omega
theorem zk_s32 : ∀ j : Fin 32, ((Int32.ofInt (j.val : Int) &&& 31).toBitVec.smod 32).toNat = j.val := by decide +kernel
theorem zk_s64 : ∀ j : Fin 64, (((Int32.ofInt (j.val : Int)).toInt64 &&& 63).toBitVec.smod 64).toNat = j.val := by decide +kernel
theorem zk_m32shr {a c : Int} (h1 : 0 ≤ a) (h2 : a ≤ 2147483647) (h3 : 0 ≤ c) (h4 : c < 32) : Int32.ofInt a >>> (Int32.ofInt c &&& 31) = Int32.ofInt (a / 2 ^ c.toNat) := by
  apply Int32.toInt_inj.mp
  have hj := zk_s32 ⟨c.toNat, by omega⟩
  have hp : (0 : Int) < 2 ^ c.toNat := Int.pow_pos (by decide)
  have e1 : a / 2 ^ c.toNat ≤ a := Int.ediv_le_self _ h1
  have e2 : 0 ≤ a / 2 ^ c.toNat := Int.ediv_nonneg h1 (by omega)
  dsimp only at hj
  rw [Int.toNat_of_nonneg h3] at hj
  rw [pk_shr _ _ _ hj, zk_i32 (by omega) h2, zk_i32 (by omega) (by omega), Int.shiftRight_eq_div_pow]
  simp
theorem zk_m64shr {a c : Int} (h1 : 0 ≤ a) (h2 : a ≤ 9223372036854775807) (h3 : 0 ≤ c) (h4 : c < 64) : Int64.ofInt a >>> ((Int32.ofInt c).toInt64 &&& 63) = Int64.ofInt (a / 2 ^ c.toNat) := by
  apply Int64.toInt_inj.mp
  have hj := zk_s64 ⟨c.toNat, by omega⟩
  have hp : (0 : Int) < 2 ^ c.toNat := Int.pow_pos (by decide)
  have e1 : a / 2 ^ c.toNat ≤ a := Int.ediv_le_self _ h1
  have e2 : 0 ≤ a / 2 ^ c.toNat := Int.ediv_nonneg h1 (by omega)
  dsimp only at hj
  rw [Int.toNat_of_nonneg h3] at hj
  show ((Int64.ofInt a).toBitVec.sshiftRight (((Int32.ofInt c).toInt64 &&& 63).toBitVec.smod 64).toNat).toInt = _
  rw [hj, BitVec.toInt_sshiftRight]
  show (Int64.ofInt a).toInt >>> c.toNat = _
  rw [zk_i64 (by omega) h2, zk_i64 (by omega) (by omega), Int.shiftRight_eq_div_pow]
  simp
theorem zk_sh1 : ∀ j : Fin 31, (1 : Int32) <<< (Int32.ofInt (j.val : Int) &&& 31) = Int32.ofInt (2 ^ j.val) := by decide +kernel
theorem zk_tI (y : Int32) : ∃ z, -2147483648 ≤ z ∧ z ≤ 2147483647 ∧ zk_k 0 z = .int y := ⟨y.toInt, (zk_b32 y).1, (zk_b32 y).2, by simp [zk_k]⟩
theorem zk_tL (y : Int64) : ∃ z, -9223372036854775808 ≤ z ∧ z ≤ 9223372036854775807 ∧ zk_k 1 z = .long y := ⟨y.toInt, (zk_b64 y).1, (zk_b64 y).2, by simp [zk_k]⟩
theorem zk_kt0 {t : Nat} {z : Int} {a : Int32} (h : zk_k t z = .int a) : t = 0 ∧ a = Int32.ofInt z := by
  unfold zk_k at h
  split at h <;> simp_all
theorem zk_kt1 {t : Nat} {z : Int} {a : Int64} (h : zk_k t z = .long a) : t = 1 ∧ a = Int64.ofInt z := by
  unfold zk_k at h
  split at h <;> simp_all
set_option maxHeartbeats 1000000 in
theorem zk_bin_ok {r : Nat → Int} {n o : Nat} {P : zP} {v w : zV} {x : Value} (hf : zk_fP n P = true) (h : zk_P r P) (h0 : r 0 = 0) (hv : v.2.1 < n) (hw : w.2.1 < n) (hx : zk_f o (zk_c r v) (zk_c r w) = some x) : zk_G r n (zk_bin o n P v w) x := by
  unfold zk_f at hx
  have hn : 0 < n := by omega
  split at hx
  · rename_i a b ea eb
    obtain ⟨-, rfl⟩ := zk_kt0 ea
    obtain ⟨-, rfl⟩ := zk_kt0 eb
    split at hx <;> cases hx
    · exact zk_add_ok hf h h0 hv hw (by simp [zk_k, Int32.ofInt_add]) (zk_tI _)
    · exact zk_sub_ok hf h h0 hv hw (by simp [zk_k, Int32.ofInt_sub]) (zk_tI _)
    · exact zk_mul_ok hf h h0 hn (by simp [zk_k, Int32.ofInt_mul]) (zk_tI _)
    · exact zk_div_ok hf h hv (fun g1 g2 g3 g4 => by simp only [zk_k]; rw [zk_m32div g1 g2 g3 g4]) (zk_tI _)
    · exact zk_rem_ok hf h hv hw (fun g1 g2 g3 g4 => by simp only [zk_k]; rw [zk_m32rem g1 g2 g3 g4]) (zk_tI _)
    · refine zk_and_ok (v := v) hf h (fun g1 g2 => ?_) (zk_tI _)
      have e1 := zk_i32 (a := zk_n r w) (by omega) g2
      have e2 := zk_bvand (Int32.ofInt (zk_n r v)).toBitVec (Int32.ofInt (zk_n r w)).toBitVec (by decide) (by show 0 ≤ (Int32.ofInt (zk_n r w)).toInt; omega)
      refine ⟨(Int32.ofInt (zk_n r v) &&& Int32.ofInt (zk_n r w)).toInt, e2.1, ?_, by simp [zk_k]⟩
      exact Int.le_trans e2.2 (by show (Int32.ofInt (zk_n r w)).toInt ≤ _; omega)
    · exact zk_G_top hf h (zk_tI _)
    · exact zk_G_top hf h (zk_tI _)
    · show zk_G r n (zk_shl1 n P v w) _
      unfold zk_shl1
      split
      · rename_i b hb
        split
        · rename_i hc
          have h2 := zk_r_ok h hb
          have hv1 : zk_n r v = 1 := by rw [hc.1]; unfold zk_n; dsimp only; rw [h0]; omega
          have hj := zk_sh1 ⟨(zk_n r w).toNat, by omega⟩
          dsimp only at hj
          rw [Int.toNat_of_nonneg (by omega)] at hj
          refine zk_G_nw hf h (z := 2 ^ (zk_n r w).toNat) ?_ ⟨?_, ?_⟩ (fun q hq => by cases hq)
          · simp only [zk_k]
            rw [← hj, hv1]
            rfl
          · have : (0 : Int) < 2 ^ (zk_n r w).toNat := Int.pow_pos (by decide)
            omega
          · have e3 : (2 : Nat) ^ (zk_n r w).toNat ≤ 2 ^ b.2.toNat := Nat.pow_le_pow_right (by decide) (by omega)
            have e4 : ((2 ^ (zk_n r w).toNat : Nat) : Int) ≤ ((2 ^ b.2.toNat : Nat) : Int) := by exact_mod_cast e3
            simpa using e4
        · exact zk_G_top hf h (zk_tI _)
      · exact zk_G_top hf h (zk_tI _)
    · exact zk_shr_ok hf h h0 hv (fun g1 g2 g3 g4 => by simp only [zk_k]; rw [zk_m32shr g1 g2 g3 g4]) (zk_tI _)
    · exact zk_G_top hf h (zk_tI _)
  · rename_i a b ea eb
    obtain ⟨-, rfl⟩ := zk_kt1 ea
    obtain ⟨-, rfl⟩ := zk_kt1 eb
    split at hx <;> cases hx
    · exact zk_add_ok hf h h0 hv hw (by simp [zk_k, Int64.ofInt_add]) (zk_tL _)
    · exact zk_sub_ok hf h h0 hv hw (by simp [zk_k, Int64.ofInt_sub]) (zk_tL _)
    · exact zk_mul_ok hf h h0 hn (by simp [zk_k, Int64.ofInt_mul]) (zk_tL _)
    · exact zk_div_ok hf h hv (fun g1 g2 g3 g4 => by simp only [zk_k]; rw [zk_m64div g1 g2 g3 g4]) (zk_tL _)
    · exact zk_rem_ok hf h hv hw (fun g1 g2 g3 g4 => by simp only [zk_k]; rw [zk_m64rem g1 g2 g3 g4]) (zk_tL _)
    · refine zk_and_ok (v := v) hf h (fun g1 g2 => ?_) (zk_tL _)
      have e1 := zk_i64 (a := zk_n r w) (by omega) g2
      have e2 := zk_bvand (Int64.ofInt (zk_n r v)).toBitVec (Int64.ofInt (zk_n r w)).toBitVec (by decide) (by show 0 ≤ (Int64.ofInt (zk_n r w)).toInt; omega)
      refine ⟨(Int64.ofInt (zk_n r v) &&& Int64.ofInt (zk_n r w)).toInt, e2.1, ?_, by simp [zk_k]⟩
      exact Int.le_trans e2.2 (by show (Int64.ofInt (zk_n r w)).toInt ≤ _; omega)
    · exact zk_G_top hf h (zk_tL _)
    · exact zk_G_top hf h (zk_tL _)
  · rename_i a b ea eb
    obtain ⟨-, rfl⟩ := zk_kt1 ea
    obtain ⟨-, rfl⟩ := zk_kt0 eb
    split at hx <;> cases hx
    · exact zk_G_top hf h (zk_tL _)
    · exact zk_shr_ok hf h h0 hv (fun g1 g2 g3 g4 => by simp only [zk_k]; rw [zk_m64shr g1 g2 g3 g4]) (zk_tL _)
    · exact zk_G_top hf h (zk_tL _)
  · cases hx
end
