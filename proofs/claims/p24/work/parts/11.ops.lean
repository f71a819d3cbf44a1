/-! THE CHECKER, 2: arithmetic. A new symbol n is above all that are known. -/
def zk_u (r : Nat → Int) (n : Nat) (z : Int) : Nat → Int := fun x => if x = n then z else r x
theorem zk_u_n {r : Nat → Int} {n : Nat} {z : Int} : zk_u r n z n = z := by simp [zk_u]
theorem zk_u_ne {r : Nat → Int} {n x : Nat} {z : Int} (h : x < n) : zk_u r n z x = r x := by
  unfold zk_u; rw [if_neg (by omega)]
/-- all symbols are below n -/
def zk_fP (n : Nat) (P : zP) : Bool := P.1.all (fun q => Nat.blt q.1 n) && P.2.1.all (fun q => Nat.blt q.1 n && Nat.blt q.2.1 n) && P.2.2.1.all (fun q => Nat.blt q.1 n && (Nat.blt q.2.1.2.1 n && Nat.blt q.2.2.2.1 n)) && P.2.2.2.all (fun q => Nat.blt q.1 n)
theorem zk_blt {a b : Nat} (h : Nat.blt a b = true) : a < b := Nat.blt_eq.mp h
theorem zk_P_new {r r' : Nat → Int} {n : Nat} {P : zP} (hf : zk_fP n P = true) (he : ∀ x, x < n → r' x = r x) (h : zk_P r P) : zk_P r' P := by
  simp only [zk_fP, Bool.and_eq_true, List.all_eq_true] at hf
  obtain ⟨⟨⟨f1, f2⟩, f3⟩, f4⟩ := hf
  refine ⟨fun q hq => ?_, fun q hq => ?_, fun q hq => ?_, fun q hq => ?_⟩
  · rw [he _ (zk_blt (f1 q hq))]; exact h.1 q hq
  · rw [he _ (zk_blt (f2 q hq).1), he _ (zk_blt (f2 q hq).2)]; exact h.2.1 q hq
  · have h3 := h.2.2.1 q hq
    unfold zk_n at h3 ⊢
    rw [he _ (zk_blt (f3 q hq).1), he _ (zk_blt (f3 q hq).2.1), he _ (zk_blt (f3 q hq).2.2)]
    exact h3
  · rw [he _ (zk_blt (f4 q hq))]; exact h.2.2.2 q hq
def zk_nw (t n : Nat) (lo hi : Int) (ds : List (Nat × Nat × Int)) (P : zP) : zV × zP := ((t, n, 0), ((n, lo, hi) :: P.1, ds ++ P.2.1, P.2.2))
theorem zk_fresh {r : Nat → Int} {n : Nat} {P : zP} (hf : zk_fP n P = true) (h : zk_P r P) {z lo hi : Int} (hz : lo ≤ z ∧ z ≤ hi) {ds : List (Nat × Nat × Int)} (hd : ∀ q ∈ ds, zk_u r n z q.1 ≤ zk_u r n z q.2.1 + q.2.2) (t : Nat) : zk_P (zk_u r n z) (zk_nw t n lo hi ds P).2 := by
  have h1 := zk_P_new (r' := zk_u r n z) hf (fun x hx => zk_u_ne hx) h
  refine ⟨fun q hq => ?_, fun q hq => ?_, h1.2.2⟩
  · rcases List.mem_cons.mp hq with rfl | hq
    · rw [zk_u_n]; exact hz
    · exact h1.1 q hq
  · rcases List.mem_append.mp hq with hq | hq
    · exact hd q hq
    · exact h1.2.1 q hq
theorem zk_n_new {r : Nat → Int} {n : Nat} {v : zV} {z : Int} (hv : v.2.1 < n) : zk_n (zk_u r n z) v = zk_n r v := by
  unfold zk_n; rw [zk_u_ne hv]
theorem zk_n_n {r : Nat → Int} {t n : Nat} {z : Int} : zk_n (zk_u r n z) (t, n, 0) = z := by
  unfold zk_n; dsimp only; rw [zk_u_n]; omega
/-- what an operation of two numbers does on the machine: int 0 .. 10, long 20 .. 30 -/
def zk_f (o : Nat) (x y : Value) : Option Value := match x, y with
  | .int a, .int b => (match o with
    | 0 => some (.int (a + b)) | 1 => some (.int (a - b)) | 2 => some (.int (a * b)) | 3 => some (.int (a / b)) | 4 => some (.int (a - a / b * b))
    | 5 => some (.int (a &&& b)) | 6 => some (.int (a ||| b)) | 7 => some (.int (a ^^^ b)) | 8 => some (.int (a <<< (b &&& 31))) | 9 => some (.int (a >>> (b &&& 31)))
    | 10 => some (.int (a.toUInt32 >>> (b.toUInt32 &&& Int32.toUInt32 31)).toInt32) | _ => none)
  | .long a, .long b => (match o with
    | 20 => some (.long (a + b)) | 21 => some (.long (a - b)) | 22 => some (.long (a * b)) | 23 => some (.long (a / b)) | 24 => some (.long (a - a / b * b))
    | 25 => some (.long (a &&& b)) | 26 => some (.long (a ||| b)) | 27 => some (.long (a ^^^ b)) | _ => none)
  | .long a, .int b => (match o with
    | 28 => some (.long (a <<< (b.toInt64 &&& 63))) | 29 => some (.long (a >>> (b.toInt64 &&& 63)))
    | 30 => some (.long (a.toUInt64 >>> (b.toInt64.toUInt64 &&& Int64.toUInt64 63)).toInt64) | _ => none)
  | _, _ => none
/-- bounds of the answer, where they hold for all whole numbers within the operands' bounds; the second: what differences hold -/
def zk_add (t n : Nat) (lo hi : Int) (P : zP) (v w : zV) : zV × zP :=
  if w.2.1 = 0 then ((t, v.2.1, v.2.2 + w.2.2), P) else if v.2.1 = 0 then ((t, w.2.1, v.2.2 + w.2.2), P) else
  match zk_r P v, zk_r P w with
  | some a, some b => if lo ≤ a.1 + b.1 ∧ a.2 + b.2 ≤ hi then zk_nw t n (a.1 + b.1) (a.2 + b.2) [(n, v.2.1, v.2.2 + b.2), (v.2.1, n, -(v.2.2 + b.1)), (n, w.2.1, w.2.2 + a.2), (w.2.1, n, -(w.2.2 + a.1))] P else zk_nw t n lo hi [] P
  | _, _ => zk_nw t n lo hi [] P
/-- the least known c with x ≤ y + c, or d -/
def zk_ub (x y : Nat) : List (Nat × Nat × Int) → Int → Int
  | [], d => d
  | q :: l, d => zk_ub x y l (if q.1 = x ∧ q.2.1 = y ∧ q.2.2 < d then q.2.2 else d)
theorem zk_ub_ok {r : Nat → Int} {x y : Nat} : ∀ {l : List (Nat × Nat × Int)} {d : Int}, (∀ q ∈ l, r q.1 ≤ r q.2.1 + q.2.2) → r x ≤ r y + d → r x ≤ r y + zk_ub x y l d
  | [], _, _, h => h
  | q :: l, d, hl, h => by
    unfold zk_ub
    refine zk_ub_ok (fun q' hq => hl q' (List.mem_cons_of_mem _ hq)) ?_
    split
    · rename_i hc
      have := hl q List.mem_cons_self
      rw [hc.1, hc.2.1] at this
      exact this
    · exact h
def zk_sub (t n : Nat) (lo hi : Int) (P : zP) (v w : zV) : zV × zP :=
  if w.2.1 = 0 then ((t, v.2.1, v.2.2 - w.2.2), P) else if v.2.1 = w.2.1 then ((t, 0, v.2.2 - w.2.2), P) else
  match zk_r P v, zk_r P w with
  | some a, some b => if lo ≤ a.1 - b.2 ∧ a.2 - b.1 ≤ hi then zk_nw t n (v.2.2 - w.2.2 - zk_ub w.2.1 v.2.1 P.2.1 (v.2.2 - w.2.2 - (a.1 - b.2))) (v.2.2 - w.2.2 + zk_ub v.2.1 w.2.1 P.2.1 (a.2 - b.1 - (v.2.2 - w.2.2))) [(n, v.2.1, v.2.2 - b.1), (v.2.1, n, b.2 - v.2.2)] P else zk_nw t n lo hi [] P
  | _, _ => zk_nw t n lo hi [] P
def zk_mul (t n : Nat) (lo hi : Int) (P : zP) (v w : zV) : zV × zP :=
  if v.2.1 = 0 ∧ w.2.1 = 0 then ((t, 0, v.2.2 * w.2.2), P) else
  match zk_r P v, zk_r P w with
  | some a, some b => if 0 ≤ a.1 ∧ 0 ≤ b.1 ∧ a.2 * b.2 ≤ hi then zk_nw t n (a.1 * b.1) (a.2 * b.2) [] P else zk_nw t n lo hi [] P
  | _, _ => zk_nw t n lo hi [] P
def zk_div (t n : Nat) (lo hi : Int) (P : zP) (v w : zV) : zV × zP :=
  match zk_r P v, zk_r P w with
  | some a, some b => if 0 ≤ a.1 ∧ 1 ≤ b.1 ∧ a.2 ≤ hi ∧ b.2 ≤ hi then zk_nw t n (a.1 / b.2) (a.2 / b.1) (if 1 ≤ a.1 ∧ 2 ≤ b.1 then [(n, v.2.1, v.2.2 - 1)] else [(n, v.2.1, v.2.2)]) P else zk_nw t n lo hi [] P
  | _, _ => zk_nw t n lo hi [] P
def zk_rem (t n : Nat) (lo hi : Int) (P : zP) (v w : zV) : zV × zP :=
  if v.2.1 = 0 ∧ w.2.1 = 0 ∧ 0 ≤ v.2.2 ∧ 1 ≤ w.2.2 ∧ v.2.2 ≤ hi ∧ w.2.2 ≤ hi then ((t, 0, v.2.2 % w.2.2), P) else
  match zk_r P v, zk_r P w with
  | some a, some b => if 0 ≤ a.1 ∧ 1 ≤ b.1 ∧ a.2 ≤ hi ∧ b.2 ≤ hi then zk_nw t n 0 (min a.2 (b.2 - 1)) [(n, w.2.1, w.2.2 - 1), (n, v.2.1, v.2.2)] P else zk_nw t n lo hi [] P
  | _, _ => zk_nw t n lo hi [] P
def zk_and (t n : Nat) (lo hi : Int) (P : zP) (v w : zV) : zV × zP :=
  match zk_r P w with
  | some b => if 0 ≤ b.1 ∧ b.2 ≤ hi then zk_nw t n 0 b.2 [] P else zk_nw t n lo hi [] P
  | _ => zk_nw t n lo hi [] P
def zk_shr (t n : Nat) (lo hi : Int) (sh : Int) (P : zP) (v w : zV) : zV × zP :=
  match zk_r P v with
  | some a => if w.2.1 = 0 ∧ 0 ≤ w.2.2 ∧ w.2.2 < sh ∧ 0 ≤ a.1 ∧ a.2 ≤ hi then zk_nw t n 0 (a.2 / 2 ^ w.2.2.toNat) (if 1 ≤ a.1 ∧ 1 ≤ w.2.2 then [(n, v.2.1, v.2.2 - 1)] else [(n, v.2.1, v.2.2)]) P else zk_nw t n lo hi [] P
  | _ => zk_nw t n lo hi [] P
def zk_shl1 (n : Nat) (P : zP) (v w : zV) : zV × zP :=
  match zk_r P w with
  | some b => if v = (0, 0, 1) ∧ 0 ≤ b.1 ∧ b.2 ≤ 30 then zk_nw 0 n 1 (2 ^ b.2.toNat) [] P else zk_nw 0 n (-2147483648) 2147483647 [] P
  | _ => zk_nw 0 n (-2147483648) 2147483647 [] P
/-- & 255 of a byte is exact -/
def zk_and8 (n : Nat) (P : zP) (v w : zV) : zV × zP :=
  if w = (0, 0, 255) ∧ zk_inb P v 0 127 = true then (v, P) else if w = (0, 0, 255) ∧ zk_inb P v (-128) (-1) = true then ((v.1, v.2.1, v.2.2 + 256), P) else zk_and 0 n (-2147483648) 2147483647 P v w
def zk_bin (o n : Nat) (P : zP) (v w : zV) : zV × zP := match o with
  | 0 => zk_add 0 n (-2147483648) 2147483647 P v w
  | 1 => zk_sub 0 n (-2147483648) 2147483647 P v w
  | 2 => zk_mul 0 n (-2147483648) 2147483647 P v w
  | 3 => zk_div 0 n (-2147483648) 2147483647 P v w
  | 4 => zk_rem 0 n (-2147483648) 2147483647 P v w
  | 5 => zk_and8 n P v w
  | 8 => zk_shl1 n P v w
  | 9 => zk_shr 0 n (-2147483648) 2147483647 32 P v w
  | 20 => zk_add 1 n (-9223372036854775808) 9223372036854775807 P v w
  | 21 => zk_sub 1 n (-9223372036854775808) 9223372036854775807 P v w
  | 22 => zk_mul 1 n (-9223372036854775808) 9223372036854775807 P v w
  | 23 => zk_div 1 n (-9223372036854775808) 9223372036854775807 P v w
  | 24 => zk_rem 1 n (-9223372036854775808) 9223372036854775807 P v w
  | 25 => zk_and 1 n (-9223372036854775808) 9223372036854775807 P v w
  | 29 => zk_shr 1 n (-9223372036854775808) 9223372036854775807 64 P v w
  | o => if o < 20 then zk_nw 0 n (-2147483648) 2147483647 [] P else zk_nw 1 n (-9223372036854775808) 9223372036854775807 [] P
