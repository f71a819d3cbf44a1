/-! THE CHECKER, 5: what a state of the machine is, seen by the checker. Types of cells: (kind, class or length, what the places hold); kind 0 an object, 1 int[], 2 byte[], 3 boolean[], 4 long[], 10 + c an array of objects of class c, 9 a cell that was there before and is only read. -/
abbrev zT : Type := Nat × List (Int × Int)
abbrev zS : Type := Nat × Nat × List zT
/-- heap facts: types of references; known fields (x, class, field, value); known places (x, type, index, value); cells being made (x, class or 1000 + kind, values); the script (x, length); further facts -/
abbrev zG : Type := List (Nat × Nat) × List (Nat × Nat × Nat × zV) × List (Nat × Nat × zV × zV) × List (Nat × Nat × List zV) × List (Nat × zV) × List (Nat × List zV)
/-- locals, stack, numbers, heap, (next symbol, measure, cells, slots) -/
abbrev zA : Type := List (Nat × zV) × List zV × zP × zG × (Nat × (List (Nat × Int) × Int) × Nat × Nat)
def zk_dv : zT := (3, [])
def zk_el (l : List zT) (j : Nat) : zT := match l with
  | [q] => q
  | l => l.getD j zk_dv
/-- a value of a kind -/
def zk_vt (ty : Nat → Nat) (x : Value) (q : zT) : Prop := ∃ z : Int, x = zk_k q.1 z ∧ ∃ i ∈ q.2, if q.1 = 2 then 0 ≤ z ∧ ty z.toNat = i.1.toNat + 1 else i.1 ≤ z ∧ z ≤ i.2
/-- the world: class numbers, slots of fields, array classes, types, base, which cells may have which type, the script's cells, further facts -/
abbrev zD : Type := (Nat → ClassId) × (Nat → Nat → Nat) × (Nat → ClassId) × (Nat → zS) × Nat × (Nat → Nat → Prop) × (Nat → Int → Prop) × (Nat → (Nat → Nat) → Heap → List Int → Prop)
abbrev zD.dC (D : zD) := D.1
abbrev zD.dI (D : zD) := D.2.1
abbrev zD.cA (D : zD) := D.2.2.1
abbrev zD.TT (D : zD) := D.2.2.2.1
abbrev zD.ba (D : zD) := D.2.2.2.2.1
abbrev zD.RO (D : zD) := D.2.2.2.2.2.1
abbrev zD.SC (D : zD) := D.2.2.2.2.2.2.1
abbrev zD.OP (D : zD) := D.2.2.2.2.2.2.2
def zk_C (D : zD) (ty : Nat → Nat) (H : Heap) (a : Nat) (S : zS) : Prop :=
  if S.1 = 0 then ∃ cell : Cell, H[a]? = some cell ∧ cell.cls = D.dC S.2.1 ∧ cell.vm = .none ∧ ∀ (k : Nat) (q : zT), S.2.2[k]? = some q → ∃ x, cell.slots[D.dI S.2.1 k]? = some x ∧ zk_vt ty x q
  else ∃ cell : Cell, H[a]? = some cell ∧ cell.cls = D.cA S.1 ∧ cell.vm = .none ∧ cell.slots.size = S.2.1 ∧ ∀ j : Nat, j < S.2.1 → ∃ x, cell.slots[j]? = some x ∧ zk_vt ty x (zk_el S.2.2 j)
/-- the typed heap -/
def zk_T (D : zD) (ty : Nat → Nat) (H : Heap) : Prop := D.ba ≤ H.size ∧ ∀ a t : Nat, ty a = t + 1 → if (D.TT t).1 = 9 then D.RO t a ∧ a < D.ba else (D.ba ≤ a ∧ D.RO t a) ∧ zk_C D ty H a (D.TT t)
def zk_rt (r : Nat → Int) (ty : Nat → Nat) (q : Nat × Nat) : Prop := 0 ≤ r q.1 ∧ ty (r q.1).toNat = q.2 + 1
def zk_fm (D : zD) (r : Nat → Int) (ty : Nat → Nat) (H : Heap) (q : Nat × Nat × Nat × zV) : Prop := (∃ t, ty (r q.1).toNat = t + 1 ∧ (D.TT t).1 = 0 ∧ (D.TT t).2.1 = q.2.1 ∧ q.2.2.1 < (D.TT t).2.2.length) ∧ ∃ cell : Cell, H[(r q.1).toNat]? = some cell ∧ cell.slots[D.dI q.2.1 q.2.2.1]? = some (zk_c r q.2.2.2)
def zk_em (D : zD) (r : Nat → Int) (ty : Nat → Nat) (H : Heap) (q : Nat × Nat × zV × zV) : Prop := ty (r q.1).toNat = q.2.1 + 1 ∧ (D.TT q.2.1).1 ≠ 0 ∧ 0 ≤ zk_n r q.2.2.1 ∧ ∃ cell : Cell, H[(r q.1).toNat]? = some cell ∧ cell.slots[(zk_n r q.2.2.1).toNat]? = some (zk_c r q.2.2.2)
def zk_rw (D : zD) (r : Nat → Int) (ty : Nat → Nat) (H : Heap) (q : Nat × Nat × List zV) : Prop := 0 ≤ r q.1 ∧ D.ba ≤ (r q.1).toNat ∧ ty (r q.1).toNat = 0 ∧ ∃ cell : Cell, H[(r q.1).toNat]? = some cell ∧ cell.vm = .none ∧
  if q.2.1 < 1000 then cell.cls = D.dC q.2.1 ∧ ∀ (k : Nat) (v : zV), q.2.2[k]? = some v → cell.slots[D.dI q.2.1 k]? = some (zk_c r v)
  else cell.cls = D.cA (q.2.1 - 1000) ∧ cell.slots.size = q.2.2.length ∧ ∀ (k : Nat) (v : zV), q.2.2[k]? = some v → cell.slots[k]? = some (zk_c r v)
def zk_H (D : zD) (r : Nat → Int) (ty : Nat → Nat) (H : Heap) (G : zG) : Prop := (∀ q ∈ G.1, zk_rt r ty q) ∧ (∀ q ∈ G.2.1, zk_fm D r ty H q) ∧ (∀ q ∈ G.2.2.1, zk_em D r ty H q) ∧ (∀ q ∈ G.2.2.2.1, zk_rw D r ty H q) ∧ G.2.2.2.1.Pairwise (fun x y => r x.1 ≠ r y.1) ∧ (∀ q ∈ G.2.2.2.2.1, 0 ≤ r q.1 ∧ D.SC (r q.1).toNat (zk_n r q.2)) ∧ (∀ q ∈ G.2.2.2.2.2, D.OP q.1 ty H (q.2.map (zk_n r)))
/-- what may have changed since the method's start: fields F, arrays of types B; U: cells that were being made -/
def zk_F (D : zD) (F : List (Nat × Nat)) (B : List Nat) (U : Nat → Prop) (t0 : Nat → Nat) (H0 : Heap) (ty : Nat → Nat) (H : Heap) : Prop :=
  H0.size ≤ H.size ∧ (∀ a t : Nat, t0 a = t + 1 → ty a = t + 1) ∧ (∀ a : Nat, a < H0.size → ¬ U a → ty a = t0 a) ∧ (∀ a : Nat, a < H0.size → t0 a = 0 → ¬ U a → H[a]? = H0[a]?) ∧
  (∀ a t : Nat, t0 a = t + 1 → (D.TT t).1 ≠ 0 → t ∉ B → H[a]? = H0[a]?) ∧
  (∀ a t : Nat, t0 a = t + 1 → (D.TT t).1 = 0 → ∀ k : Nat, k < (D.TT t).2.2.length → (t, k) ∉ F → ∀ c0 c1 : Cell, H0[a]? = some c0 → H[a]? = some c1 → c1.slots[D.dI (D.TT t).2.1 k]? = c0.slots[D.dI (D.TT t).2.1 k]?)
def zk_lin (r : Nat → Int) (m : List (Nat × Int) × Int) : Int := m.1.foldr (fun q z => q.2 * r q.1 + z) m.2
/-- all symbols below n -/
def zk_fL (n : Nat) (l : List zV) : Bool := l.all (fun v => Nat.blt v.2.1 n)
def zk_fG (n : Nat) (G : zG) : Bool := G.1.all (fun q => Nat.blt q.1 n) && G.2.1.all (fun q => Nat.blt q.1 n && Nat.blt q.2.2.2.2.1 n) && G.2.2.1.all (fun q => Nat.blt q.1 n && (Nat.blt q.2.2.1.2.1 n && Nat.blt q.2.2.2.2.1 n)) && G.2.2.2.1.all (fun q => Nat.blt q.1 n && zk_fL n q.2.2) && G.2.2.2.2.1.all (fun q => Nat.blt q.1 n && Nat.blt q.2.2.1 n) && G.2.2.2.2.2.all (fun q => zk_fL n q.2)
def zk_fA (n : Nat) (A : zA) : Bool := A.1.all (fun q => Nat.blt q.2.2.1 n) && zk_fL n A.2.1 && zk_fP n A.2.2.1 && zk_fG n A.2.2.2.1 && A.2.2.2.2.2.1.1.all (fun q => Nat.blt q.1 n)
section
variable {D : zD} {r r' : Nat → Int} {n : Nat} {ty : Nat → Nat} {H : Heap}
theorem zk_n_eq (he : ∀ x, x < n → r' x = r x) {v : zV} (hv : v.2.1 < n) : zk_n r' v = zk_n r v := by unfold zk_n; rw [he _ hv]
theorem zk_c_eq (he : ∀ x, x < n → r' x = r x) {v : zV} (hv : v.2.1 < n) : zk_c r' v = zk_c r v := by unfold zk_c; rw [zk_n_eq he hv]
theorem zk_map_c (he : ∀ x, x < n → r' x = r x) : ∀ {l : List zV}, zk_fL n l = true → l.map (zk_c r') = l.map (zk_c r)
  | [], _ => rfl
  | v :: l, h => by
    simp only [zk_fL, List.all_cons, Bool.and_eq_true] at h
    rw [List.map_cons, List.map_cons, zk_c_eq he (zk_blt h.1), zk_map_c he h.2]
theorem zk_map_n (he : ∀ x, x < n → r' x = r x) : ∀ {l : List zV}, zk_fL n l = true → l.map (zk_n r') = l.map (zk_n r)
  | [], _ => rfl
  | v :: l, h => by
    simp only [zk_fL, List.all_cons, Bool.and_eq_true] at h
    rw [List.map_cons, List.map_cons, zk_n_eq he (zk_blt h.1), zk_map_n he h.2]
theorem zk_H_new {G : zG} (hf : zk_fG n G = true) (he : ∀ x, x < n → r' x = r x) (h : zk_H D r ty H G) : zk_H D r' ty H G := by
  simp only [zk_fG, Bool.and_eq_true, List.all_eq_true] at hf
  obtain ⟨⟨⟨⟨⟨f1, f2⟩, f3⟩, f4⟩, f5⟩, f6⟩ := hf
  obtain ⟨h1, h2, h3, h4, h5, h6, h7⟩ := h
  refine ⟨fun q hq => ?_, fun q hq => ?_, fun q hq => ?_, fun q hq => ?_, ?_, fun q hq => ?_, fun q hq => ?_⟩
  · unfold zk_rt; rw [he _ (zk_blt (f1 q hq))]; exact h1 q hq
  · unfold zk_fm; rw [he _ (zk_blt (f2 q hq).1), zk_c_eq he (zk_blt (f2 q hq).2)]; exact h2 q hq
  · unfold zk_em; rw [he _ (zk_blt (f3 q hq).1), zk_n_eq he (zk_blt (f3 q hq).2.1), zk_c_eq he (zk_blt (f3 q hq).2.2)]; exact h3 q hq
  · have g := h4 q hq
    have fl := (f4 q hq).2
    unfold zk_rw at g ⊢
    rw [he _ (zk_blt (f4 q hq).1)]
    obtain ⟨g1, g2, g3, cell, g4, g5, g6⟩ := g
    refine ⟨g1, g2, g3, cell, g4, g5, ?_⟩
    have ec : ∀ (k : Nat) (v : zV), q.2.2[k]? = some v → zk_c r' v = zk_c r v := fun k v hk => zk_c_eq he (zk_blt (List.all_eq_true.mp fl v (List.mem_of_getElem? hk)))
    split at g6
    · rename_i hc
      rw [if_pos hc]
      exact ⟨g6.1, fun k v hk => by rw [ec k v hk]; exact g6.2 k v hk⟩
    · rename_i hc
      rw [if_neg hc]
      exact ⟨g6.1, g6.2.1, fun k v hk => by rw [ec k v hk]; exact g6.2.2 k v hk⟩
  · refine List.Pairwise.imp_of_mem ?_ h5
    intro x y hx hy hxy
    rw [he _ (zk_blt (f4 x hx).1), he _ (zk_blt (f4 y hy).1)]
    exact hxy
  · rw [he _ (zk_blt (f5 q hq).1), zk_n_eq he (zk_blt (f5 q hq).2)]; exact h6 q hq
  · rw [zk_map_n he (f6 q hq)]; exact h7 q hq
theorem zk_lin_new {m : List (Nat × Int) × Int} (hf : m.1.all (fun q => Nat.blt q.1 n) = true) (he : ∀ x, x < n → r' x = r x) : zk_lin r' m = zk_lin r m := by
  obtain ⟨l, c⟩ := m
  unfold zk_lin
  dsimp only at hf ⊢
  induction l with
  | nil => rfl
  | cons q l ih =>
    simp only [List.all_cons, Bool.and_eq_true] at hf
    rw [List.foldr_cons, List.foldr_cons, ih hf.2, he _ (zk_blt hf.1)]
end
