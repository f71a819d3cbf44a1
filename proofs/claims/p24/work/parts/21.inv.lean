/-! THE CHECKER, 6: the invariant that ties the machine to the checker's state, and rows that don't touch the heap. -/
/-- a method's frame: nL locals; entry symbols below n0 with their values; what may change; the measure at its last annotated place -/
abbrev zE : Type := Nat × (Nat × (Nat → Int)) × (List (Nat × Nat) × List Nat) × ((Nat → Prop) × (Nat → Nat) × Heap) × Int
def zk_I (D : zD) (E : zE) (A : zA) (r : Nat → Int) (ty : Nat → Nat) (H : Heap) (locs : List Loc) (ls : Array Slot) (st : List Value) : Prop :=
  lv_has ls E.1 (A.1.map fun q => (q.1, zk_c r q.2)) ∧ st = A.2.1.map (zk_c r) ∧ zk_P r A.2.2.1 ∧ zk_H D r ty H A.2.2.2.1 ∧ zk_T D ty H ∧ zk_F D E.2.2.1.1 E.2.2.1.2 E.2.2.2.1.1 E.2.2.2.1.2.1 E.2.2.2.1.2.2 ty H ∧ r 0 = 0 ∧ (∀ x, x < E.2.1.1 → r x = E.2.1.2 x) ∧ zk_lin r A.2.2.2.2.2.1 = E.2.2.2.2 ∧ (∀ q ∈ locs, D.ba ≤ q.base) ∧ ∀ q ∈ A.2.2.2.1.2.2.2.1, E.2.2.2.1.1 (r q.1).toNat ∨ E.2.2.2.1.2.2.size ≤ (r q.1).toNat
def zk_ok (n0 : Nat) (A : zA) : Bool := Nat.blt 0 A.2.2.2.2.1 && (Nat.ble n0 A.2.2.2.2.1 && zk_fA A.2.2.2.2.1 A)
theorem zk_I_new {D : zD} {E : zE} {A : zA} {r r' : Nat → Int} {ty : Nat → Nat} {H : Heap} {locs : List Loc} {ls : Array Slot} {st : List Value} (hf : zk_ok E.2.1.1 A = true) (he : ∀ x, x < A.2.2.2.2.1 → r' x = r x) (h : zk_I D E A r ty H locs ls st) : zk_I D E A r' ty H locs ls st := by
  simp only [zk_ok, zk_fA, Bool.and_eq_true] at hf
  obtain ⟨hn, hle, ⟨⟨⟨f1, f2⟩, f3⟩, f4⟩, f5⟩ := hf
  have hn := zk_blt hn
  have hle := Nat.le_of_ble_eq_true hle
  obtain ⟨h1, h2, h3, h4, h5, h6, h7, h8, h9, h10⟩ := h
  refine ⟨?_, ?_, zk_P_new f3 he h3, zk_H_new f4 he h4, h5, h6, by rw [he 0 hn]; exact h7, fun x hx => by rw [he x (Nat.lt_of_lt_of_le hx hle)]; exact h8 x hx, by rw [zk_lin_new f5 he]; exact h9, h10.1, fun q hq => ?_⟩
  · have e : (A.1.map fun q => (q.1, zk_c r' q.2)) = A.1.map fun q => (q.1, zk_c r q.2) := by
      apply List.map_congr_left
      intro q hq
      rw [zk_c_eq he (zk_blt (List.all_eq_true.mp f1 q hq))]
    rw [e]; exact h1
  · rw [zk_map_c he f2]; exact h2
  · simp only [zk_fG, Bool.and_eq_true, List.all_eq_true] at f4
    rw [he _ (zk_blt (f4.1.1.2 q hq).1)]
    exact h10.2 q hq
def zk_find : List (Nat × zV) → Nat → Option zV
  | [], _ => none
  | q :: l, i => if q.1 = i then some q.2 else zk_find l i
theorem zk_find_mem : ∀ {l : List (Nat × zV)} {i : Nat} {v : zV}, zk_find l i = some v → (i, v) ∈ l
  | [], _, _, h => by simp [zk_find] at h
  | y :: l, i, v, h => by
    unfold zk_find at h
    split at h
    · rename_i h1
      cases h
      rw [← h1]
      exact List.mem_cons_self
    · exact List.mem_cons_of_mem _ (zk_find_mem h)
theorem zk_local {ls : Array Slot} {nL : Nat} {L : List (Nat × zV)} {r : Nat → Int} (h : lv_has ls nL (L.map fun q => (q.1, zk_c r q.2))) {i : Nat} {v : zV} (hv : zk_find L i = some v) : ls[i]? = some (.val (zk_c r v)) :=
  h.2.2 (i, zk_c r v) (List.mem_map.mpr ⟨(i, v), zk_find_mem hv, rfl⟩)
/-- pushed -/
def zk_pu (v : zV) (A : zA) : zA := (A.1, v :: A.2.1, A.2.2)
/-- the stack is S -/
def zk_ss (S : List zV) (A : zA) : zA := (A.1, S, A.2.2)
def zk_keep1 (i : Nat) (q : Nat × zV) : Bool := !(q.1 == i) && !(q.1 + 1 == i && q.2.1 == 1)
def zk_keep2 (i : Nat) (q : Nat × zV) : Bool := !(q.1 == i) && (!(q.1 == i + 1) && !(q.1 + 1 == i && q.2.1 == 1))
theorem zk_cat (t : Nat) (z : Int) : ((zk_k t z).category == 2) = (t == 1) := by
  match t with
  | 0 => rfl
  | 1 => rfl
  | 2 => rfl
  | t + 3 => simp [zk_k, Value.category]
theorem zk_filter1 (i : Nat) (r : Nat → Int) (L : List (Nat × zV)) : (L.map fun q => (q.1, zk_c r q.2)).filter (fun q => !(q.1 == i) && !(q.1 + 1 == i && q.2.category == 2)) = (L.filter (zk_keep1 i)).map fun q => (q.1, zk_c r q.2) := by
  rw [List.filter_map]
  congr 1
  apply List.filter_congr
  intro q _
  simp only [Function.comp, zk_c, zk_cat, zk_keep1]
theorem zk_filter2 (i : Nat) (r : Nat → Int) (L : List (Nat × zV)) : (L.map fun q => (q.1, zk_c r q.2)).filter (fun q => !(q.1 == i) && (!(q.1 == i + 1) && !(q.1 + 1 == i && q.2.category == 2))) = (L.filter (zk_keep2 i)).map fun q => (q.1, zk_c r q.2) := by
  rw [List.filter_map]
  congr 1
  apply List.filter_congr
  intro q _
  simp only [Function.comp, zk_c, zk_cat, zk_keep2]
def zk_sl1 (i : Nat) (v : zV) (S : List zV) (A : zA) : zA := ((i, v) :: A.1.filter (zk_keep1 i), S, A.2.2)
def zk_sl2 (i : Nat) (v : zV) (S : List zV) (A : zA) : zA := ((i, v) :: A.1.filter (zk_keep2 i), S, A.2.2)
section
variable {p : Program} {l : Launch} {e : Env} {R : Room} {s : State} {m : MethodId} {args : Array Value} {below : List Frame} {meth : Method} {c : Code} {Q : State → Prop} {cc : ByteArray} {pc : Nat} {D : zD} {E : zE} {A : zA}
/-- from a state of the checker's the machine comes to Q -/
def zk_W (p : Program) (l : Launch) (e : Env) (R : Room) (s : State) (m : MethodId) (args : Array Value) (below : List Frame) (meth : Method) (c : Code) (Q : State → Prop) (D : zD) (E : zE) (pc : Nat) (A : zA) : Prop :=
  ∀ (r : Nat → Int) (ty : Nat → Nat) (H : Heap) (locs : List Loc) (ls : Array Slot) (st : List Value), zk_I D E A r ty H locs ls st → W p l e R s m args below meth c H locs A.2.2.2.2.2.2.1 A.2.2.2.2.2.2.2 Q (F0 m pc ls st)
theorem zk_I_pu {r : Nat → Int} {ty : Nat → Nat} {H : Heap} {locs : List Loc} {ls : Array Slot} {st : List Value} {v : zV} (h : zk_I D E A r ty H locs ls st) : zk_I D E (zk_pu v A) r ty H locs ls (zk_c r v :: st) := by
  obtain ⟨h1, h2, h3⟩ := h
  exact ⟨h1, by rw [h2]; rfl, h3⟩
theorem zk_I_ss {r : Nat → Int} {ty : Nat → Nat} {H : Heap} {locs : List Loc} {ls : Array Slot} {st : List Value} {S : List zV} (h : zk_I D E A r ty H locs ls st) : zk_I D E (zk_ss S A) r ty H locs ls (S.map (zk_c r)) := by
  obtain ⟨h1, h2, h3⟩ := h
  exact ⟨h1, rfl, h3⟩
/-- a constant is pushed -/
theorem zk_row_const {v : zV} {n : Nat} (row : ∀ {H : Heap} {locs : List Loc} {cells slots : Nat} {ls : Array Slot} {rest : List Value} {r : Nat → Int}, r 0 = 0 → W p l e R s m args below meth c H locs cells slots Q (F0 m n ls (zk_c r v :: rest)) → W p l e R s m args below meth c H locs cells slots Q (F0 m pc ls rest))
    (k : zk_W p l e R s m args below meth c Q D E n (zk_pu v A)) : zk_W p l e R s m args below meth c Q D E pc A := by
  intro r ty H locs ls st h
  exact row h.2.2.2.2.2.2.1 (k r ty H locs ls _ (zk_I_pu h))
theorem zk_row_load {v : zV} {i n : Nat} (hv : zk_find A.1 i = some v) (row : ∀ {H : Heap} {locs : List Loc} {cells slots : Nat} {ls : Array Slot} {rest : List Value} {x : Value}, (∃ z, x = zk_k v.1 z) → ls[i]? = some (.val x) → W p l e R s m args below meth c H locs cells slots Q (F0 m n ls (x :: rest)) → W p l e R s m args below meth c H locs cells slots Q (F0 m pc ls rest))
    (k : zk_W p l e R s m args below meth c Q D E n (zk_pu v A)) : zk_W p l e R s m args below meth c Q D E pc A := by
  intro r ty H locs ls st h
  exact row ⟨_, rfl⟩ (zk_local h.1 hv) (k r ty H locs ls _ (zk_I_pu h))
theorem zk_row_store1 {v : zV} {S : List zV} {i n : Nat} (hS : A.2.1 = v :: S) (row : ∀ {H : Heap} {locs : List Loc} {cells slots : Nat} {ls : Array Slot} {rest : List Value} {x : Value} {lv : List (Nat × Value)}, (∃ z, x = zk_k v.1 z) → lv_has ls E.1 lv → (∀ ls' : Array Slot, lv_has ls' E.1 ((i, x) :: lv.filter (fun q => !(q.1 == i) && !(q.1 + 1 == i && q.2.category == 2))) → W p l e R s m args below meth c H locs cells slots Q (F0 m n ls' rest)) → W p l e R s m args below meth c H locs cells slots Q (F0 m pc ls (x :: rest)))
    (k : zk_W p l e R s m args below meth c Q D E n (zk_sl1 i v S A)) : zk_W p l e R s m args below meth c Q D E pc A := by
  intro r ty H locs ls st h
  obtain ⟨h1, h2, h3⟩ := h
  rw [h2, hS, List.map_cons]
  refine row ⟨_, rfl⟩ h1 (fun ls' h' => k r ty H locs ls' _ ⟨?_, rfl, h3⟩)
  rw [zk_filter1] at h'
  exact h'
theorem zk_row_store2 {v : zV} {S : List zV} {i n : Nat} (hS : A.2.1 = v :: S) (row : ∀ {H : Heap} {locs : List Loc} {cells slots : Nat} {ls : Array Slot} {rest : List Value} {x : Value} {lv : List (Nat × Value)}, (∃ z, x = zk_k v.1 z) → lv_has ls E.1 lv → (∀ ls' : Array Slot, lv_has ls' E.1 ((i, x) :: lv.filter (fun q => !(q.1 == i) && (!(q.1 == i + 1) && !(q.1 + 1 == i && q.2.category == 2)))) → W p l e R s m args below meth c H locs cells slots Q (F0 m n ls' rest)) → W p l e R s m args below meth c H locs cells slots Q (F0 m pc ls (x :: rest)))
    (k : zk_W p l e R s m args below meth c Q D E n (zk_sl2 i v S A)) : zk_W p l e R s m args below meth c Q D E pc A := by
  intro r ty H locs ls st h
  obtain ⟨h1, h2, h3⟩ := h
  rw [h2, hS, List.map_cons]
  refine row ⟨_, rfl⟩ h1 (fun ls' h' => k r ty H locs ls' _ ⟨?_, rfl, h3⟩)
  rw [zk_filter2] at h'
  exact h'
theorem zk_row_stack {S : List zV} {n : Nat} (row : ∀ {H : Heap} {locs : List Loc} {cells slots : Nat} {ls : Array Slot} {r : Nat → Int}, W p l e R s m args below meth c H locs cells slots Q (F0 m n ls (S.map (zk_c r))) → W p l e R s m args below meth c H locs cells slots Q (F0 m pc ls (A.2.1.map (zk_c r))))
    (k : zk_W p l e R s m args below meth c Q D E n (zk_ss S A)) : zk_W p l e R s m args below meth c Q D E pc A := by
  intro r ty H locs ls st h
  have h2 := h.2.1
  subst h2
  exact row (k r ty H locs ls _ (zk_I_ss h))
end
