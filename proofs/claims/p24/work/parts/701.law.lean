/-! THE LAW, 2: from the constructors' world to the methods': finer types are forgotten, what isn't reached from the two objects loses its type (printed by wip/t6/mklaw2.py). -/
def zmu (t : Nat) : Nat := if t = 126 then 33 else if t = 127 then 37 else if t = 128 then 38 else if t = 133 then 53 else if t = 134 then 55 else if t = 135 then 63 else if t = 129 then 32 else if t = 136 then 45 else if t = 130 then 31 else if t = 137 then 47 else if t = 138 then 48 else if t = 139 then 49 else if t = 140 then 50 else if t = 141 then 51 else if t = 131 then 31 else if t = 142 then 47 else if t = 143 then 48 else if t = 144 then 49 else if t = 145 then 50 else if t = 146 then 51 else if t = 132 then 31 else if t = 147 then 47 else if t = 148 then 48 else if t = 149 then 49 else if t = 150 then 50 else if t = 151 then 51 else t
/-- a cell's name, its owner's name, the field (class, number; class 99: a place of an array) -/
def zUp : List (Nat × Nat × Nat × Nat) := [(39, 42, 11, 11), (1000, 42, 11, 5), (1001, 42, 11, 6), (64, 39, 5, 0), (1030, 64, 99, 0), (1031, 64, 99, 1), (1010, 1000, 10, 1), (1011, 1001, 10, 1), (1020, 1000, 10, 3), (1021, 1001, 10, 3), (1040, 1030, 3, 3), (1041, 1031, 3, 3), (77, 43, 12, 17), (79, 43, 12, 19), (84, 43, 12, 25), (86, 43, 12, 27), (88, 43, 12, 29), (105, 43, 12, 46), (106, 43, 12, 47), (111, 43, 12, 55), (112, 43, 12, 56), (114, 43, 12, 62), (115, 43, 12, 63), (116, 43, 12, 64), (118, 43, 12, 66), (119, 43, 12, 68)]
def zIds : List Nat := [42, 43, 39, 1000, 1001, 64, 1030, 1031, 1010, 1011, 1020, 1021, 1040, 1041, 77, 79, 84, 86, 88, 105, 106, 111, 112, 114, 115, 116, 118, 119]
/-- the fine type of a named cell -/
def zUf (i : Nat) : Nat := if i = 1000 then 33 else if i = 1001 then 126 else if i = 1010 then 53 else if i = 1011 then 133 else if i = 1020 then 55 else if i = 1021 then 134 else if i = 1030 then 37 else if i = 1031 then 127 else if i = 1040 then 63 else if i = 1041 then 135 else i
/-- the names of the cells that may have a type -/
def zid (t : Nat) : List Nat := if zUq.contains t || (t == 42 || (t == 39 || t == 64)) then [t] else if t = 33 then [1000, 1001] else if t = 37 then [1030, 1031] else []
def zc (H : Heap) (a i : Nat) : Nat := (zi H a i).toNat

def zua (x m : Nat) (dI : Nat → Nat → Nat) (H : Heap) (j : Nat) : Nat := if j = 42 then x else if j = 43 then m else if j = 39 then (zc H x (dI 11 11)) else if j = 1000 then (zc H x (dI 11 5)) else if j = 1001 then (zc H x (dI 11 6)) else if j = 64 then (zc H (zc H x (dI 11 11)) (dI 5 0)) else if j = 1030 then (zc H (zc H (zc H x (dI 11 11)) (dI 5 0)) 0) else if j = 1031 then (zc H (zc H (zc H x (dI 11 11)) (dI 5 0)) 1) else if j = 1010 then (zc H (zc H x (dI 11 5)) (dI 10 1)) else if j = 1011 then (zc H (zc H x (dI 11 6)) (dI 10 1)) else if j = 1020 then (zc H (zc H x (dI 11 5)) (dI 10 3)) else if j = 1021 then (zc H (zc H x (dI 11 6)) (dI 10 3)) else if j = 1040 then (zc H (zc H (zc H (zc H x (dI 11 11)) (dI 5 0)) 0) (dI 3 3)) else if j = 1041 then (zc H (zc H (zc H (zc H x (dI 11 11)) (dI 5 0)) 1) (dI 3 3)) else if j = 77 then (zc H m (dI 12 17)) else if j = 79 then (zc H m (dI 12 19)) else if j = 84 then (zc H m (dI 12 25)) else if j = 86 then (zc H m (dI 12 27)) else if j = 88 then (zc H m (dI 12 29)) else if j = 105 then (zc H m (dI 12 46)) else if j = 106 then (zc H m (dI 12 47)) else if j = 111 then (zc H m (dI 12 55)) else if j = 112 then (zc H m (dI 12 56)) else if j = 114 then (zc H m (dI 12 62)) else if j = 115 then (zc H m (dI 12 63)) else if j = 116 then (zc H m (dI 12 64)) else if j = 118 then (zc H m (dI 12 66)) else if j = 119 then (zc H m (dI 12 68)) else 0
def zix (dI : Nat → Nat → Nat) (q : Nat × Nat × Nat × Nat) : Nat := if q.2.2.1 = 99 then q.2.2.2 else dI q.2.2.1 q.2.2.2
theorem zua_row {x m : Nat} {dI : Nat → Nat → Nat} {H : Heap} : ∀ q ∈ zUp, zua x m dI H q.1 = zc H (zua x m dI H q.2.1) (zix dI q) := by
  intro q hq
  simp only [zUp, List.mem_cons, List.not_mem_nil, or_false] at hq
  rcases hq with rfl | rfl | rfl | rfl | rfl | rfl | rfl | rfl | rfl | rfl | rfl | rfl | rfl | rfl | rfl | rfl | rfl | rfl | rfl | rfl | rfl | rfl | rfl | rfl | rfl | rfl <;> rfl
theorem zUf_inj : ∀ i ∈ zIds, ∀ j ∈ zIds, zUf i = zUf j → i = j := by decide +kernel
theorem zid_Ids : ∀ t i, i ∈ zid t → i ∈ zIds := by
  intro t i hi
  unfold zid at hi
  split at hi
  · rename_i h
    rw [List.mem_singleton.mp hi]
    simp only [Bool.or_eq_true, List.contains_iff_mem, beq_iff_eq] at h
    rcases h with h | h | h | h
    · have : ∀ t ∈ zUq, t ∈ zIds := by decide
      exact this t h
    · rw [h]; decide
    · rw [h]; decide
    · rw [h]; decide
  · split at hi
    · have : ∀ i ∈ ([1000, 1001] : List Nat), i ∈ zIds := by decide
      exact this i hi
    · split at hi
      · have : ∀ i ∈ ([1030, 1031] : List Nat), i ∈ zIds := by decide
        exact this i hi
      · cases hi
theorem zUp_own : ∀ q ∈ zUp, q.2.1 ∈ zIds ∧ zid (zmu (zUf q.2.1)) ≠ [] := by decide +kernel
theorem zv_ref {ty : Nat → Nat} {x : Value} {u : Nat} (h : zk_vt ty x (2, [((u : Int), 0)])) : ∃ z : Nat, x = .ref z ∧ ty z = u + 1 := by
  obtain ⟨z, e1, i, hi, h⟩ := h
  rw [List.mem_singleton.mp hi, if_pos rfl] at h
  exact ⟨z.toNat, e1, by simpa using h.2⟩
def zvi (x : Value) : Int := match x with | .int x => x.toInt | .long x => x.toInt | .ref b => (b : Int) | _ => 0
theorem zi_at {H : Heap} {a i : Nat} {cell : Cell} {x : Value} (h1 : H[a]? = some cell) (h2 : cell.slots[i]? = some x) : zi H a i = zvi x := by
  unfold zi
  rw [h1]
  dsimp only
  rw [h2]
  cases x <;> rfl
section
variable {D : zD} {ty : Nat → Nat} {H : Heap} {a t : Nat}
theorem zt_f (hT : zk_T D ty H) (hTT : D.TT = zTT1) (ha : ty a = t + 1) (h0 : (zTT1 t).1 = 0) {k : Nat} {q : zT} (hk : (zTT1 t).2.2[k]? = some q) : ∃ (cell : Cell) (x : Value), H[a]? = some cell ∧ cell.slots[D.dI (zTT1 t).2.1 k]? = some x ∧ zk_vt ty x q := by
  have h := hT.2 a t ha
  rw [hTT, if_neg (by rw [h0]; decide)] at h
  have h := h.2
  unfold zk_C at h
  rw [if_pos h0] at h
  obtain ⟨cell, h1, -, -, h2⟩ := h
  obtain ⟨x, h3, h4⟩ := h2 k q hk
  exact ⟨cell, x, h1, h3, h4⟩
theorem zt_a (hT : zk_T D ty H) (hTT : D.TT = zTT1) (ha : ty a = t + 1) (h0 : (zTT1 t).1 ≠ 0) (h9 : (zTT1 t).1 ≠ 9) : ∃ cell : Cell, H[a]? = some cell ∧ cell.slots.size = (zTT1 t).2.1 ∧ ∀ j, j < (zTT1 t).2.1 → ∃ x, cell.slots[j]? = some x ∧ zk_vt ty x (zk_el (zTT1 t).2.2 j) := by
  have h := hT.2 a t ha
  rw [hTT, if_neg h9] at h
  have h := h.2
  unfold zk_C at h
  rw [if_neg h0] at h
  obtain ⟨cell, h1, -, -, h2, h3⟩ := h
  exact ⟨cell, h1, h2, h3⟩
def zrow_ok (q : Nat × Nat × Nat × Nat) : Bool := if q.2.2.1 = 99 then decide ((zTT1 (zUf q.2.1)).1 ≠ 0 ∧ (zTT1 (zUf q.2.1)).1 ≠ 9 ∧ q.2.2.2 < (zTT1 (zUf q.2.1)).2.1 ∧ zk_el (zTT1 (zUf q.2.1)).2.2 q.2.2.2 = (2, [((zUf q.1 : Int), 0)])) else decide ((zTT1 (zUf q.2.1)).1 = 0 ∧ (zTT1 (zUf q.2.1)).2.1 = q.2.2.1 ∧ (zTT1 (zUf q.2.1)).2.2[q.2.2.2]? = some (2, [((zUf q.1 : Int), 0)]))
theorem zrows_ok : ∀ q ∈ zUp, zrow_ok q = true := by decide +kernel
/-- a named cell, out of its owner -/
theorem zt_row (hT : zk_T D ty H) (hTT : D.TT = zTT1) {q : Nat × Nat × Nat × Nat} (hq : q ∈ zUp) (ha : ty a = zUf q.2.1 + 1) : ty (zc H a (zix D.dI q)) = zUf q.1 + 1 ∧ zi H a (zix D.dI q) = (zc H a (zix D.dI q) : Int) := by
  have h := zrows_ok q hq
  unfold zrow_ok at h
  have key : ∃ (cell : Cell) (x : Value), H[a]? = some cell ∧ cell.slots[zix D.dI q]? = some x ∧ zk_vt ty x (2, [(((zUf q.1 : Nat) : Int), 0)]) := by
    split at h
    · rename_i e
      simp only [decide_eq_true_eq] at h
      obtain ⟨h1, h2, h3, h4⟩ := h
      obtain ⟨cell, c1, -, c2⟩ := zt_a hT hTT ha h1 h2
      obtain ⟨x, c3, c4⟩ := c2 _ h3
      rw [h4] at c4
      exact ⟨cell, x, c1, by unfold zix; rw [if_pos e]; exact c3, c4⟩
    · rename_i e
      simp only [decide_eq_true_eq] at h
      obtain ⟨h1, h2, h3⟩ := h
      obtain ⟨cell, x, c1, c2, c3⟩ := zt_f hT hTT ha h1 h3
      rw [h2] at c2
      exact ⟨cell, x, c1, by unfold zix; rw [if_neg e]; exact c2, c3⟩
  obtain ⟨cell, x, c1, c2, c3⟩ := key
  obtain ⟨z, rfl, hz⟩ := zv_ref c3
  have e : zi H a (zix D.dI q) = (z : Int) := zi_at c1 c2
  have e2 : zc H a (zix D.dI q) = z := by unfold zc; rw [e]; rfl
  rw [e2]
  exact ⟨hz, e⟩
end
/-- every named cell has its fine type -/
theorem zt_ids {D : zD} {ty : Nat → Nat} {H : Heap} {x m : Nat} (hT : zk_T D ty H) (hTT : D.TT = zTT1) (hx : ty x = 43) (hm : ty m = 44) : ∀ i ∈ zIds, ty (zua x m D.dI H i) = zUf i + 1 := by
  have h42 : ty (zua x m D.dI H 42) = zUf 42 + 1 := hx
  have h43 : ty (zua x m D.dI H 43) = zUf 43 + 1 := hm
  have h39 : ty (zua x m D.dI H 39) = zUf 39 + 1 := (zt_row hT hTT (q := (39, 42, 11, 11)) (by decide) h42).1
  have h1000 : ty (zua x m D.dI H 1000) = zUf 1000 + 1 := (zt_row hT hTT (q := (1000, 42, 11, 5)) (by decide) h42).1
  have h1001 : ty (zua x m D.dI H 1001) = zUf 1001 + 1 := (zt_row hT hTT (q := (1001, 42, 11, 6)) (by decide) h42).1
  have h64 : ty (zua x m D.dI H 64) = zUf 64 + 1 := (zt_row hT hTT (q := (64, 39, 5, 0)) (by decide) h39).1
  have h1030 : ty (zua x m D.dI H 1030) = zUf 1030 + 1 := (zt_row hT hTT (q := (1030, 64, 99, 0)) (by decide) h64).1
  have h1031 : ty (zua x m D.dI H 1031) = zUf 1031 + 1 := (zt_row hT hTT (q := (1031, 64, 99, 1)) (by decide) h64).1
  have h1010 : ty (zua x m D.dI H 1010) = zUf 1010 + 1 := (zt_row hT hTT (q := (1010, 1000, 10, 1)) (by decide) h1000).1
  have h1011 : ty (zua x m D.dI H 1011) = zUf 1011 + 1 := (zt_row hT hTT (q := (1011, 1001, 10, 1)) (by decide) h1001).1
  have h1020 : ty (zua x m D.dI H 1020) = zUf 1020 + 1 := (zt_row hT hTT (q := (1020, 1000, 10, 3)) (by decide) h1000).1
  have h1021 : ty (zua x m D.dI H 1021) = zUf 1021 + 1 := (zt_row hT hTT (q := (1021, 1001, 10, 3)) (by decide) h1001).1
  have h1040 : ty (zua x m D.dI H 1040) = zUf 1040 + 1 := (zt_row hT hTT (q := (1040, 1030, 3, 3)) (by decide) h1030).1
  have h1041 : ty (zua x m D.dI H 1041) = zUf 1041 + 1 := (zt_row hT hTT (q := (1041, 1031, 3, 3)) (by decide) h1031).1
  have h77 : ty (zua x m D.dI H 77) = zUf 77 + 1 := (zt_row hT hTT (q := (77, 43, 12, 17)) (by decide) h43).1
  have h79 : ty (zua x m D.dI H 79) = zUf 79 + 1 := (zt_row hT hTT (q := (79, 43, 12, 19)) (by decide) h43).1
  have h84 : ty (zua x m D.dI H 84) = zUf 84 + 1 := (zt_row hT hTT (q := (84, 43, 12, 25)) (by decide) h43).1
  have h86 : ty (zua x m D.dI H 86) = zUf 86 + 1 := (zt_row hT hTT (q := (86, 43, 12, 27)) (by decide) h43).1
  have h88 : ty (zua x m D.dI H 88) = zUf 88 + 1 := (zt_row hT hTT (q := (88, 43, 12, 29)) (by decide) h43).1
  have h105 : ty (zua x m D.dI H 105) = zUf 105 + 1 := (zt_row hT hTT (q := (105, 43, 12, 46)) (by decide) h43).1
  have h106 : ty (zua x m D.dI H 106) = zUf 106 + 1 := (zt_row hT hTT (q := (106, 43, 12, 47)) (by decide) h43).1
  have h111 : ty (zua x m D.dI H 111) = zUf 111 + 1 := (zt_row hT hTT (q := (111, 43, 12, 55)) (by decide) h43).1
  have h112 : ty (zua x m D.dI H 112) = zUf 112 + 1 := (zt_row hT hTT (q := (112, 43, 12, 56)) (by decide) h43).1
  have h114 : ty (zua x m D.dI H 114) = zUf 114 + 1 := (zt_row hT hTT (q := (114, 43, 12, 62)) (by decide) h43).1
  have h115 : ty (zua x m D.dI H 115) = zUf 115 + 1 := (zt_row hT hTT (q := (115, 43, 12, 63)) (by decide) h43).1
  have h116 : ty (zua x m D.dI H 116) = zUf 116 + 1 := (zt_row hT hTT (q := (116, 43, 12, 64)) (by decide) h43).1
  have h118 : ty (zua x m D.dI H 118) = zUf 118 + 1 := (zt_row hT hTT (q := (118, 43, 12, 66)) (by decide) h43).1
  have h119 : ty (zua x m D.dI H 119) = zUf 119 + 1 := (zt_row hT hTT (q := (119, 43, 12, 68)) (by decide) h43).1
  intro i hi
  simp only [zIds, List.mem_cons, List.not_mem_nil, or_false] at hi
  rcases hi with rfl | rfl | rfl | rfl | rfl | rfl | rfl | rfl | rfl | rfl | rfl | rfl | rfl | rfl | rfl | rfl | rfl | rfl | rfl | rfl | rfl | rfl | rfl | rfl | rfl | rfl | rfl | rfl
  · exact h42
  · exact h43
  · exact h39
  · exact h1000
  · exact h1001
  · exact h64
  · exact h1030
  · exact h1031
  · exact h1010
  · exact h1011
  · exact h1020
  · exact h1021
  · exact h1040
  · exact h1041
  · exact h77
  · exact h79
  · exact h84
  · exact h86
  · exact h88
  · exact h105
  · exact h106
  · exact h111
  · exact h112
  · exact h114
  · exact h115
  · exact h116
  · exact h118
  · exact h119
/-- what a place may hold in both worlds -/
def zq_ok (t1 c k : Nat) (q1 q : zT) : Bool := decide (q1.1 = q.1) && q1.2.all (fun i => if q1.1 = 2 then q.2.any (fun j => decide (j.1.toNat = zmu i.1.toNat)) && ((zid (zmu i.1.toNat)).isEmpty || zUp.any (fun w => decide (zUf w.2.1 = t1 ∧ w.2.2 = (c, k) ∧ zUf w.1 = i.1.toNat) && (zid (zmu i.1.toNat)).contains w.1)) else q.2.any (fun j => decide (j.1 ≤ i.1 ∧ i.2 ≤ j.2)))
def zt_ok (t1 : Nat) : Bool := decide ((zTT1 t1).1 = (zTT (zmu t1)).1) && (decide ((zTT1 t1).1 = 9) || (decide ((zTT1 t1).2.1 = (zTT (zmu t1)).2.1) && (if (zTT1 t1).1 = 0 then decide ((zTT1 t1).2.2.length = (zTT (zmu t1)).2.2.length) && (List.range (zTT1 t1).2.2.length).all (fun k => match (zTT1 t1).2.2[k]?, (zTT (zmu t1)).2.2[k]? with | some q1, some q => zq_ok t1 (zTT1 t1).2.1 k q1 q | _, _ => false)
  else (match (zTT1 t1).2.2, (zTT (zmu t1)).2.2 with | [q1], [q] => zq_ok t1 100 0 q1 q | l1, l => (List.range (zTT1 t1).2.1).all (fun j => zq_ok t1 99 j (zk_el l1 j) (zk_el l j))))))
theorem zt_oks : (List.range 152).all zt_ok = true := by decide +kernel
def zty2 (ua : Nat → Nat) (ty : Nat → Nat) (a : Nat) : Nat := match ty a with
  | 0 => 0
  | t + 1 => if zid (zmu t) = [] ∨ a ∈ (zid (zmu t)).map ua then zmu t + 1 else 0
theorem zty2_of {ua ty : Nat → Nat} {a t : Nat} (h : zty2 ua ty a = t + 1) : ∃ t1, ty a = t1 + 1 ∧ zmu t1 = t ∧ (zid t = [] ∨ a ∈ (zid t).map ua) := by
  unfold zty2 at h
  split at h
  · cases h
  · rename_i t1 e
    split at h
    · rename_i h1
      cases h
      exact ⟨t1, e, rfl, h1⟩
    · cases h
theorem zty2_to {ua ty : Nat → Nat} {a t : Nat} (h : ty a = t + 1) (h1 : zid (zmu t) = [] ∨ a ∈ (zid (zmu t)).map ua) : zty2 ua ty a = zmu t + 1 := by
  unfold zty2
  rw [h]
  exact if_pos h1
/-- the methods' world, out of the constructors' -/
def zDw (D : zD) (ua : Nat → Nat) (OP2 : Nat → (Nat → Nat) → Heap → List Int → Prop) : zD := (D.1, D.2.1, D.2.2.1, zTT, D.2.2.2.2.1, (fun t a => if t < 15 then D.RO t a else zid t = [] ∨ a ∈ (zid t).map ua), D.2.2.2.2.2.2.1, OP2)
section
variable {D : zD} {ty : Nat → Nat} {H : Heap} {x m : Nat} {OP2 : Nat → (Nat → Nat) → Heap → List Int → Prop}
theorem zsw_v (hT : zk_T D ty H) (hTT : D.TT = zTT1) (hx : ty x = 43) (hm : ty m = 44) {a t1 c k i : Nat} {q1 q : zT} {y : Value} {cell : Cell} (ha : ty a = t1 + 1) (hal : zid (zmu t1) = [] ∨ a ∈ (zid (zmu t1)).map (zua x m D.dI H)) (hc : H[a]? = some cell) (hs : cell.slots[i]? = some y) (hi : c ≠ 100 → i = zix D.dI (0, 0, c, k)) (hc1 : c ≠ 100 ∨ ∀ w ∈ zUp, w.2.2 ≠ (c, k)) (h : zq_ok t1 c k q1 q = true) (hv : zk_vt ty y q1) : zk_vt (zty2 (zua x m D.dI H) ty) y q := by
  obtain ⟨z, e1, j, hj, hv⟩ := hv
  simp only [zq_ok, Bool.and_eq_true, decide_eq_true_eq, List.all_eq_true] at h
  obtain ⟨e2, h⟩ := h
  have h := h j hj
  by_cases e3 : q1.1 = 2
  · rw [if_pos e3] at hv h
    simp only [Bool.and_eq_true, Bool.or_eq_true, List.any_eq_true, decide_eq_true_eq, List.isEmpty_iff, List.contains_iff_mem] at h
    obtain ⟨⟨j', hj', e4⟩, h⟩ := h
    refine ⟨z, by rw [← e2]; exact e1, j', hj', ?_⟩
    rw [if_pos (by rw [← e2]; exact e3), e4]
    refine ⟨hv.1, zty2_to hv.2 ?_⟩
    rcases h with h | ⟨w, hw, ⟨w1, w2, w3⟩, w4⟩
    · exact Or.inl h
    · right
      have hc' : c ≠ 100 := hc1.resolve_right (fun z => z w hw w2)
      have hty := zt_ids hT hTT hx hm
      obtain ⟨o1, o2⟩ := zUp_own w hw
      rw [w1] at o2
      obtain ⟨n, hn, en⟩ := List.mem_map.mp (hal.resolve_left o2)
      have t2 := hty n (zid_Ids _ _ hn)
      rw [en, ha] at t2
      have en2 : n = w.2.1 := zUf_inj n (zid_Ids _ _ hn) _ o1 (by rw [w1]; omega)
      have r1 := zua_row (x := x) (m := m) (dI := D.dI) (H := H) w hw
      rw [← en2, en] at r1
      have ei : zix D.dI w = i := by
        rw [hi hc']
        unfold zix
        rw [w2]
      rw [ei] at r1
      have e5 : y = .ref z.toNat := by rw [e1, e3]; rfl
      rw [e5] at hs
      have r2 : zi H a i = (z.toNat : Int) := zi_at hc hs
      have r3 : zc H a i = z.toNat := by
        unfold zc
        rw [r2]
        rfl
      rw [← r3, ← r1]
      exact List.mem_map.mpr ⟨w.1, w4, rfl⟩
  · rw [if_neg e3] at hv h
    simp only [List.any_eq_true, decide_eq_true_eq] at h
    obtain ⟨j', hj', h1, h2⟩ := h
    refine ⟨z, by rw [← e2]; exact e1, j', hj', ?_⟩
    rw [if_neg (by rw [← e2]; exact e3)]
    omega
theorem zsw_T (hT : zk_T D ty H) (hTT : D.TT = zTT1) (hx : ty x = 43) (hm : ty m = 44) : zk_T (zDw D (zua x m D.dI H) OP2) (zty2 (zua x m D.dI H) ty) H := by
  refine ⟨hT.1, fun a t ha => ?_⟩
  obtain ⟨t1, h1, rfl, h2⟩ := zty2_of ha
  have g := hT.2 a t1 h1
  rw [hTT] at g
  show if (zTT (zmu t1)).1 = 9 then _ else _
  by_cases hlt : t1 < 152
  rotate_left
  · have e1 : zTT1 t1 = (9, 0, []) := by
      show zTT1l.getD t1 _ = _
      have hl : zTT1l.length = 152 := by decide +kernel
      rw [List.getD_eq_getElem?_getD, List.getElem?_eq_none (by omega)]
      rfl
    have e2 : zmu t1 = t1 := by unfold zmu; rw [if_neg (by omega), if_neg (by omega), if_neg (by omega), if_neg (by omega), if_neg (by omega), if_neg (by omega), if_neg (by omega), if_neg (by omega), if_neg (by omega), if_neg (by omega), if_neg (by omega), if_neg (by omega), if_neg (by omega), if_neg (by omega), if_neg (by omega), if_neg (by omega), if_neg (by omega), if_neg (by omega), if_neg (by omega), if_neg (by omega), if_neg (by omega), if_neg (by omega), if_neg (by omega), if_neg (by omega), if_neg (by omega), if_neg (by omega)]
    have e3 : zTT t1 = (9, 0, []) := by
      show zTTl.getD t1 _ = _
      have hl : zTTl.length = 126 := by decide +kernel
      rw [List.getD_eq_getElem?_getD, List.getElem?_eq_none (by omega)]
      rfl
    rw [e2] at h2 ⊢
    rw [e3, if_pos rfl]
    rw [e1, if_pos rfl] at g
    refine ⟨?_, g.2⟩
    show if t1 < 15 then _ else _
    rw [if_neg (by omega)]
    exact h2
  have hok := List.all_eq_true.mp zt_oks t1 (List.mem_range.mpr hlt)
  simp only [zt_ok, Bool.and_eq_true, Bool.or_eq_true, decide_eq_true_eq] at hok
  obtain ⟨k1, hok⟩ := hok
  by_cases h9 : (zTT1 t1).1 = 9
  · rw [if_pos h9] at g
    rw [if_pos (by rw [← k1]; exact h9)]
    refine ⟨?_, g.2⟩
    show if zmu t1 < 15 then _ else _
    split
    · rename_i hl
      have e2 : zmu t1 = t1 := by
        have : ∀ t1, t1 < 152 → zmu t1 < 15 → zmu t1 = t1 := by decide +kernel
        exact this t1 hlt hl
      rw [e2]
      exact g.1
    · exact h2
  rw [if_neg h9] at g
  rw [if_neg (by rw [← k1]; exact h9)]
  have hok := hok.resolve_left h9
  obtain ⟨k2, hok⟩ := hok
  refine ⟨⟨g.1.1, ?_⟩, ?_⟩
  · show if zmu t1 < 15 then _ else _
    split
    · rename_i hl
      exfalso
      have : ∀ t1, t1 < 152 → zmu t1 < 15 → (zTT1 t1).1 = 9 := by decide +kernel
      exact h9 (this t1 hlt hl)
    · exact h2
  have gc := g.2
  show zk_C _ _ H a (zTT (zmu t1))
  unfold zk_C at gc ⊢
  by_cases h0 : (zTT1 t1).1 = 0
  · rw [if_pos h0] at gc hok
    rw [if_pos (by rw [← k1]; exact h0)]
    obtain ⟨cell, c1, c2, c3, c4⟩ := gc
    refine ⟨cell, c1, by rw [← k2]; exact c2, c3, fun k q hq => ?_⟩
    simp only [Bool.and_eq_true, decide_eq_true_eq, List.all_eq_true, List.mem_range] at hok
    obtain ⟨k3, hok⟩ := hok
    have hkl : k < (zTT1 t1).2.2.length := by
      rw [k3]
      exact (List.getElem?_eq_some_iff.mp hq).1
    have hk := hok k hkl
    rw [hq, List.getElem?_eq_getElem hkl] at hk
    dsimp only at hk
    obtain ⟨y, y1, y2⟩ := c4 k _ (List.getElem?_eq_getElem hkl)
    refine ⟨y, by rw [← k2]; exact y1, ?_⟩
    have hne : (zTT1 t1).2.1 ≠ 99 ∧ (zTT1 t1).2.1 ≠ 100 := by
      have : ∀ t1, t1 < 152 → (zTT1 t1).1 = 0 → (zTT1 t1).2.1 ≠ 99 ∧ (zTT1 t1).2.1 ≠ 100 := by decide +kernel
      exact this t1 hlt h0
    exact zsw_v hT hTT hx hm h1 h2 c1 y1 (fun _ => by unfold zix; rw [if_neg hne.1]) (Or.inl hne.2) hk y2
  · rw [if_neg h0] at gc hok
    rw [if_neg (by rw [← k1]; exact h0)]
    obtain ⟨cell, c1, c2, c3, c4, c5⟩ := gc
    refine ⟨cell, c1, by rw [← k1]; exact c2, c3, by rw [← k2]; exact c4, fun j hj => ?_⟩
    rw [← k2] at hj
    obtain ⟨y, y1, y2⟩ := c5 j hj
    refine ⟨y, y1, ?_⟩
    split at hok
    · rename_i q1 q e1 e2
      rw [e1] at y2
      rw [e2]
      exact zsw_v hT hTT hx hm (c := 100) (k := 0) h1 h2 c1 y1 (fun z => absurd rfl z) (Or.inr (by decide)) hok y2
    · have hk := List.all_eq_true.mp hok j (List.mem_range.mpr hj)
      exact zsw_v hT hTT hx hm (c := 99) (k := j) h1 h2 c1 y1 (fun _ => by unfold zix; rw [if_pos rfl]) (Or.inl (by decide)) hk y2
end
