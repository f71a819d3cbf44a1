/-! THE CHECKER, 11: places of arrays. -/
def zk_els (S : zS) (i : zV) : List zT := match S.2.2 with
  | [q] => [q]
  | l => if i.2.1 = 0 then [l.getD i.2.2.toNat zk_dv] else l
theorem zk_els_ok {ty : Nat → Nat} {S : zS} {i : zV} {r : Nat → Int} (h0 : r 0 = 0) {x : Value} (hx : zk_vt ty x (zk_el S.2.2 (zk_n r i).toNat)) : ∃ q ∈ zk_els S i, zk_vt ty x q := by
  unfold zk_els
  unfold zk_el at hx
  split
  · rename_i q hq
    rw [hq] at hx
    exact ⟨q, List.mem_singleton.mpr rfl, hx⟩
  · rename_i l hl
    split at hx
    · rename_i q hq
      exact absurd hq (hl q)
    · split
      · rename_i e
        have e2 : zk_n r i = i.2.2 := by unfold zk_n; rw [e, h0]; omega
        rw [e2] at hx
        exact ⟨_, List.mem_singleton.mpr rfl, hx⟩
      · rw [List.getD_eq_getElem?_getD] at hx
        cases hg : S.2.2[(zk_n r i).toNat]? with
        | none =>
          rw [hg] at hx
          obtain ⟨z, -, j, hj, -⟩ := hx
          cases hj
        | some q =>
          rw [hg] at hx
          exact ⟨q, List.mem_of_getElem? hg, hx⟩
/-- a load out of an array: ks: the kinds that the instruction takes -/
def zk_ald (TT : Nat → zS) (ks : List Nat) (n0 : Nat) (K : Nat → zA → Bool) (pc : Nat) (A : zA) : Bool :=
  match A.2.1 with
  | i :: v :: S => decide (v.1 = 2 ∧ v.2.2 = 0 ∧ i.1 = 0) && (match zk_rtl A.2.2.2.1.1 v.2.1 with
      | some t => ks.contains (TT t).1 && (zk_inb A.2.2.1 i 0 (((TT t).2.1 : Int) - 1) && (decide ((TT t).2.1 < 2147483648) && (match zk_eml A.2.2.2.1.2.2.1 v.2.1 t i with
        | some u => K (pc + 1) (zk_ss (u :: S) A)
        | none => zk_ok n0 A && (zk_els (TT t) i).all (fun q => q.2.all (fun j => K (pc + 1) (zk_rd q.1 j [] [(v.2.1, t, i, (q.1, A.2.2.2.2.1, 0))] S A))))))
      | none => false)
  | _ => false
def zk_alen (TT : Nat → zS) (K : Nat → zA → Bool) (pc : Nat) (A : zA) : Bool :=
  match A.2.1 with
  | v :: S => decide (v.1 = 2 ∧ v.2.2 = 0) && (match zk_rtl A.2.2.2.1.1 v.2.1 with
      | some t => decide ((TT t).1 ≠ 0 ∧ (TT t).1 ≠ 9 ∧ (TT t).2.1 < 2147483648) && K (pc + 1) (zk_ss ((0, 0, ((TT t).2.1 : Int)) :: S) A)
      | none => (match zk_find A.2.2.2.1.2.2.2.2.1 v.2.1 with
        | some u => decide (u.1 = 0) && K (pc + 1) (zk_ss (u :: S) A)
        | none => false))
  | _ => false
/-- a load out of the script -/
def zk_sld (n0 : Nat) (K : Nat → zA → Bool) (pc : Nat) (A : zA) : Bool :=
  match A.2.1 with
  | i :: v :: S => decide (v.1 = 2 ∧ v.2.2 = 0 ∧ i.1 = 0) && (match zk_find A.2.2.2.1.2.2.2.2.1 v.2.1 with
      | some u => zk_inb A.2.2.1 i 0 2147483647 && (zk_leb A.2.2.1 i u (-1) && (zk_ok n0 A && K (pc + 1) (zk_rd 0 (-2147483648, 2147483647) [] [] S A)))
      | none => false)
  | _ => false
/-- a load out of an array of references that is being made -/
def zk_rld (K : Nat → zA → Bool) (pc : Nat) (A : zA) : Bool :=
  match A.2.1 with
  | i :: v :: S => decide (v.1 = 2 ∧ v.2.2 = 0 ∧ i.1 = 0 ∧ i.2.1 = 0 ∧ 0 ≤ i.2.2 ∧ i.2.2 < 2147483648) && (match zk_rwl A.2.2.2.1.2.2.2.1 v.2.1 with
      | some q => decide (q.1 = 1010 ∨ q.1 = 1012 ∨ q.1 = 1013 ∨ q.1 = 1014 ∨ q.1 = 1019) && (match q.2[i.2.2.toNat]? with | some u => K (pc + 1) (zk_ss (u :: S) A) | none => false)
      | none => false)
  | _ => false
section
variable {p : Program} {l : Launch} {e : Env} {R : Room} {s : State} {m : MethodId} {args : Array Value} {below : List Frame} {meth : Method} {c : Code} {Q : State → Prop} {cc : ByteArray} {pc : Nat} {D : zD} {E : zE} {A : zA} {K : Nat → zA → Bool} {cl : List vw_C} {ft : Nat → Nat → FieldType}
theorem zk_ix {a : Int} {n : Nat} (h1 : 0 ≤ a) (h2 : a ≤ (n : Int) - 1) (hn : n < 2147483648) : ¬ (Int32.ofInt a < 0 ∨ n ≤ (Int32.ofInt a).toNatClampNeg) ∧ (Int32.ofInt a).toNatClampNeg = a.toNat := by
  have e1 := zk_i32 (a := a) (by omega) (by omega)
  have e2 : (Int32.ofInt a).toNatClampNeg = a.toNat := by
    rw [Int32.toNatClampNeg_ofInt_of_le (by omega) (by omega)]
  refine ⟨?_, e2⟩
  rw [e2]
  rintro (h | h)
  · have := Int32.lt_iff_toInt_lt.mp h
    rw [e1] at this
    have e0 : (0 : Int32).toInt = 0 := by decide
    omega
  · omega
theorem zk_isA {k : Nat} (hV : zk_env D cl ft s args) (hk : k ∈ [1, 2, 3, 4, 10, 12, 13, 14, 19]) {cell : Cell} (hc : cell.cls = D.cA k) (hvm : cell.vm = .none) : s.isArrayOf cell (zk_et cl k) := by
  obtain ⟨kA, comp, h1, h2, -⟩ := hV.2.1 k hk
  exact ⟨fun j h => (by rw [hvm] at h; cases h), kA, (by rw [hc]; exact h1), comp, h2⟩
/-- an array of a type, as the machine has it -/
theorem zk_arr {ty : Nat → Nat} {H : Heap} {a t : Nat} (hT : zk_T D ty H) (h1 : ty a = t + 1) (h0 : (D.TT t).1 ≠ 0) (h9 : (D.TT t).1 ≠ 9) : D.ba ≤ a ∧ ∃ cell : Cell, H[a]? = some cell ∧ cell.cls = D.cA (D.TT t).1 ∧ cell.vm = .none ∧ cell.slots.size = (D.TT t).2.1 ∧ ∀ j : Nat, j < (D.TT t).2.1 → ∃ x, cell.slots[j]? = some x ∧ zk_vt ty x (zk_el (D.TT t).2.2 j) := by
  have h := hT.2 a t h1
  rw [if_neg h9] at h
  refine ⟨h.1.1, ?_⟩
  have h2 := h.2
  unfold zk_C at h2
  rw [if_neg h0] at h2
  exact h2
theorem zk_nu {cell : Cell} (h : cell.vm = .none) : cell.vm ≠ .unknown := by rw [h]; exact fun q => by cases q
theorem zk_ald_ok {n0 : Nat} {ks : List Nat} (hks : ∀ k ∈ ks, k ≠ 0 ∧ k ≠ 9) (hV : zk_env D cl ft s args) (hn0 : n0 = E.2.1.1) (hK : ∀ (n : Nat) (A : zA), K n A = true → zk_W p l e R s m args below meth c Q D E n A)
    (row : ∀ {H : Heap} {locs : List Loc} {cells slots a : Nat} {ls : Array Slot} {rest : List Value} {x : Value} {cell : Cell} {j : Int32} {k : Nat}, k ∈ ks → H[a]? = some cell → s.isArrayOf cell (zk_et cl k) → cell.vm ≠ .unknown → ¬ (j < 0 ∨ cell.slots.size ≤ j.toNatClampNeg) → cell.slots[j.toNatClampNeg]? = some x → W p l e R s m args below meth c H locs cells slots Q (F0 m (pc + 1) ls (x :: rest)) → W p l e R s m args below meth c H locs cells slots Q (F0 m pc ls (.int j :: .ref a :: rest)))
    (h : zk_ald D.TT ks n0 K pc A = true) : zk_W p l e R s m args below meth c Q D E pc A := by
  unfold zk_ald at h
  split at h
  rotate_left
  · cases h
  rename_i i v S hS
  simp only [Bool.and_eq_true, decide_eq_true_eq] at h
  obtain ⟨⟨hv1, hv2, hi⟩, h⟩ := h
  split at h
  rotate_left
  · cases h
  rename_i t ht
  simp only [Bool.and_eq_true, decide_eq_true_eq, List.contains_iff_mem] at h
  obtain ⟨hk, hin, hlen, h⟩ := h
  intro r ty H locs ls st I
  have h2 := I.2.1
  subst h2
  rw [hS, List.map_cons, List.map_cons, zk_ref ⟨hv1, hv2⟩, zk_e0 hi]
  obtain ⟨g1, g2, g3, g4, g5⟩ := I.2.2.2.1
  obtain ⟨p1, t1⟩ := g1 _ (zk_rtl_mem ht)
  obtain ⟨k0, k9⟩ := hks _ hk
  obtain ⟨-, cell, d1, d2, d3, d4, d5⟩ := zk_arr I.2.2.2.2.1 t1 k0 k9
  have hb2 := zk_inb_ok I.2.2.1 hin
  have hix := zk_ix hb2.1 hb2.2 hlen
  have hlt : (zk_n r i).toNat < (D.TT t).2.1 := by omega
  split at h
  · rename_i u hu
    obtain ⟨j, hj, j1, j2⟩ := zk_eml_mem hu
    obtain ⟨-, -, -, cell', c1, c2⟩ := g3 _ hj
    cases d1.symm.trans c1
    have ej : zk_n r j = zk_n r i := by unfold zk_n; rw [j1, j2]
    dsimp only at c2
    rw [ej] at c2
    refine row hk d1 (zk_isA hV (hV.2.2.1 t k0 k9) d2 d3) (zk_nu d3) (by rw [d4]; exact hix.1) (by rw [hix.2]; exact c2) ?_
    exact hK _ _ h r ty H locs ls _ (zk_I_ss I)
  · simp only [Bool.and_eq_true, List.all_eq_true] at h
    obtain ⟨hok, h⟩ := h
    obtain ⟨x, x1, x2⟩ := d5 _ hlt
    obtain ⟨q, hq, z, rfl, j, hj, hz⟩ := zk_els_ok I.2.2.2.2.2.2.1 x2
    refine row hk d1 (zk_isA hV (hV.2.2.1 t k0 k9) d2 d3) (zk_nu d3) (by rw [d4]; exact hix.1) (by rw [hix.2]; exact x1) ?_
    have hok' : zk_ok E.2.1.1 A = true := hn0 ▸ hok
    have hvn : v.2.1 < A.2.2.2.2.1 := zk_okS hok' (by rw [hS]; simp)
    have hin' : i.2.1 < A.2.2.2.2.1 := zk_okS hok' (by rw [hS]; simp)
    refine hK _ _ (h q hq j hj) _ ty H locs ls _ (zk_I_rd hok' I (fun u hu => by rw [hS]; simp [hu]) hz (fun q hq => by cases hq) ?_)
    intro q' hq'
    rw [List.mem_singleton.mp hq']
    unfold zk_em
    dsimp only
    rw [zk_u_ne hvn, zk_c_n, zk_n_new hin']
    exact ⟨t1, k0, hb2.1, cell, d1, x1⟩
theorem zk_alen_ok (hx : p.tables.exec = Jvm.exec) (hb : c.code = cc) (hV : zk_env D cl ft s args) (hSC : ∀ (a : Nat) (n : Int), D.SC a n → ∃ cell : Cell, s.heap[a]? = some cell ∧ s.isArrayOf cell .int ∧ cell.vm ≠ .unknown ∧ (cell.slots.size : Int) = n ∧ n ≤ 2147483647 ∧ (∀ j : Nat, j < cell.slots.size → ∃ y : Int32, cell.slots[j]? = some (.int y)) ∧ ∀ (H : Heap) (ty : Nat → Nat), zk_T D ty H → zk_F D E.2.2.1.1 E.2.2.1.2 E.2.2.2.1.1 E.2.2.2.1.2.1 E.2.2.2.1.2.2 ty H → H[a]? = some cell) (hK : ∀ (n : Nat) (A : zA), K n A = true → zk_W p l e R s m args below meth c Q D E n A) (hd : decode cc pc = .ok (.arraylength, 1)) (h : zk_alen D.TT K pc A = true) : zk_W p l e R s m args below meth c Q D E pc A := by
  unfold zk_alen at h
  split at h
  rotate_left
  · cases h
  rename_i v S hS
  simp only [Bool.and_eq_true, decide_eq_true_eq] at h
  obtain ⟨hv, h⟩ := h
  intro r ty H locs ls st I
  have h2 := I.2.1
  subst h2
  rw [hS, List.map_cons, zk_ref hv]
  obtain ⟨g1, g2, g3, g4, g5, g6, g7⟩ := I.2.2.2.1
  split at h
  · rename_i t ht
    simp only [Bool.and_eq_true, decide_eq_true_eq] at h
    obtain ⟨⟨k0, k9, hlen⟩, h⟩ := h
    obtain ⟨p1, t1⟩ := g1 _ (zk_rtl_mem ht)
    obtain ⟨-, cell, d1, d2, d3, d4, d5⟩ := zk_arr I.2.2.2.2.1 t1 k0 k9
    refine W.alen (n := Int32.ofInt ((D.TT t).2.1 : Int)) hx hb d1 (zk_isA hV (hV.2.2.1 t k0 k9) d2 d3) ?_ rfl rfl hd ?_
    · rw [d4, Int32.ofInt_eq_ofNat]
    · have hk := hK _ _ h r ty H locs ls _ (zk_I_ss I)
      rw [List.map_cons, zk_e0 rfl] at hk
      have e1 : zk_n r (0, 0, ((D.TT t).2.1 : Int)) = ((D.TT t).2.1 : Int) := by unfold zk_n; dsimp only; rw [I.2.2.2.2.2.2.1]; omega
      rw [e1] at hk
      exact hk
  · split at h
    rotate_left
    · cases h
    rename_i u hu
    simp only [Bool.and_eq_true, decide_eq_true_eq] at h
    obtain ⟨q1, q2⟩ := g6 _ (zk_find_mem hu)
    obtain ⟨cell, s1, s2, s3, s4, s5, s6, s7⟩ := hSC _ _ q2
    refine W.alen (n := Int32.ofInt (zk_n r u)) hx hb (s7 H ty I.2.2.2.2.1 I.2.2.2.2.2.1) s2 ?_ rfl rfl hd ?_
    · rw [show zk_n r u = _ from s4.symm, Int32.ofInt_eq_ofNat]
    · have hk := hK _ _ h.2 r ty H locs ls _ (zk_I_ss I)
      rw [List.map_cons, zk_e0 h.1] at hk
      exact hk
theorem zk_sld_ok {n0 : Nat} (hx : p.tables.exec = Jvm.exec) (hb : c.code = cc) (hn0 : n0 = E.2.1.1) (hSC : ∀ (a : Nat) (n : Int), D.SC a n → ∃ cell : Cell, s.heap[a]? = some cell ∧ s.isArrayOf cell .int ∧ cell.vm ≠ .unknown ∧ (cell.slots.size : Int) = n ∧ n ≤ 2147483647 ∧ (∀ j : Nat, j < cell.slots.size → ∃ y : Int32, cell.slots[j]? = some (.int y)) ∧ ∀ (H : Heap) (ty : Nat → Nat), zk_T D ty H → zk_F D E.2.2.1.1 E.2.2.1.2 E.2.2.2.1.1 E.2.2.2.1.2.1 E.2.2.2.1.2.2 ty H → H[a]? = some cell) (hK : ∀ (n : Nat) (A : zA), K n A = true → zk_W p l e R s m args below meth c Q D E n A) (hd : decode cc pc = .ok (.iaload, 1)) (h : zk_sld n0 K pc A = true) : zk_W p l e R s m args below meth c Q D E pc A := by
  unfold zk_sld at h
  split at h
  rotate_left
  · cases h
  rename_i i v S hS
  simp only [Bool.and_eq_true, decide_eq_true_eq] at h
  obtain ⟨⟨hv1, hv2, hi⟩, h⟩ := h
  split at h
  rotate_left
  · cases h
  rename_i u hu
  simp only [Bool.and_eq_true] at h
  obtain ⟨hin, hle, hok, h⟩ := h
  intro r ty H locs ls st I
  have h2 := I.2.1
  subst h2
  rw [hS, List.map_cons, List.map_cons, zk_ref ⟨hv1, hv2⟩, zk_e0 hi]
  obtain ⟨g1, g2, g3, g4, g5, g6, g7⟩ := I.2.2.2.1
  obtain ⟨q1, q2⟩ := g6 _ (zk_find_mem hu)
  obtain ⟨cell, s1, s2, s3, s4, s5, s6, s7⟩ := hSC _ _ q2
  have b1 := zk_inb_ok I.2.2.1 hin
  have b2 := zk_leb_ok I.2.2.1 hle
  have hix := zk_ix (a := zk_n r i) (n := cell.slots.size) b1.1 (by dsimp only at s4; omega) (by omega)
  obtain ⟨y, hy⟩ := s6 (zk_n r i).toNat (by dsimp only at s4; omega)
  refine W.iald hx hb (s7 H ty I.2.2.2.2.1 I.2.2.2.2.2.1) s2 s3 hix.1 (v := .int y) (by rw [hix.2]; exact hy) rfl rfl hd ?_
  have hk := hK _ _ h _ ty H locs ls _ (zk_I_rd (z := y.toInt) (hn0 ▸ hok) I (fun u hu => by rw [hS]; simp [hu]) (by rw [if_neg (by decide)]; exact zk_b32 y) (fun q hq => by cases hq) (fun q hq => by cases hq))
  have e1 : zk_k 0 y.toInt = .int y := by simp [zk_k]
  rw [e1] at hk
  exact hk
theorem zk_rld_ok (hx : p.tables.exec = Jvm.exec) (hb : c.code = cc) (hV : zk_env D cl ft s args) (hK : ∀ (n : Nat) (A : zA), K n A = true → zk_W p l e R s m args below meth c Q D E n A) (hd : decode cc pc = .ok (.aaload, 1)) (h : zk_rld K pc A = true) : zk_W p l e R s m args below meth c Q D E pc A := by
  unfold zk_rld at h
  split at h
  rotate_left
  · cases h
  rename_i i v S hS
  simp only [Bool.and_eq_true, decide_eq_true_eq] at h
  obtain ⟨⟨hv1, hv2, hi, hi0, hi1, hi2⟩, h⟩ := h
  split at h
  rotate_left
  · cases h
  rename_i q hq
  simp only [Bool.and_eq_true, decide_eq_true_eq] at h
  obtain ⟨hk, h⟩ := h
  split at h
  rotate_left
  · cases h
  rename_i u hu
  intro r ty H locs ls st I
  have h2 := I.2.1
  subst h2
  rw [hS, List.map_cons, List.map_cons, zk_ref ⟨hv1, hv2⟩, zk_e0 hi]
  obtain ⟨g1, g2, g3, g4, g5⟩ := I.2.2.2.1
  obtain ⟨-, -, -, cell, c1, c2, c3⟩ := g4 _ (zk_rwl_mem hq)
  rw [if_neg (by dsimp only; omega)] at c3
  obtain ⟨c3, c4, c5⟩ := c3
  have e1 : zk_n r i = i.2.2 := by unfold zk_n; rw [hi0, I.2.2.2.2.2.2.1]; omega
  have hlt : i.2.2.toNat < q.2.length := (List.getElem?_eq_some_iff.mp hu).1
  dsimp only at c4
  have hbig : i.2.2 < 2147483648 := hi2
  have e2 : (Int32.ofInt i.2.2).toNatClampNeg = i.2.2.toNat := by rw [Int32.toNatClampNeg_ofInt_of_le (by omega) (by omega)]
  have hm : q.1 - 1000 ∈ [1, 2, 3, 4, 10, 12, 13, 14, 19] := by
    rcases hk with h | h | h | h | h <;> rw [h] <;> decide
  rw [e1]
  refine W.aald hx hb c1 (zk_isA hV hm c3 c2) ?_ (zk_nu c2) ?_ (by rw [e2]; exact c5 _ _ hu) rfl rfl hd ?_
  · rcases hk with h | h | h | h | h <;> rw [h] <;> rfl
  · rw [e2, c4]
    rintro (h | h)
    · have := Int32.lt_iff_toInt_lt.mp h
      rw [zk_i32 (by omega) (by omega)] at this
      have e0 : (0 : Int32).toInt = 0 := by decide
      omega
    · omega
  · exact hK _ _ h r ty H locs ls _ (zk_I_ss I)
end
