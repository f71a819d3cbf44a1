/-! THE CHECKER, 15: cells that are being made. -/
section
variable {p : Program} {l : Launch} {e : Env} {R : Room} {s : State} {m : MethodId} {args : Array Value} {below : List Frame} {meth : Method} {c : Code} {Q : State → Prop} {cc : ByteArray} {pc : Nat} {D : zD} {E : zE} {A : zA} {K : Nat → zA → Bool} {cl : List vw_C} {ft : Nat → Nat → FieldType} {PF : Nat → List (Nat × Nat)} {PB : Nat → List Nat}
theorem zk_I_raw {r : Nat → Int} {ty : Nat → Nat} {H H' : Heap} {locs : List Loc} {ls : Array Slot} {st : List Value} {S : List zV} (I : zk_I D E A r ty H locs ls st) (hO : zk_stable D PF PB) {x : Nat} {q : Nat × List zV} {vs : List zV} (hq : zk_rwl A.2.2.2.1.2.2.2.1 x = some q) (e2 : H'.size = H.size) (e3 : ∀ b, b ≠ (r x).toNat → H'[b]? = H[b]?) (hn : zk_rw D r ty H' (x, q.1, vs)) {j : Nat} : zk_I D E (zk_wR x vs S A) r ty H' (locs ++ [⟨(r x).toNat, j⟩]) ls (S.map (zk_c r)) := by
  obtain ⟨a1, a2, a3, a4, a5, a6, a7, a8, a9, a10, a11⟩ := I
  obtain ⟨g1, g2, g3, g4, g5, g6, g7⟩ := a4
  obtain ⟨r1, r2, r3, -⟩ := g4 _ (zk_rwl_mem hq)
  dsimp only at r1 r2 r3
  have hne : ∀ b : Nat, ty b ≠ 0 → b ≠ (r x).toNat := fun b hb e => hb (by rw [e]; exact r3)
  have hT : zk_T D ty H' := by
    refine ⟨by rw [e2]; exact a5.1, fun b t hb => ?_⟩
    have gg := a5.2 b t hb
    unfold zk_C at gg ⊢
    rw [e3 b (hne b (by omega))]
    exact gg
  have hst : ∀ j, zk_st D (PF j) (PB j) ty H ty H' := fun j => by
    refine ⟨fun _ _ q => q, fun b t hb _ _ => e3 b (hne b (by omega)), fun b t hb _ k _ _ c0 c1 q0 q1 => ?_⟩
    rw [e3 b (hne b (by omega))] at q1
    cases q0.symm.trans q1
    rfl
  have hraw := zk_rws_ok (r := r) (x := x) (vs := vs) (Pr := zk_rw D r ty H) (Pr' := zk_rw D r ty H') g5 g4 (fun q' hq' hn' => by
    obtain ⟨d1, d2, d3, cw, d4, d5⟩ := hq'
    refine ⟨d1, d2, d3, cw, ?_, d5⟩
    rw [e3 _ (by omega)]
    exact d4) (fun o ho => by
    cases hq.symm.trans ho
    exact hn) (by rw [hq]; simp)
  refine ⟨a1, rfl, a3, ⟨g1, fun g hg => ?_, fun g hg => ?_, hraw.1, hraw.2, g6, fun g hg => hO _ _ _ _ _ _ (hst _) a5 hT (g7 g hg)⟩, hT, ?_, a7, a8, a9, fun g hg => ?_, ?_⟩
  · obtain ⟨⟨t, t1, t2⟩, cw, w1, w2⟩ := g2 g hg
    exact ⟨⟨t, t1, t2⟩, cw, by rw [e3 _ (hne _ (by omega))]; exact w1, w2⟩
  · obtain ⟨u1, u2, u3, cw, w1, w2⟩ := g3 g hg
    exact ⟨u1, u2, u3, cw, by rw [e3 _ (hne _ (by omega))]; exact w1, w2⟩
  · obtain ⟨f1, f2, f3, f4, f5, f6⟩ := a6
    refine ⟨by rw [e2]; exact f1, f2, f3, fun b hb hz hu => ?_, fun b t hb h0 hB => ?_, fun b t hb h0 k hk1 hk2 c0 c1 q0 q1 => ?_⟩
    · by_cases e9 : b = (r x).toNat
      · exfalso
        rcases a11 _ (zk_rwl_mem hq) with z | z
        · exact hu (by rw [e9]; exact z)
        · dsimp only at z
          omega
      · rw [e3 b e9]; exact f4 b hb hz hu
    · rw [e3 b (hne b (by have := f2 b t hb; omega))]; exact f5 b t hb h0 hB
    · rw [e3 b (hne b (by have := f2 b t hb; omega))] at q1
      exact f6 b t hb h0 k hk1 hk2 c0 c1 q0 q1
  · rcases List.mem_append.mp hg with hg | hg
    · exact a10 g hg
    · rw [List.mem_singleton.mp hg]; exact r2
  · exact (zk_rws_ok (r := r) (x := x) (vs := vs) (Pr := fun q => E.2.2.2.1.1 (r q.1).toNat ∨ E.2.2.2.1.2.2.size ≤ (r q.1).toNat) (Pr' := fun q => E.2.2.2.1.1 (r q.1).toNat ∨ E.2.2.2.1.2.2.size ≤ (r q.1).toNat) g5 a11 (fun _ z _ => z) (fun o ho => by have z := a11 (x, o) (zk_rwl_mem ho); exact z) (by rw [hq]; simp)).1
theorem zk_rast_ok (hx : p.tables.exec = Jvm.exec) (hb : c.code = cc) (hV : zk_env D cl ft s args) (hO : zk_stable D PF PB) (hd : decode cc pc = .ok (.aastore, 1)) (hK : ∀ (n : Nat) (A : zA), K n A = true → zk_W p l e R s m args below meth c Q D E n A) (h : zk_rast D.TT K pc A = true) : zk_W p l e R s m args below meth c Q D E pc A := by
  unfold zk_rast at h
  split at h
  rotate_left
  · cases h
  rename_i w i v S hS
  simp only [Bool.and_eq_true, decide_eq_true_eq] at h
  obtain ⟨⟨hv1, hv2, hi, hi0, hi1, hi2⟩, h⟩ := h
  split at h
  rotate_left
  · cases h
  rename_i q hq
  simp only [Bool.and_eq_true, decide_eq_true_eq] at h
  obtain ⟨⟨hk, hlt⟩, hsv, h⟩ := h
  intro r ty H locs ls st I
  have h2 := I.2.1
  subst h2
  rw [hS, List.map_cons, List.map_cons, List.map_cons, zk_ref ⟨hv1, hv2⟩, zk_e0 hi]
  obtain ⟨g1, g2, g3, g4, g5⟩ := I.2.2.2.1
  obtain ⟨r1, r2, r3, cell, c1, c2, c3⟩ := g4 _ (zk_rwl_mem hq)
  rw [if_neg (by dsimp only; omega)] at c3
  obtain ⟨c3, c4, c5⟩ := c3
  dsimp only at r1 r2 r3 c1 c3 c4 c5
  have e1 : zk_n r i = i.2.2 := by unfold zk_n; rw [hi0, I.2.2.2.2.2.2.1]; omega
  have hx2 := zk_ix (a := i.2.2) (n := q.2.length) hi1 (by omega)
  have e2 : (Int32.ofInt i.2.2).toNatClampNeg = i.2.2.toNat := by rw [Int32.toNatClampNeg_ofInt_of_le (by omega) (by omega)]
  have hm : q.1 - 1000 ∈ [1, 2, 3, 4, 10, 12, 13, 14, 19] := by
    rcases hk with h | h | h | h | h <;> rw [h] <;> decide
  have h10 : 10 ≤ q.1 - 1000 := by omega
  rw [e1]
  refine zk_store hx hb hV hm (Or.inr (Or.inr (Or.inr (Or.inr ⟨h10, rfl⟩)))) hd I.2.2.1 g1 I.2.2.2.2.1 hsv c1 c3 c2 ?_ (fun H' e4 e5 e6 => ?_)
  · rw [e2, c4]
    rintro (h | h)
    · have := Int32.lt_iff_toInt_lt.mp h
      rw [zk_i32 (by omega) (by omega)] at this
      have e0 : (0 : Int32).toInt = 0 := by decide
      omega
    · omega
  · rw [e2] at e4 ⊢
    refine hK _ _ h r ty H' _ ls _ (zk_I_raw I hO hq e5 e6 ⟨r1, r2, r3, _, e4, c2, ?_⟩)
    rw [if_neg (by dsimp only; omega)]
    refine ⟨c3, by unfold Cell.setSlot; rw [Array.size_setIfInBounds, c4]; exact (List.length_set ..).symm, fun k u hk2 => ?_⟩
    dsimp only at hk2
    by_cases ek : k = i.2.2.toNat
    · subst ek
      rw [List.getElem?_set_self hlt] at hk2
      cases hk2
      unfold Cell.setSlot
      rw [Array.getElem?_setIfInBounds, if_pos rfl, if_pos (by rw [c4]; exact hlt)]
    · rw [List.getElem?_set_ne (fun e => ek e.symm)] at hk2
      rw [slot_ne _ _ (fun z => ek z.symm)]
      exact c5 k u hk2
end
