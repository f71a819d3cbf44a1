/-! THE CHECKER, 23b: lemmas between steps: a split of a local, a local that is one number, the method's own lemmas. -/
def zk_spA (P : Option zP) (A : zA) : List zA := match P with | none => [] | some P => [zk_sp P A.2.1 A]
/-- every value through a substitution -/
def zk_mapA (u : zU) (A : zA) : zA :=
  (A.1.map (fun q => (q.1, zk_va u q.2)), A.2.1.map (zk_va u), A.2.2.1, (A.2.2.2.1.1, A.2.2.2.1.2.1.map (fun q => (q.1, q.2.1, q.2.2.1, zk_va u q.2.2.2)), A.2.2.2.1.2.2.1.map (fun q => (q.1, q.2.1, zk_va u q.2.2.1, zk_va u q.2.2.2)), A.2.2.2.1.2.2.2.1, A.2.2.2.1.2.2.2.2.1, A.2.2.2.1.2.2.2.2.2.map (fun q => (q.1, q.2.map (zk_va u)))), A.2.2.2.2)
def zk_lmo (UL : Nat → zA → List zA) (o : Nat × Nat × Int) (A : zA) : List zA := match o.1 with
  | 0 => (match zk_find A.1 o.2.1 with
    | none => [A]
    | some v => zk_spA (zk_le A.2.2.1 v (0, 0, o.2.2) 0) A ++ zk_spA (zk_le A.2.2.1 (0, 0, o.2.2) v (-1)) A)
  | 1 => (match zk_find A.1 o.2.1 with
    | none => [A]
    | some v => (match zk_iv A.2.2.1.1 v.2.1 with
      | some i => if i.1 = i.2 ∧ v.1 < 2 ∧ v.2.1 ≠ 0 then [zk_mapA [(v.2.1, 0, i.1)] A] else [A]
      | none => [A]))
  | _ => UL o.2.1 A
def zk_lms (UL : Nat → zA → List zA) : List (Nat × Nat × Int) → zA → List zA
  | [], A => [A]
  | o :: l, A => (zk_lmo UL o A).flatMap (zk_lms UL l)
def zk_ULok (D : zD) (E : zE) (UL : Nat → zA → List zA) : Prop := ∀ (j : Nat) (A : zA) (r : Nat → Int) (ty : Nat → Nat) (H : Heap) (locs : List Loc) (ls : Array Slot) (st : List Value), zk_I D E A r ty H locs ls st → ∃ A' ∈ UL j A, ∃ r', zk_I D E A' r' ty H locs ls st ∧ A'.2.2.2.2.2.2 = A.2.2.2.2.2.2
theorem zk_I_map {D : zD} {E : zE} {A : zA} {r : Nat → Int} {ty : Nat → Nat} {H : Heap} {locs : List Loc} {ls : Array Slot} {st : List Value} {u : zU} (hu : zk_cp r u = r) (I : zk_I D E A r ty H locs ls st) : zk_I D E (zk_mapA u A) r ty H locs ls st := by
  obtain ⟨a1, a2, a3, ⟨b1, b2, b3, b4, b5, b6, b7⟩, a5, a6, a7, a8, a9, a10, a11⟩ := I
  have en : ∀ v : zV, zk_n r (zk_va u v) = zk_n r v := fun v => by rw [zk_n_va, hu]
  have ec : ∀ v : zV, zk_c r (zk_va u v) = zk_c r v := fun v => by rw [zk_c_va, hu]
  refine ⟨?_, ?_, a3, ⟨b1, fun q hq => ?_, fun q hq => ?_, b4, b5, b6, fun q hq => ?_⟩, a5, a6, a7, a8, a9, a10, a11⟩
  · have e : ((zk_mapA u A).1.map fun q => (q.1, zk_c r q.2)) = A.1.map fun q => (q.1, zk_c r q.2) := by
      show (A.1.map (fun q => (q.1, zk_va u q.2))).map _ = _
      rw [List.map_map]
      apply List.map_congr_left
      intro q _
      simp only [Function.comp, ec]
    rw [e]; exact a1
  · show st = (A.2.1.map (zk_va u)).map (zk_c r)
    rw [List.map_map, a2]
    apply List.map_congr_left
    intro q _
    simp only [Function.comp, ec]
  · obtain ⟨q', hq', rfl⟩ := List.mem_map.mp hq
    have := b2 q' hq'
    unfold zk_fm at this ⊢
    dsimp only
    rw [ec]
    exact this
  · obtain ⟨q', hq', rfl⟩ := List.mem_map.mp hq
    have := b3 q' hq'
    unfold zk_em at this ⊢
    dsimp only
    rw [ec, en]
    exact this
  · obtain ⟨q', hq', rfl⟩ := List.mem_map.mp hq
    have := b7 q' hq'
    dsimp only
    rw [List.map_map]
    have e : (zk_n r ∘ zk_va u) = zk_n r := funext en
    rw [e]
    exact this
theorem zk_lmo_ok {D : zD} {E : zE} {A : zA} {UL : Nat → zA → List zA} (hU : zk_ULok D E UL) {o : Nat × Nat × Int} {r : Nat → Int} {ty : Nat → Nat} {H : Heap} {locs : List Loc} {ls : Array Slot} {st : List Value} (I : zk_I D E A r ty H locs ls st) : ∃ A' ∈ zk_lmo UL o A, ∃ r', zk_I D E A' r' ty H locs ls st ∧ A'.2.2.2.2.2.2 = A.2.2.2.2.2.2 := by
  have hst := I.2.1
  have hP := I.2.2.1
  have h0 := I.2.2.2.2.2.2.1
  unfold zk_lmo
  split
  · split
    · exact ⟨A, List.mem_singleton.mpr rfl, r, I, rfl⟩
    · rename_i v hv
      by_cases hc : zk_n r v ≤ o.2.2
      · obtain ⟨P1, e1, g1⟩ := zk_le_ok hP (v := v) (w := (0, 0, o.2.2)) (c := 0) (by unfold zk_n at hc ⊢; dsimp only; rw [h0]; omega)
        refine ⟨zk_sp P1 A.2.1 A, List.mem_append_left _ (by rw [e1]; exact List.mem_singleton.mpr rfl), r, ?_, rfl⟩
        have := zk_I_sp (S := A.2.1) I g1
        rw [← hst] at this
        exact this
      · obtain ⟨P1, e1, g1⟩ := zk_le_ok hP (v := (0, 0, o.2.2)) (w := v) (c := -1) (by unfold zk_n at hc ⊢; dsimp only; rw [h0]; omega)
        refine ⟨zk_sp P1 A.2.1 A, List.mem_append_right _ (by rw [e1]; exact List.mem_singleton.mpr rfl), r, ?_, rfl⟩
        have := zk_I_sp (S := A.2.1) I g1
        rw [← hst] at this
        exact this
  · split
    · exact ⟨A, List.mem_singleton.mpr rfl, r, I, rfl⟩
    · rename_i v hv
      split
      · rename_i i hi
        split
        · rename_i hc
          refine ⟨_, List.mem_singleton.mpr rfl, r, zk_I_map ?_ I, rfl⟩
          funext x
          have hb := hP.1 _ (zk_iv_mem hi)
          dsimp only at hb
          unfold zk_cp zk_sx
          split
          · rename_i e
            dsimp only at e ⊢
            rw [h0, ← e]
            omega
          · unfold zk_sx
            dsimp only
            omega
        · exact ⟨A, List.mem_singleton.mpr rfl, r, I, rfl⟩
      · exact ⟨A, List.mem_singleton.mpr rfl, r, I, rfl⟩
  · exact hU _ A r ty H locs ls st I
theorem zk_lms_ok {D : zD} {E : zE} {UL : Nat → zA → List zA} (hU : zk_ULok D E UL) {ty : Nat → Nat} {H : Heap} {locs : List Loc} {ls : Array Slot} {st : List Value} : ∀ {os : List (Nat × Nat × Int)} {A : zA} {r : Nat → Int}, zk_I D E A r ty H locs ls st → ∃ A' ∈ zk_lms UL os A, ∃ r', zk_I D E A' r' ty H locs ls st ∧ A'.2.2.2.2.2.2 = A.2.2.2.2.2.2
  | [], A, r, I => ⟨A, List.mem_singleton.mpr rfl, r, I, rfl⟩
  | o :: l, A, r, I => by
    obtain ⟨A1, m1, r1, I1, e1⟩ := zk_lmo_ok hU (o := o) I
    obtain ⟨A2, m2, r2, I2, e2⟩ := zk_lms_ok hU (os := l) I1
    exact ⟨A2, List.mem_flatMap.mpr ⟨A1, m1, m2⟩, r2, I2, by rw [e2, e1]⟩
section
variable {p : Program} {l : Launch} {e : Env} {R : Room} {s : State} {m : MethodId} {args : Array Value} {below : List Frame} {meth : Method} {c : Code} {Q : State → Prop} {D : zD} {E : zE}
theorem zk_lms_W {UL : Nat → zA → List zA} (hU : zk_ULok D E UL) {n : Nat} {K : zA → Bool} (hK : ∀ A, K A = true → zk_W p l e R s m args below meth c Q D E n A) {os : List (Nat × Nat × Int)} {A : zA} (h : (zk_lms UL os A).all K = true) : zk_W p l e R s m args below meth c Q D E n A := by
  intro r ty H locs ls st I
  obtain ⟨A', m', r', I', e'⟩ := zk_lms_ok hU (os := os) I
  have := hK A' (List.all_eq_true.mp h A' m') r' ty H locs ls st I'
  rw [e'] at this
  exact this
end
