/-! THE CHECKER, 23b: lemmas between steps: a split of a local, a local that is one number, the method's own lemmas. -/
def zk_spA (P : Option zP) (A : zA) : List zA := match P with | none => [] | some P => [zk_sp P A.2.1 A]
/-- every value through a substitution -/
def zk_mapA (u : zU) (A : zA) : zA :=
  (A.1.map (fun q => (q.1, zk_va u q.2)), A.2.1.map (zk_va u), A.2.2.1, (A.2.2.2.1.1, A.2.2.2.1.2.1.map (fun q => (q.1, q.2.1, q.2.2.1, zk_va u q.2.2.2)), A.2.2.2.1.2.2.1.map (fun q => (q.1, q.2.1, zk_va u q.2.2.1, zk_va u q.2.2.2)), A.2.2.2.1.2.2.2.1, A.2.2.2.1.2.2.2.2.1, A.2.2.2.1.2.2.2.2.2.map (fun q => (q.1, q.2.map (zk_va u)))), A.2.2.2.2)
/-- the bound of a symbol by what it is known to be below -/
def zk_tg (x : Nat) : List (Nat × Nat × Int) → zP → Option zP
  | [], P => some P
  | q :: l, P => if q.1 = x then (match zk_le P (0, x, 0) (0, q.2.1, 0) q.2.2 with | none => none | some P' => zk_tg x l P') else zk_tg x l P
theorem zk_tg_ok {r : Nat → Int} {x : Nat} : ∀ {l : List (Nat × Nat × Int)} {P : zP}, zk_P r P → (∀ q ∈ l, r q.1 ≤ r q.2.1 + q.2.2) → ∃ P', zk_tg x l P = some P' ∧ zk_P r P'
  | [], P, h, _ => ⟨P, rfl, h⟩
  | q :: l, P, h, hl => by
    unfold zk_tg
    split
    · rename_i e
      obtain ⟨P1, e1, h1⟩ := zk_le_ok h (v := (0, x, 0)) (w := (0, q.2.1, 0)) (c := q.2.2) (by
        have := hl q List.mem_cons_self
        rw [e] at this
        unfold zk_n
        dsimp only
        omega)
      rw [e1]
      exact zk_tg_ok h1 (fun q' hq => hl q' (List.mem_cons_of_mem _ hq))
    · exact zk_tg_ok h (fun q' hq => hl q' (List.mem_cons_of_mem _ hq))
/-- two differences in one -/
def zk_tr (x : Nat) (l : List (Nat × Nat × Int)) : List (Nat × Nat × Int) := (l.filter (fun q => Nat.beq q.1 x)).flatMap (fun q => (l.filter (fun z => Nat.beq z.1 q.2.1)).map (fun z => (x, z.2.1, q.2.2 + z.2.2)))
theorem zk_tr_ok {r : Nat → Int} {x : Nat} {l : List (Nat × Nat × Int)} (h : ∀ q ∈ l, r q.1 ≤ r q.2.1 + q.2.2) : ∀ q ∈ zk_tr x l, r q.1 ≤ r q.2.1 + q.2.2 := by
  intro q hq
  obtain ⟨a, ha, hq⟩ := List.mem_flatMap.mp hq
  obtain ⟨z, hz, rfl⟩ := List.mem_map.mp hq
  obtain ⟨a1, a2⟩ := List.mem_filter.mp ha
  obtain ⟨z1, z2⟩ := List.mem_filter.mp hz
  have e1 := Nat.eq_of_beq_eq_true a2
  have e2 := Nat.eq_of_beq_eq_true z2
  have h1 := h a a1
  have h2 := h z z1
  rw [e1] at h1
  rw [e2] at h2
  dsimp only
  omega
/-- a place of the stack gets a new symbol -/
def zk_wrp (j : Nat) (q : zV × zP) (A : zA) : zA := (A.1, A.2.1.set j q.1, q.2, A.2.2.2.1, (A.2.2.2.2.1 + 1, A.2.2.2.2.2))
theorem zk_set_same {α : Type} : ∀ {l : List α} {j : Nat} {x : α}, l[j]? = some x → l.set j x = l
  | [], _, _, _ => rfl
  | y :: l, 0, x, h => by simp at h; rw [h]; rfl
  | y :: l, j + 1, x, h => by
    simp at h
    show y :: l.set j x = y :: l
    rw [zk_set_same h]
theorem zk_I_wrp {D : zD} {E : zE} {A : zA} {r : Nat → Int} {ty : Nat → Nat} {H : Heap} {locs : List Loc} {ls : Array Slot} {st : List Value} (hok : zk_ok E.2.1.1 A = true) (I : zk_I D E A r ty H locs ls st) {j : Nat} {v : zV} (hv : A.2.1[j]? = some v) {q : zV × zP} (hG : zk_G r A.2.2.2.2.1 q (zk_c r v)) : ∃ r', zk_I D E (zk_wrp j q A) r' ty H locs ls st := by
  obtain ⟨z, g1, g2, -⟩ := hG
  refine ⟨zk_u r A.2.2.2.2.1 z, ?_⟩
  have hn := zk_I_new (r' := zk_u r A.2.2.2.2.1 z) hok (fun y hy => zk_u_ne hy) I
  obtain ⟨a1, a2, a3, a4, a5, a6, a7, a8, a9, a10⟩ := hn
  refine ⟨a1, ?_, g1, a4, a5, a6, a7, a8, a9, a10⟩
  show st = (A.2.1.set j q.1).map _
  rw [List.map_set, g2, a2]
  symm
  apply zk_set_same
  rw [List.getElem?_map, hv, Option.map_some, zk_c_new (zk_okS hok (List.mem_of_getElem? hv))]
def zk_lmo (n0 : Nat) (UL : Nat → Nat → zA → List zA) (o : Nat × Nat × Int) (A : zA) : List zA := match o.1 with
  | 0 => (match zk_find A.1 o.2.1 with
    | none => [A]
    | some v => zk_spA (zk_le A.2.2.1 v (0, 0, o.2.2) 0) A ++ zk_spA (zk_le A.2.2.1 (0, 0, o.2.2) v (-1)) A)
  | 1 => (match zk_find A.1 o.2.1 with
    | none => [A]
    | some v => (match zk_iv A.2.2.1.1 v.2.1 with
      | some i => if i.1 = i.2 ∧ v.1 < 2 ∧ v.2.1 ≠ 0 then [zk_mapA [(v.2.1, 0, i.1)] A] else [A]
      | none => [A]))
  | 3 => (match A.2.1[o.2.1]? with
    | some v => if v.1 = 0 ∧ zk_inb A.2.2.1 v (-2147483648) 2147483647 = false ∧ zk_ok n0 A = true then [zk_wrp o.2.1 (zk_nw 0 A.2.2.2.2.1 (-2147483648) 2147483647 [] A.2.2.1) A]
      else if v.1 = 1 ∧ zk_inb A.2.2.1 v (-9223372036854775808) 9223372036854775807 = false ∧ zk_ok n0 A = true then [zk_wrp o.2.1 (zk_nw 1 A.2.2.2.2.1 (-9223372036854775808) 9223372036854775807 [] A.2.2.1) A] else [A]
    | none => [A])
  | 4 => (match A.2.1[o.2.1]? with
    | some v => zk_spA (zk_tg v.2.1 A.2.2.1.2.1 A.2.2.1) A
    | none => [A])
  | 5 => (match A.2.1[o.2.1]? with
    | some v => zk_spA (zk_le A.2.2.1 v (0, 0, o.2.2) 0) A ++ zk_spA (zk_le A.2.2.1 (0, 0, o.2.2) v (-1)) A
    | none => [A])
  | 6 => [zk_sp (A.2.2.1.1, zk_tr (if o.2.2 = 0 then o.2.1 else (match zk_find A.1 o.2.1 with | some v => v.2.1 | none => 0)) A.2.2.1.2.1 ++ A.2.2.1.2.1, A.2.2.1.2.2) A.2.1 A]
  | 7 => (match zk_find A.1 o.2.1 with
    | some v => zk_spA (zk_tg v.2.1 A.2.2.1.2.1 A.2.2.1) A
    | none => [A])
  | _ => UL n0 o.2.1 A
def zk_lms (n0 : Nat) (UL : Nat → Nat → zA → List zA) : List (Nat × Nat × Int) → zA → List zA
  | [], A => [A]
  | o :: l, A => (zk_lmo n0 UL o A).flatMap (zk_lms n0 UL l)
def zk_ULok (D : zD) (E : zE) (UL : Nat → Nat → zA → List zA) : Prop := ∀ (j : Nat) (A : zA) (r : Nat → Int) (ty : Nat → Nat) (H : Heap) (locs : List Loc) (ls : Array Slot) (st : List Value), zk_I D E A r ty H locs ls st → ∃ A' ∈ UL E.2.1.1 j A, ∃ r', zk_I D E A' r' ty H locs ls st ∧ A'.2.2.2.2.2.2 = A.2.2.2.2.2.2
theorem zk_I_map {D : zD} {E : zE} {A : zA} {r : Nat → Int} {ty : Nat → Nat} {H : Heap} {locs : List Loc} {ls : Array Slot} {st : List Value} {u : zU} (hu : zk_cp r u = r) (I : zk_I D E A r ty H locs ls st) : zk_I D E (zk_mapA u A) r ty H locs ls st := by
  obtain ⟨a1, a2, a3, ⟨b1, b2, b3, b4, b5, b6, b7⟩, a5, a6, a7, a8, a9, a10, a11⟩ := I
  have en : ∀ v : zV, zk_n r (zk_va u v) = zk_n r v := fun v => by rw [zk_n_va, hu]
  have ec : ∀ v : zV, zk_c r (zk_va u v) = zk_c r v := fun v => by rw [zk_c_va, hu]
  refine ⟨?_, ?_, a3, ⟨b1, fun q hq => ?_, fun q hq => ?_, b4, b5, b6, fun q hq => ?_⟩, a5, a6, a7, a8, a9, a10, a11⟩
  · have e : ((zk_mapA u A).1.map fun q => (q.1, zk_c r q.2)) = A.1.map fun q => (q.1, zk_c r q.2) := by
      show (A.1.map (fun q => (q.1, zk_va u q.2))).map _ = _
      rw [List.map_map]
      apply List.map_congr_left
      intro q _
      simp only [Function.comp, ec]
    rw [e]; exact a1
  · show st = (A.2.1.map (zk_va u)).map (zk_c r)
    rw [List.map_map, a2]
    apply List.map_congr_left
    intro q _
    simp only [Function.comp, ec]
  · obtain ⟨q', hq', rfl⟩ := List.mem_map.mp hq
    have := b2 q' hq'
    unfold zk_fm at this ⊢
    dsimp only
    rw [ec]
    exact this
  · obtain ⟨q', hq', rfl⟩ := List.mem_map.mp hq
    have := b3 q' hq'
    unfold zk_em at this ⊢
    dsimp only
    rw [ec, en]
    exact this
  · obtain ⟨q', hq', rfl⟩ := List.mem_map.mp hq
    have := b7 q' hq'
    dsimp only
    rw [List.map_map]
    have e : (zk_n r ∘ zk_va u) = zk_n r := funext en
    rw [e]
    exact this
theorem zk_lmo_ok {D : zD} {E : zE} {A : zA} {n0 : Nat} (hn0 : n0 = E.2.1.1) {UL : Nat → Nat → zA → List zA} (hU : zk_ULok D E UL) {o : Nat × Nat × Int} {r : Nat → Int} {ty : Nat → Nat} {H : Heap} {locs : List Loc} {ls : Array Slot} {st : List Value} (I : zk_I D E A r ty H locs ls st) : ∃ A' ∈ zk_lmo n0 UL o A, ∃ r', zk_I D E A' r' ty H locs ls st ∧ A'.2.2.2.2.2.2 = A.2.2.2.2.2.2 := by
  have hst := I.2.1
  have hP := I.2.2.1
  have h0 := I.2.2.2.2.2.2.1
  unfold zk_lmo
  split
  · split
    · exact ⟨A, List.mem_singleton.mpr rfl, r, I, rfl⟩
    · rename_i v hv
      by_cases hc : zk_n r v ≤ o.2.2
      · obtain ⟨P1, e1, g1⟩ := zk_le_ok hP (v := v) (w := (0, 0, o.2.2)) (c := 0) (by unfold zk_n at hc ⊢; dsimp only; rw [h0]; omega)
        refine ⟨zk_sp P1 A.2.1 A, List.mem_append_left _ (by rw [e1]; exact List.mem_singleton.mpr rfl), r, ?_, rfl⟩
        have := zk_I_sp (S := A.2.1) I g1
        rw [← hst] at this
        exact this
      · obtain ⟨P1, e1, g1⟩ := zk_le_ok hP (v := (0, 0, o.2.2)) (w := v) (c := -1) (by unfold zk_n at hc ⊢; dsimp only; rw [h0]; omega)
        refine ⟨zk_sp P1 A.2.1 A, List.mem_append_right _ (by rw [e1]; exact List.mem_singleton.mpr rfl), r, ?_, rfl⟩
        have := zk_I_sp (S := A.2.1) I g1
        rw [← hst] at this
        exact this
  · split
    · exact ⟨A, List.mem_singleton.mpr rfl, r, I, rfl⟩
    · rename_i v hv
      split
      · rename_i i hi
        split
        · rename_i hc
          refine ⟨_, List.mem_singleton.mpr rfl, r, zk_I_map ?_ I, rfl⟩
          funext x
          have hb := hP.1 _ (zk_iv_mem hi)
          dsimp only at hb
          unfold zk_cp zk_sx
          split
          · rename_i e
            dsimp only at e ⊢
            rw [h0, ← e]
            omega
          · unfold zk_sx
            dsimp only
            omega
        · exact ⟨A, List.mem_singleton.mpr rfl, r, I, rfl⟩
      · exact ⟨A, List.mem_singleton.mpr rfl, r, I, rfl⟩
  · split
    · rename_i v hv
      split
      · rename_i hc
        have hok : zk_ok E.2.1.1 A = true := by rw [← hn0]; exact hc.2.2
        obtain ⟨r', I'⟩ := zk_I_wrp hok I hv (zk_G_top (t := 0) (lo := -2147483648) (hi := 2147483647) (zk_okP hok) hP (by rw [zk_e0 hc.1]; exact zk_tI _))
        exact ⟨_, List.mem_singleton.mpr rfl, r', I', rfl⟩
      · split
        · rename_i hc
          have hok : zk_ok E.2.1.1 A = true := by rw [← hn0]; exact hc.2.2
          obtain ⟨r', I'⟩ := zk_I_wrp hok I hv (zk_G_top (t := 1) (lo := -9223372036854775808) (hi := 9223372036854775807) (zk_okP hok) hP (by rw [zk_e1 hc.1]; exact zk_tL _))
          exact ⟨_, List.mem_singleton.mpr rfl, r', I', rfl⟩
        · exact ⟨A, List.mem_singleton.mpr rfl, r, I, rfl⟩
    · exact ⟨A, List.mem_singleton.mpr rfl, r, I, rfl⟩
  · split
    · rename_i v hv
      obtain ⟨P1, e1, g1⟩ := zk_tg_ok (x := v.2.1) hP hP.2.1
      refine ⟨zk_sp P1 A.2.1 A, by rw [e1]; exact List.mem_singleton.mpr rfl, r, ?_, rfl⟩
      have := zk_I_sp (S := A.2.1) I g1
      rw [← hst] at this
      exact this
    · exact ⟨A, List.mem_singleton.mpr rfl, r, I, rfl⟩
  · split
    · rename_i v hv
      by_cases hc : zk_n r v ≤ o.2.2
      · obtain ⟨P1, e1, g1⟩ := zk_le_ok hP (v := v) (w := (0, 0, o.2.2)) (c := 0) (by unfold zk_n at hc ⊢; dsimp only; rw [h0]; omega)
        refine ⟨zk_sp P1 A.2.1 A, List.mem_append_left _ (by rw [e1]; exact List.mem_singleton.mpr rfl), r, ?_, rfl⟩
        have := zk_I_sp (S := A.2.1) I g1
        rw [← hst] at this
        exact this
      · obtain ⟨P1, e1, g1⟩ := zk_le_ok hP (v := (0, 0, o.2.2)) (w := v) (c := -1) (by unfold zk_n at hc ⊢; dsimp only; rw [h0]; omega)
        refine ⟨zk_sp P1 A.2.1 A, List.mem_append_right _ (by rw [e1]; exact List.mem_singleton.mpr rfl), r, ?_, rfl⟩
        have := zk_I_sp (S := A.2.1) I g1
        rw [← hst] at this
        exact this
    · exact ⟨A, List.mem_singleton.mpr rfl, r, I, rfl⟩
  · refine ⟨_, List.mem_singleton.mpr rfl, r, ?_, rfl⟩
    have := zk_I_sp (S := A.2.1) (P := (A.2.2.1.1, zk_tr (if o.2.2 = 0 then o.2.1 else (match zk_find A.1 o.2.1 with | some v => v.2.1 | none => 0)) A.2.2.1.2.1 ++ A.2.2.1.2.1, A.2.2.1.2.2)) I ⟨hP.1, fun q hq => by
      rcases List.mem_append.mp hq with hq | hq
      · exact zk_tr_ok hP.2.1 q hq
      · exact hP.2.1 q hq, hP.2.2⟩
    rw [← hst] at this
    exact this
  · split
    · rename_i v hv
      obtain ⟨P1, e1, g1⟩ := zk_tg_ok (x := v.2.1) hP hP.2.1
      refine ⟨zk_sp P1 A.2.1 A, by rw [e1]; exact List.mem_singleton.mpr rfl, r, ?_, rfl⟩
      have := zk_I_sp (S := A.2.1) I g1
      rw [← hst] at this
      exact this
    · exact ⟨A, List.mem_singleton.mpr rfl, r, I, rfl⟩
  · rw [hn0]; exact hU _ A r ty H locs ls st I
theorem zk_lms_ok {D : zD} {E : zE} {n0 : Nat} (hn0 : n0 = E.2.1.1) {UL : Nat → Nat → zA → List zA} (hU : zk_ULok D E UL) {ty : Nat → Nat} {H : Heap} {locs : List Loc} {ls : Array Slot} {st : List Value} : ∀ {os : List (Nat × Nat × Int)} {A : zA} {r : Nat → Int}, zk_I D E A r ty H locs ls st → ∃ A' ∈ zk_lms n0 UL os A, ∃ r', zk_I D E A' r' ty H locs ls st ∧ A'.2.2.2.2.2.2 = A.2.2.2.2.2.2
  | [], A, r, I => ⟨A, List.mem_singleton.mpr rfl, r, I, rfl⟩
  | o :: l, A, r, I => by
    obtain ⟨A1, m1, r1, I1, e1⟩ := zk_lmo_ok hn0 hU (o := o) I
    obtain ⟨A2, m2, r2, I2, e2⟩ := zk_lms_ok hn0 hU (os := l) I1
    exact ⟨A2, List.mem_flatMap.mpr ⟨A1, m1, m2⟩, r2, I2, by rw [e2, e1]⟩
section
variable {p : Program} {l : Launch} {e : Env} {R : Room} {s : State} {m : MethodId} {args : Array Value} {below : List Frame} {meth : Method} {c : Code} {Q : State → Prop} {D : zD} {E : zE}
theorem zk_lms_W {n0 : Nat} (hn0 : n0 = E.2.1.1) {UL : Nat → Nat → zA → List zA} (hU : zk_ULok D E UL) {n : Nat} {K : zA → Bool} (hK : ∀ A, K A = true → zk_W p l e R s m args below meth c Q D E n A) {os : List (Nat × Nat × Int)} {A : zA} (h : (zk_lms n0 UL os A).all K = true) : zk_W p l e R s m args below meth c Q D E n A := by
  intro r ty H locs ls st I
  obtain ⟨A', m', r', I', e'⟩ := zk_lms_ok hn0 hU (os := os) I
  have := hK A' (List.all_eq_true.mp h A' m') r' ty H locs ls st I'
  rw [e'] at this
  exact this
end
