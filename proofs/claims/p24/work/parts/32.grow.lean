/-! THE CHECKER, 16: a cell more; a type more. -/
def zk_tu (ty : Nat → Nat) (a t : Nat) : Nat → Nat := fun b => if b = a then t + 1 else ty b
section
variable {D : zD} {E : zE} {A : zA} {r : Nat → Int} {ty : Nat → Nat} {H H' : Heap} {locs : List Loc} {ls : Array Slot} {st : List Value} {a t : Nat} {PF : Nat → List (Nat × Nat)} {PB : Nat → List Nat}
theorem zk_tu_keep (ha : ty a = 0) {b u : Nat} (h : ty b = u + 1) : zk_tu ty a t b = u + 1 := by
  unfold zk_tu
  rw [if_neg (fun e => by rw [e, ha] at h; omega)]
  exact h
theorem zk_vt_mono {ty' : Nat → Nat} (hm : ∀ b u : Nat, ty b = u + 1 → ty' b = u + 1) {x : Value} {q : zT} (h : zk_vt ty x q) : zk_vt ty' x q := by
  obtain ⟨z, h1, i, hi, h2⟩ := h
  refine ⟨z, h1, i, hi, ?_⟩
  split at h2
  · rename_i e
    rw [if_pos e]
    exact ⟨h2.1, hm _ _ h2.2⟩
  · rename_i e
    rw [if_neg e]
    exact h2
theorem zk_C_mono {ty' : Nat → Nat} (hm : ∀ b u : Nat, ty b = u + 1 → ty' b = u + 1) (he : H'[a]? = H[a]?) {S : zS} (h : zk_C D ty H a S) : zk_C D ty' H' a S := by
  unfold zk_C at h ⊢
  rw [he]
  split at h
  · rename_i e
    rw [if_pos e]
    obtain ⟨cell, h1, h2, h3, h4⟩ := h
    refine ⟨cell, h1, h2, h3, fun k q hk => ?_⟩
    obtain ⟨x, x1, x2⟩ := h4 k q hk
    exact ⟨x, x1, zk_vt_mono hm x2⟩
  · rename_i e
    rw [if_neg e]
    obtain ⟨cell, h1, h2, h3, h4, h5⟩ := h
    refine ⟨cell, h1, h2, h3, h4, fun j hj => ?_⟩
    obtain ⟨x, x1, x2⟩ := h5 j hj
    exact ⟨x, x1, zk_vt_mono hm x2⟩
theorem zk_C_lt {S : zS} (h : zk_C D ty H a S) : a < H.size := by
  unfold zk_C at h
  split at h
  · obtain ⟨cell, h1, -⟩ := h
    exact (Array.getElem?_eq_some_iff.mp h1).1
  · obtain ⟨cell, h1, -⟩ := h
    exact (Array.getElem?_eq_some_iff.mp h1).1
theorem zk_T_lt (h : zk_T D ty H) (ha : ty a ≠ 0) : a < H.size := by
  obtain ⟨t, ht⟩ : ∃ t, ty a = t + 1 := ⟨ty a - 1, by omega⟩
  have g := h.2 a t ht
  split at g
  · have := h.1
    omega
  · exact zk_C_lt g.2
/-- a type is given to a cell that had none -/
theorem zk_T_grow (h : zk_T D ty H) (ha : ty a = 0) (hba : D.ba ≤ a ∧ D.RO t a) (h9 : (D.TT t).1 ≠ 9) (hC : zk_C D (zk_tu ty a t) H a (D.TT t)) : zk_T D (zk_tu ty a t) H := by
  refine ⟨h.1, fun b u hb => ?_⟩
  by_cases e : b = a
  · subst e
    have : u = t := by unfold zk_tu at hb; rw [if_pos rfl] at hb; omega
    subst this
    rw [if_neg h9]
    exact ⟨hba, hC⟩
  · unfold zk_tu at hb
    rw [if_neg e] at hb
    have g := h.2 b u hb
    split at g
    · rename_i e9
      rw [if_pos e9]; exact g
    · rename_i e9
      rw [if_neg e9]
      exact ⟨g.1, zk_C_mono (fun _ _ => zk_tu_keep ha) rfl g.2⟩
theorem zk_F_grow {F : List (Nat × Nat)} {B : List Nat} {U : Nat → Prop} {t0 : Nat → Nat} {H0 : Heap} (h : zk_F D F B U t0 H0 ty H) (ha : ty a = 0) (hU : U a ∨ H0.size ≤ a) : zk_F D F B U t0 H0 (zk_tu ty a t) H := by
  obtain ⟨h1, h2, h3, h4⟩ := h
  refine ⟨h1, fun b u hb => zk_tu_keep ha (h2 b u hb), fun b hb hu => ?_, h4⟩
  unfold zk_tu
  rw [if_neg (fun e => by
    subst e
    rcases hU with z | z
    · exact hu z
    · omega)]
  exact h3 b hb hu
theorem zk_H_grow {G : zG} (hO : zk_stable D PF PB) (hT : zk_T D ty H) (hT' : zk_T D (zk_tu ty a t) H) (ha : ty a = 0) (hr : ∀ q ∈ G.2.2.2.1, (r q.1).toNat ≠ a) (h : zk_H D r ty H G) : zk_H D r (zk_tu ty a t) H G := by
  obtain ⟨g1, g2, g3, g4, g5, g6, g7⟩ := h
  refine ⟨fun q hq => ⟨(g1 q hq).1, zk_tu_keep ha (g1 q hq).2⟩, fun q hq => ?_, fun q hq => ?_, fun q hq => ?_, g5, g6, fun q hq => ?_⟩
  · obtain ⟨⟨u, u1, u2⟩, w⟩ := g2 q hq
    exact ⟨⟨u, zk_tu_keep ha u1, u2⟩, w⟩
  · obtain ⟨u1, u2⟩ := g3 q hq
    exact ⟨zk_tu_keep ha u1, u2⟩
  · obtain ⟨u1, u2, u3, u4⟩ := g4 q hq
    refine ⟨u1, u2, ?_, u4⟩
    unfold zk_tu
    rw [if_neg (hr q hq)]
    exact u3
  · refine hO _ _ _ _ _ _ ⟨fun _ _ => zk_tu_keep ha, fun _ _ _ _ _ => rfl, fun b u hb _ k _ _ c0 c1 e0 e1 => ?_⟩ hT hT' (g7 q hq)
    cases e0.symm.trans e1
    rfl
/-- a cell is made at the heap's end -/
theorem zk_T_push (h : zk_T D ty H) (hs : H'.size = H.size + 1) (ho : ∀ b, b < H.size → H'[b]? = H[b]?) : zk_T D ty H' := by
  refine ⟨by rw [hs]; exact Nat.le_succ_of_le h.1, fun b u hb => ?_⟩
  have hlt := zk_T_lt (a := b) h (by omega)
  have g := h.2 b u hb
  split at g
  · rename_i e9
    rw [if_pos e9]; exact g
  · rename_i e9
    rw [if_neg e9]
    exact ⟨g.1, zk_C_mono (fun _ _ z => z) (ho b hlt) g.2⟩
theorem zk_F_push {F : List (Nat × Nat)} {B : List Nat} {U : Nat → Prop} {t0 : Nat → Nat} {H0 : Heap} (hT : zk_T D ty H) (h : zk_F D F B U t0 H0 ty H) (hs : H'.size = H.size + 1) (ho : ∀ b, b < H.size → H'[b]? = H[b]?) : zk_F D F B U t0 H0 ty H' := by
  obtain ⟨h1, h2, h3, h4, h5, h6⟩ := h
  refine ⟨by omega, h2, h3, fun b hb hz hu => by rw [ho b (by omega)]; exact h4 b hb hz hu, fun b u hb h0 hB => ?_, fun b u hb h0 k hk1 hk2 c0 c1 e0 e1 => ?_⟩
  · rw [ho b (zk_T_lt hT (by have := h2 b u hb; omega))]; exact h5 b u hb h0 hB
  · rw [ho b (zk_T_lt hT (by have := h2 b u hb; omega))] at e1; exact h6 b u hb h0 k hk1 hk2 c0 c1 e0 e1
theorem zk_H_push {G : zG} (hO : zk_stable D PF PB) (hT : zk_T D ty H) (hs : H'.size = H.size + 1) (ho : ∀ b, b < H.size → H'[b]? = H[b]?) (h : zk_H D r ty H G) : zk_H D r ty H' G := by
  have hT' := zk_T_push hT hs ho
  have hk : ∀ {b : Nat} {cell : Cell}, H[b]? = some cell → H'[b]? = some cell := fun {b cell} hb => by rw [ho b (Array.getElem?_eq_some_iff.mp hb).1]; exact hb
  obtain ⟨g1, g2, g3, g4, g5, g6, g7⟩ := h
  refine ⟨g1, fun q hq => ?_, fun q hq => ?_, fun q hq => ?_, g5, g6, fun q hq => ?_⟩
  · obtain ⟨u, cw, w1, w2⟩ := g2 q hq
    exact ⟨u, cw, hk w1, w2⟩
  · obtain ⟨u1, u2, u3, cw, w1, w2⟩ := g3 q hq
    exact ⟨u1, u2, u3, cw, hk w1, w2⟩
  · obtain ⟨u1, u2, u3, cw, w1, w2⟩ := g4 q hq
    exact ⟨u1, u2, u3, cw, hk w1, w2⟩
  · refine hO _ _ _ _ _ _ ⟨fun _ _ z => z, fun b u hb _ _ => ho b (zk_T_lt hT (by omega)), fun b u hb _ k _ _ c0 c1 e0 e1 => ?_⟩ hT hT' (g7 q hq)
    rw [ho b (zk_T_lt hT (by omega))] at e1
    cases e0.symm.trans e1
    rfl
theorem zk_I_push (hO : zk_stable D PF PB) (hs : H'.size = H.size + 1) (ho : ∀ b, b < H.size → H'[b]? = H[b]?) (I : zk_I D E A r ty H locs ls st) : zk_I D E A r ty H' locs ls st := by
  obtain ⟨a1, a2, a3, a4, a5, a6, a7⟩ := I
  exact ⟨a1, a2, a3, zk_H_push hO a5 hs ho a4, zk_T_push a5 hs ho, zk_F_push a5 a6 hs ho, a7⟩
end
/-- a value that a new place holds -/
def zk_dz (f : FieldType) : zV := match f with
  | .int => (0, 0, 0) | .boolean => (0, 0, 0) | .byte => (0, 0, 0) | .long => (1, 0, 0) | _ => (3, 0, 0)
def zk_dok (f : FieldType) : Bool := match f with
  | .int => true | .boolean => true | .byte => true | .long => true | .object _ => true | .array _ => true | _ => false
theorem zk_dz_ok {f : FieldType} (h : zk_dok f = true) {r : Nat → Int} (h0 : r 0 = 0) : defaultValue f = zk_c r (zk_dz f) := by
  cases f <;> simp_all [zk_dok, zk_dz, zk_c, zk_k, zk_n, defaultValue]
