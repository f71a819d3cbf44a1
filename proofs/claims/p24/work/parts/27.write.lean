/-! THE CHECKER, 12: what is written. -/
/-- of the protected fields and arrays nothing has changed; types only grow -/
def zk_st (D : zD) (PF : List (Nat × Nat)) (PB : List Nat) (ty : Nat → Nat) (H : Heap) (ty' : Nat → Nat) (H' : Heap) : Prop :=
  (∀ a t : Nat, ty a = t + 1 → ty' a = t + 1) ∧ (∀ a t : Nat, ty a = t + 1 → (D.TT t).1 ≠ 0 → t ∈ PB → H'[a]? = H[a]?) ∧
  ∀ a t : Nat, ty a = t + 1 → (D.TT t).1 = 0 → ∀ k : Nat, k < (D.TT t).2.2.length → (t, k) ∈ PF → ∀ c0 c1 : Cell, H[a]? = some c0 → H'[a]? = some c1 → c1.slots[D.dI (D.TT t).2.1 k]? = c0.slots[D.dI (D.TT t).2.1 k]?
/-- the further facts hang on protected things alone -/
def zk_stable (D : zD) (PF : Nat → List (Nat × Nat)) (PB : Nat → List Nat) : Prop := ∀ (j : Nat) (ty ty' : Nat → Nat) (H H' : Heap) (vs : List Int), zk_st D (PF j) (PB j) ty H ty' H' → zk_T D ty H → zk_T D ty' H' → D.OP j ty H vs → D.OP j ty' H' vs
/-- a value fits the kind of a place -/
def zk_cf (P : zP) (rt : List (Nat × Nat)) (w : zV) (q : zT) : Bool := decide (w.1 = q.1) && (if w.1 = 2 then decide (w.2.2 = 0) && (match zk_rtl rt w.2.1 with | some t => q.2.any (fun i => i.1.toNat == t) | none => false) else decide (w.1 < 2) && q.2.any (fun i => zk_inb P w i.1 i.2))
theorem zk_cf_ok {r : Nat → Int} {ty : Nat → Nat} {P : zP} {rt : List (Nat × Nat)} {w : zV} {q : zT} (hP : zk_P r P) (hrt : ∀ q ∈ rt, zk_rt r ty q) (h : zk_cf P rt w q = true) : zk_vt ty (zk_c r w) q := by
  simp only [zk_cf, Bool.and_eq_true, decide_eq_true_eq] at h
  obtain ⟨h1, h⟩ := h
  refine ⟨zk_n r w, by unfold zk_c; rw [h1], ?_⟩
  split at h
  · rename_i h2
    simp only [Bool.and_eq_true, decide_eq_true_eq] at h
    obtain ⟨h3, h⟩ := h
    split at h
    · rename_i t ht
      simp only [List.any_eq_true, beq_iff_eq] at h
      obtain ⟨i, hi, e⟩ := h
      refine ⟨i, hi, ?_⟩
      rw [if_pos (by omega)]
      have g := hrt _ (zk_rtl_mem ht)
      have e1 : zk_n r w = r w.2.1 := by unfold zk_n; omega
      rw [e1, e]
      exact g
    · cases h
  · rename_i h2
    simp only [Bool.and_eq_true, List.any_eq_true] at h
    obtain ⟨-, i, hi, hb⟩ := h
    exact ⟨i, hi, by rw [if_neg (by omega)]; exact zk_inb_ok hP hb⟩
/-- a value that the machine stores as it is -/
def zk_nf (P : zP) (f : FieldType) (w : zV) : Bool := match f with
  | .int => decide (w.1 = 0)
  | .boolean => decide (w.1 = 0) && zk_inb P w 0 1
  | .long => decide (w.1 = 1)
  | .object _ => decide (w.1 = 2)
  | .array _ => decide (w.1 = 2)
  | _ => false
theorem zk_nf_ok {r : Nat → Int} {P : zP} {f : FieldType} {w : zV} (hP : zk_P r P) (h : zk_nf P f w = true) : narrow f (zk_c r w) = zk_c r w ∧ fits f (zk_c r w) = true := by
  unfold zk_nf at h
  split at h
  · simp only [decide_eq_true_eq] at h
    rw [zk_e0 h]; exact ⟨rfl, rfl⟩
  · simp only [Bool.and_eq_true, decide_eq_true_eq] at h
    rw [zk_e0 h.1]
    have h2 := zk_inb_ok hP h.2
    rcases (show zk_n r w = 0 ∨ zk_n r w = 1 by omega) with e | e <;> rw [e] <;> exact ⟨by decide, by decide⟩
  · simp only [decide_eq_true_eq] at h
    rw [zk_e1 h]; exact ⟨rfl, rfl⟩
  · simp only [decide_eq_true_eq] at h
    unfold zk_c; rw [h]; exact ⟨rfl, rfl⟩
  · simp only [decide_eq_true_eq] at h
    unfold zk_c; rw [h]; exact ⟨rfl, rfl⟩
  · cases h
section
variable {D : zD} {cl : List vw_C} {ft : Nat → Nat → FieldType} {s : State} {args : Array Value} {ty : Nat → Nat} {H H' : Heap} {a t : Nat} {cell cell' : Cell}
/-- two fields of a class lie apart -/
theorem zk_apart (hV : zk_env D cl ft s args) {ci : Nat} {q : vw_C} (hq : cl[ci]? = some q) {x y : Nat} (hx : x < q.2.2) (hy : y < q.2.2) (hn : x ≠ y) : D.dI ci x ≠ D.dI ci y := by
  obtain ⟨⟨hS, hfc, kC, hkC, hkind⟩, hl, hty, hnm, -⟩ := hV.1 ci q hq
  obtain ⟨_, _, _, fa, hia, ea⟩ := hS x hx
  obtain ⟨_, _, _, fb, hib, eb⟩ := hS y hy
  rw [← ea, ← eb]
  refine u_apart (u_lays (fun w hw => hl w hw) (fun w hw => hw) hx) (u_lays (fun w hw => hl w hw) (fun w hw => hw) hy) hia hib ?_
  rw [(State.fieldFound?_type hia (hty x hx)).1, (State.fieldFound?_type hib (hty y hy)).1]
  exact hnm x hx y hy hn
/-- the typed heap, one typed cell written -/
theorem zk_T_upd (h : zk_T D ty H) (hs : H'.size = H.size) (ho : ∀ q, q ≠ a → H'[q]? = H[q]?) (ht : ty a = t + 1) (h9 : (D.TT t).1 ≠ 9) (hc : zk_C D ty H' a (D.TT t)) : zk_T D ty H' := by
  refine ⟨by rw [hs]; exact h.1, fun b u hb => ?_⟩
  have g := h.2 b u hb
  by_cases e : b = a
  · subst e
    have e2 : u = t := by omega
    subst e2
    rw [if_neg h9] at g ⊢
    exact ⟨g.1, hc⟩
  · split at g
    · rename_i h1
      rw [if_pos h1]; exact g
    · rename_i h1
      rw [if_neg h1]
      refine ⟨g.1, ?_⟩
      have g2 := g.2
      unfold zk_C at g2 ⊢
      rw [ho b e]
      exact g2
theorem zk_F_upd {F : List (Nat × Nat)} {B : List Nat} {U : Nat → Prop} {t0 : Nat → Nat} {H0 : Heap} (h : zk_F D F B U t0 H0 ty H) (hs : H'.size = H.size) (ho : ∀ q, q ≠ a → H'[q]? = H[q]?) (ht : ty a = t + 1) (hB : (D.TT t).1 ≠ 0 → t ∈ B) (hc : H[a]? = some cell) (hc' : H'[a]? = some cell')
    (hk : (D.TT t).1 = 0 → ∀ k : Nat, k < (D.TT t).2.2.length → (t, k) ∉ F → cell'.slots[D.dI (D.TT t).2.1 k]? = cell.slots[D.dI (D.TT t).2.1 k]?) : zk_F D F B U t0 H0 ty H' := by
  obtain ⟨h1, h2, h3, h4, h5, h6⟩ := h
  refine ⟨by rw [hs]; exact h1, h2, h3, fun b hb hz hu => ?_, fun b u hb h0 hu => ?_, fun b u hb h0 k hk1 hk2 c0 c1 e0 e1 => ?_⟩
  · by_cases e : b = a
    · subst e
      have := h3 b hb hu
      omega
    · rw [ho b e]; exact h4 b hb hz hu
  · by_cases e : b = a
    · subst e
      have e2 := h2 b u hb
      have e3 : u = t := by omega
      subst e3
      exact absurd (hB h0) hu
    · rw [ho b e]; exact h5 b u hb h0 hu
  · by_cases e : b = a
    · subst e
      have e2 := h2 b u hb
      have e3 : u = t := by omega
      subst e3
      cases hc'.symm.trans e1
      rw [hk h0 k hk1 hk2]
      exact h6 b u hb h0 k hk1 hk2 c0 cell e0 hc
    · rw [ho b e] at e1
      exact h6 b u hb h0 k hk1 hk2 c0 c1 e0 e1
theorem zk_st_upd {PF : List (Nat × Nat)} {PB : List Nat} (ho : ∀ q, q ≠ a → H'[q]? = H[q]?) (ht : ty a = t + 1) (hB : (D.TT t).1 ≠ 0 → t ∉ PB) (hc : H[a]? = some cell) (hc' : H'[a]? = some cell') (hk : (D.TT t).1 = 0 → ∀ k : Nat, k < (D.TT t).2.2.length → (t, k) ∈ PF → cell'.slots[D.dI (D.TT t).2.1 k]? = cell.slots[D.dI (D.TT t).2.1 k]?) : zk_st D PF PB ty H ty H' := by
  refine ⟨fun _ _ h => h, fun b u hb h0 hu => ?_, fun b u hb h0 k hk1 hk2 c0 c1 e0 e1 => ?_⟩
  · by_cases e : b = a
    · subst e
      have e3 : u = t := by omega
      subst e3
      exact absurd hu (hB h0)
    · exact ho b e
  · by_cases e : b = a
    · subst e
      have e3 : u = t := by omega
      subst e3
      cases hc'.symm.trans e1
      cases hc.symm.trans e0
      exact hk h0 k hk1 hk2
    · rw [ho b e] at e1
      cases e0.symm.trans e1
      rfl
end
