/-! THE CHECKER, 20: calls. A contract: entry symbols below n0, all symbols below n1; arguments, numbers, heap at the start; cases of the end; what may change; cells and slots. -/
abbrev zQ : Type := (Nat × Nat) × (List zV × zP × zG) × List (Option zV × zP × zG) × (List (Nat × Nat) × List Nat) × (Nat × Nat)
section
variable {D : zD} {E : zE} {A : zA} {r : Nat → Int} {ty ty' : Nat → Nat} {H H1 : Heap} {locs locs' : List Loc} {ls : Array Slot} {st : List Value} {S : List zV} {PF : Nat → List (Nat × Nat)} {PB : Nat → List Nat}
theorem zk_F_trans {F F' : List (Nat × Nat)} {B B' : List Nat} {U U' : Nat → Prop} {t0 : Nat → Nat} {H0 : Heap} (hT : zk_T D ty H) (h : zk_F D F B U t0 H0 ty H) (h' : zk_F D F' B' U' ty H ty' H1) (hF : ∀ f ∈ F', f ∈ F) (hB : ∀ b ∈ B', b ∈ B) (hU : ∀ a, U' a → U a ∨ H0.size ≤ a) : zk_F D F B U t0 H0 ty' H1 := by
  obtain ⟨h1, h2, h3, h4, h5, h6⟩ := h
  obtain ⟨k1, k2, k3, k4, k5, k6⟩ := h'
  have hu : ∀ b, b < H0.size → ¬ U b → ¬ U' b := fun b hb hn z => by
    rcases hU b z with q | q
    · exact hn q
    · omega
  refine ⟨Nat.le_trans h1 k1, fun a t ha => k2 a t (h2 a t ha), fun b hb hn => ?_, fun b hb hz hn => ?_, fun b t hb h0 hnB => ?_, fun b t hb h0 k hk hnF c0 c1 e0 e1 => ?_⟩
  · rw [k3 b (by omega) (hu b hb hn)]; exact h3 b hb hn
  · rw [k4 b (by omega) (by rw [h3 b hb hn]; exact hz) (hu b hb hn)]; exact h4 b hb hz hn
  · rw [k5 b t (h2 b t hb) h0 (fun z => hnB (hB _ z))]; exact h5 b t hb h0 hnB
  · have ht := h2 b t hb
    have hlt := zk_T_lt hT (a := b) (by omega)
    have e2 : H[b]? = some H[b] := Array.getElem?_eq_getElem hlt
    rw [k6 b t ht h0 k hk (fun z => hnF (hF _ z)) _ c1 e2 e1]
    exact h6 b t hb h0 k hk hnF c0 _ e0 e2
theorem zk_st_call {F : List (Nat × Nat)} {B : List Nat} {U : Nat → Prop} (h : zk_F D F B U ty H ty' H1) {PF : List (Nat × Nat)} {PB : List Nat} (hF : ∀ f ∈ F, f ∉ PF) (hB : ∀ b ∈ B, b ∉ PB) : zk_st D PF PB ty H ty' H1 :=
  ⟨h.2.1, fun a t ha h0 hp => h.2.2.2.2.1 a t ha h0 (fun z => hB _ z hp), fun a t ha h0 k hk hp c0 c1 e0 e1 => h.2.2.2.2.2 a t ha h0 k hk (fun z => hF _ z hp) c0 c1 e0 e1⟩
/-- a known field that may have changed -/
def zk_fd (F : List (Nat × Nat)) (rt : List (Nat × Nat)) (g : Nat × Nat × Nat × zV) : Bool := match zk_rtl rt g.1 with | some t => F.contains (t, g.2.2.1) | none => F.any (fun f => f.2 == g.2.2.1)
def zk_kp (PF : Nat → List (Nat × Nat)) (PB : Nat → List Nat) (F : List (Nat × Nat)) (B : List Nat) (xs : List Nat) (S : List zV) (A : zA) : zA :=
  (A.1, S, A.2.2.1, (A.2.2.2.1.1, A.2.2.2.1.2.1.filter (fun g => !zk_fd F A.2.2.2.1.1 g), A.2.2.2.1.2.2.1.filter (fun g => !B.contains g.2.1), A.2.2.2.1.2.2.2.1.filter (fun g => !xs.contains g.1), A.2.2.2.1.2.2.2.2.1, A.2.2.2.1.2.2.2.2.2.filter (fun q => F.all (fun f => !(PF q.1).contains f) && B.all (fun b => !(PB q.1).contains b))), A.2.2.2.2)
theorem zk_I_kp {F : List (Nat × Nat)} {B xs : List Nat} {U : Nat → Prop} (hO : zk_stable D PF PB) (I : zk_I D E A r ty H locs ls st) (h : zk_F D F B U ty H ty' H1) (hT : zk_T D ty' H1) (hF : ∀ f ∈ F, f ∈ E.2.2.1.1) (hB : ∀ b ∈ B, b ∈ E.2.2.1.2) (hxs : ∀ x ∈ xs, ∃ q, zk_rwl A.2.2.2.1.2.2.2.1 x = some q) (hU : ∀ a, U a → ∃ x ∈ xs, a = (r x).toNat) (hl : ∀ q ∈ locs', D.ba ≤ q.base) : zk_I D E (zk_kp PF PB F B xs S A) r ty' H1 locs' ls (S.map (zk_c r)) := by
  obtain ⟨a1, a2, a3, a4, a5, a6, a7, a8, a9, a10, a11⟩ := I
  obtain ⟨g1, g2, g3, g4, g5, g6, g7⟩ := a4
  have hF2 := zk_F_trans a5 a6 h hF hB (fun a ha => by
    obtain ⟨x, hx, rfl⟩ := hU a ha
    obtain ⟨q, hq⟩ := hxs x hx
    exact a11 _ (zk_rwl_mem hq))
  refine ⟨a1, rfl, a3, ⟨fun q hq => ⟨(g1 q hq).1, h.2.1 _ _ (g1 q hq).2⟩, fun q hq => ?_, fun q hq => ?_, fun q hq => ?_, g5.filter _, g6, fun q hq => ?_⟩, hT, hF2, a7, a8, a9, hl, fun q hq => a11 q (List.mem_filter.mp hq).1⟩
  · obtain ⟨h1, h2⟩ := List.mem_filter.mp hq
    obtain ⟨⟨t, t1, t2, t3, t4⟩, cell, c1, c2⟩ := g2 q h1
    have hlt := zk_T_lt hT (a := (r q.1).toNat) (by rw [h.2.1 _ _ t1]; omega)
    refine ⟨⟨t, h.2.1 _ _ t1, t2, t3, t4⟩, _, Array.getElem?_eq_getElem hlt, ?_⟩
    have hnF : (t, q.2.2.1) ∉ F := by
      intro z
      unfold zk_fd at h2
      split at h2
      · rename_i u hu
        have k1 := (g1 _ (zk_rtl_mem hu)).2
        dsimp only at k1
        have : u = t := by omega
        subst this
        rw [List.contains_iff_mem.mpr z] at h2
        cases h2
      · have : (F.any (fun f => f.2 == q.2.2.1)) = true := List.any_eq_true.mpr ⟨_, z, by simp⟩
        rw [this] at h2
        cases h2
    have := h.2.2.2.2.2 _ t t1 t2 q.2.2.1 t4 hnF cell _ c1 (Array.getElem?_eq_getElem hlt)
    rw [t3] at this
    rw [this]
    exact c2
  · obtain ⟨h1, h2⟩ := List.mem_filter.mp hq
    obtain ⟨u1, u2, u3, cell, c1, c2⟩ := g3 q h1
    refine ⟨h.2.1 _ _ u1, u2, u3, cell, ?_, c2⟩
    rw [h.2.2.2.2.1 _ _ u1 u2 (fun z => by
      rw [List.contains_iff_mem.mpr z] at h2
      cases h2)]
    exact c1
  · obtain ⟨h1, h2⟩ := List.mem_filter.mp hq
    obtain ⟨u1, u2, u3, cell, c1, c2⟩ := g4 q h1
    have hlt := (Array.getElem?_eq_some_iff.mp c1).1
    have hnU : ¬ U (r q.1).toNat := by
      intro z
      obtain ⟨x, hx, ex⟩ := hU _ z
      obtain ⟨q', hq'⟩ := hxs x hx
      have hq2 := zk_rwl_mem hq'
      have h0x := (g4 _ hq2).1
      dsimp only at h0x
      have er : r q.1 = r x := by omega
      have hne : q ≠ (x, q') := fun e => by
        rw [e] at h2
        dsimp only at h2
        rw [List.contains_iff_mem.mpr hx] at h2
        cases h2
      exact zk_pw (R := fun x y : Nat × Nat × List zV => r x.1 ≠ r y.1) (fun _ _ z => z.symm) g5 h1 hq2 hne er
    refine ⟨u1, u2, by rw [h.2.2.1 _ hlt hnU]; exact u3, cell, ?_, c2⟩
    rw [h.2.2.2.1 _ hlt u3 hnU]
    exact c1
  · obtain ⟨h1, h2⟩ := List.mem_filter.mp hq
    simp only [Bool.and_eq_true, List.all_eq_true, Bool.not_eq_true'] at h2
    refine hO _ _ _ _ _ _ (zk_st_call h (fun f hf z => ?_) (fun b hb z => ?_)) a5 hT (g7 q h1)
    · have := h2.1 f hf
      rw [List.contains_iff_mem.mpr z] at this
      cases this
    · have := h2.2 b hb
      rw [List.contains_iff_mem.mpr z] at this
      cases this
end
