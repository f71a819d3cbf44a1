/-! THE CHECKER, 13: putfield, and stores into arrays. -/
def zk_fin (cl : List vw_C) (f : Nat × Nat) : Bool := match cl[f.1]? with | some q => (q.2.1 f.2).2.2.2 | none => true
def zk_nfl (cl : List vw_C) (ci : Nat) : Nat := match cl[ci]? with | some q => q.2.2 | none => 0
def zk_wG (fm : List (Nat × Nat × Nat × zV)) (em : List (Nat × Nat × zV × zV)) (S : List zV) (A : zA) : zA := (A.1, S, A.2.2.1, (A.2.2.2.1.1, fm, em, A.2.2.2.1.2.2.2), A.2.2.2.2)
def zk_wGO (fm : List (Nat × Nat × Nat × zV)) (em : List (Nat × Nat × zV × zV)) (ops : List (Nat × List zV)) (S : List zV) (A : zA) : zA := (A.1, S, A.2.2.1, (A.2.2.2.1.1, fm, em, A.2.2.2.1.2.2.2.1, A.2.2.2.1.2.2.2.2.1, ops), A.2.2.2.2)
/-- further facts that a store makes: by what is written (0, class, field) or (1, type, 0) -/
abbrev zSU : Type := Nat × Nat × Nat → zA → List (Nat × List zV)
def zk_SUok (D : zD) (E : zE) (SU : zSU) : Prop :=
  (∀ (f : Nat × Nat) (A : zA) (r : Nat → Int) (ty : Nat → Nat) (H H' : Heap) (locs : List Loc) (ls : Array Slot) (st : List Value) (w v : zV) (S : List zV) (cell : Cell) (t : Nat), zk_I D E A r ty H locs ls st → A.2.1 = w :: v :: S → (v.1 = 2 ∧ v.2.2 = 0) → ty (r v.2.1).toNat = t + 1 → ((D.TT t).1 = 0 ∧ (D.TT t).2.1 = f.1 ∧ f.2 < (D.TT t).2.2.length) → H[(r v.2.1).toNat]? = some cell → H'[(r v.2.1).toNat]? = some (cell.setSlot (D.dI f.1 f.2) (zk_c r w)) → (∃ x, cell.slots[D.dI f.1 f.2]? = some x) → H'.size = H.size → (∀ q, q ≠ (r v.2.1).toNat → H'[q]? = H[q]?) → zk_T D ty H' → ∀ q ∈ SU (0, t, f.2) A, D.OP q.1 ty H' (q.2.map (zk_n r))) ∧
  ∀ (t : Nat) (A : zA) (r : Nat → Int) (ty : Nat → Nat) (H H' : Heap) (locs : List Loc) (ls : Array Slot) (st : List Value) (w i v : zV) (S : List zV) (cell : Cell), zk_I D E A r ty H locs ls st → A.2.1 = w :: i :: v :: S → (v.1 = 2 ∧ v.2.2 = 0) → ty (r v.2.1).toNat = t + 1 → (D.TT t).1 ≠ 0 → (D.TT t).1 ≠ 9 → H[(r v.2.1).toNat]? = some cell → H'[(r v.2.1).toNat]? = some (cell.setSlot (zk_n r i).toNat (zk_c r w)) → 0 ≤ zk_n r i → (zk_n r i).toNat < cell.slots.size → H'.size = H.size → (∀ q, q ≠ (r v.2.1).toNat → H'[q]? = H[q]?) → zk_T D ty H' → ∀ q ∈ SU (1, t, 0) A, D.OP q.1 ty H' (q.2.map (zk_n r))
def zk_stb (D : zD) (PF : Nat → List (Nat × Nat)) (PB : Nat → List Nat) (SU : zSU) : Prop := zk_stable D PF PB ∧ ∀ E, zk_SUok D E SU
def zk_rws : List (Nat × Nat × List zV) → Nat → List zV → List (Nat × Nat × List zV)
  | [], _, _ => []
  | q :: l, x, vs => if q.1 = x then (q.1, q.2.1, vs) :: l else q :: zk_rws l x vs
def zk_wR (x : Nat) (vs : List zV) (S : List zV) (A : zA) : zA := (A.1, S, A.2.2.1, (A.2.2.2.1.1, A.2.2.2.1.2.1, A.2.2.2.1.2.2.1, zk_rws A.2.2.2.1.2.2.2.1 x vs, A.2.2.2.1.2.2.2.2), A.2.2.2.2)
/-- a reference of another type -/
def zk_ot (rt : List (Nat × Nat)) (t x : Nat) : Bool := match zk_rtl rt x with | some u => !(u == t) | none => false
/-- oc: the method's own class; ini: it is a constructor -/
def zk_put (cl : List vw_C) (ft : Nat → Nat → FieldType) (TT : Nat → zS) (FX : Nat → Option (Nat × Nat)) (PF : Nat → List (Nat × Nat)) (SU : zSU) (F : List (Nat × Nat)) (oc : Nat) (ini : Bool) (K : Nat → zA → Bool) (pc idx : Nat) (A : zA) : Bool :=
  match A.2.1, FX idx with
  | w :: v :: S, some f => decide (v.1 = 2 ∧ v.2.2 = 0) && (zk_nf A.2.2.1 (ft f.1 f.2) w && (match zk_rwl A.2.2.2.1.2.2.2.1 v.2.1 with
    | some q => decide (q.1 = f.1 ∧ q.1 < 1000 ∧ f.2 < q.2.length ∧ q.2.length ≤ zk_nfl cl f.1) && ((!zk_fin cl f || (ini && decide (f.1 = oc))) && K (pc + 3) (zk_wR v.2.1 (q.2.set f.2 w) S A))
    | none => (match zk_rtl A.2.2.2.1.1 v.2.1 with
      | some t => decide ((TT t).1 = 0 ∧ (TT t).2.1 = f.1) && (!zk_fin cl f && (F.contains (t, f.2) && ((match (TT t).2.2[f.2]? with
        | some q => zk_cf A.2.2.1 A.2.2.2.1.1 w q && K (pc + 3) (zk_wGO ((v.2.1, f.1, f.2, w) :: A.2.2.2.1.2.1.filter (fun g => !(g.2.1 == f.1 && g.2.2.1 == f.2) || zk_ot A.2.2.2.1.1 t g.1)) A.2.2.2.1.2.2.1 (SU (0, t, f.2) A ++ A.2.2.2.1.2.2.2.2.2.filter (fun q => !(PF q.1).contains (t, f.2))) S A)
        | none => false))))
      | none => false)))
  | _, _ => false
section
variable {p : Program} {l : Launch} {e : Env} {R : Room} {s : State} {m : MethodId} {args : Array Value} {below : List Frame} {meth : Method} {c : Code} {Q : State → Prop} {cc : ByteArray} {pc : Nat} {D : zD} {E : zE} {A : zA} {K : Nat → zA → Bool} {cl : List vw_C} {ft : Nat → Nat → FieldType} {own : String} {FX : Nat → Option (Nat × Nat)} {PF : Nat → List (Nat × Nat)} {PB : Nat → List Nat}
variable {r : Nat → Int} {ty : Nat → Nat} {H H' : Heap} {locs locs' : List Loc} {ls : Array Slot} {st : List Value} {a t : Nat} {cell cell' : Cell} {S : List zV}
/-- a typed cell was written: what holds then -/
theorem zk_I_upd (I : zk_I D E A r ty H locs ls st) (hs : H'.size = H.size) (ho : ∀ q, q ≠ a → H'[q]? = H[q]?) (ht : ty a = t + 1) (h9 : (D.TT t).1 ≠ 9) (hc : H[a]? = some cell) (hc' : H'[a]? = some cell') (hC : zk_C D ty H' a (D.TT t))
    (hB : (D.TT t).1 ≠ 0 → t ∈ E.2.2.1.2) (hk : (D.TT t).1 = 0 → ∀ k : Nat, k < (D.TT t).2.2.length → (t, k) ∉ E.2.2.1.1 → cell'.slots[D.dI (D.TT t).2.1 k]? = cell.slots[D.dI (D.TT t).2.1 k]?)
    {fm : List (Nat × Nat × Nat × zV)} {em : List (Nat × Nat × zV × zV)} {ops : List (Nat × List zV)} (hfm : ∀ q ∈ fm, zk_fm D r ty H' q) (hem : ∀ q ∈ em, zk_em D r ty H' q) (hops : zk_T D ty H' → ∀ q ∈ ops, D.OP q.1 ty H' (q.2.map (zk_n r))) (hl : ∀ q ∈ locs', D.ba ≤ q.base) : zk_I D E (zk_wGO fm em ops S A) r ty H' locs' ls (S.map (zk_c r)) := by
  obtain ⟨a1, a2, a3, a4, a5, a6, a7, a8, a9, a10, a11⟩ := I
  obtain ⟨b1, b2, b3, b4, b5, b6, b7⟩ := a4
  have hT := zk_T_upd a5 hs ho ht h9 hC
  refine ⟨a1, rfl, a3, ⟨b1, hfm, hem, fun q hq => ?_, b5, b6, hops hT⟩, hT, zk_F_upd a6 hs ho ht hB hc hc' hk, a7, a8, a9, hl, a11⟩
  obtain ⟨c1, c2, c3, cw, c4, c5⟩ := b4 q hq
  refine ⟨c1, c2, c3, cw, ?_, c5⟩
  rw [ho _ (fun e => by rw [e] at c3; omega)]
  exact c4
theorem zk_fm_keep (hV : zk_env D cl ft s args) (hT : zk_T D ty H) (ho : ∀ q, q ≠ a → H'[q]? = H[q]?) (ht : ty a = t + 1) (h0 : (D.TT t).1 = 0) (hc : H[a]? = some cell) {k : Nat} (hk : k < (D.TT t).2.2.length) {x : Value} (hc' : H'[a]? = some (cell.setSlot (D.dI (D.TT t).2.1 k) x)) {g : Nat × Nat × Nat × zV} (hg : zk_fm D r ty H g) (hne : ¬ (g.2.1 = (D.TT t).2.1 ∧ g.2.2.1 = k)) : zk_fm D r ty H' g := by
  obtain ⟨⟨u, u1, u2, u3, u4⟩, cw, w1, w2⟩ := hg
  refine ⟨⟨u, u1, u2, u3, u4⟩, ?_⟩
  by_cases e1 : (r g.1).toNat = a
  · rw [e1] at u1 w1 ⊢
    have e2 : u = t := by omega
    subst e2
    cases hc.symm.trans w1
    refine ⟨_, hc', ?_⟩
    obtain ⟨q, hq1, hq2⟩ := hV.2.2.2 u u2
    have hap : D.dI (D.TT u).2.1 k ≠ D.dI (D.TT u).2.1 g.2.2.1 := zk_apart hV hq1 (by rw [← hq2]; exact hk) (by rw [← hq2]; exact u4) (fun e => hne ⟨u3.symm, e.symm⟩)
    rw [← u3] at w2 ⊢
    rw [slot_ne _ _ hap]
    exact w2
  · exact ⟨cw, by rw [ho _ e1]; exact w1, w2⟩
theorem zk_em_keepO (ho : ∀ q, q ≠ a → H'[q]? = H[q]?) (ht : ty a = t + 1) (h0 : (D.TT t).1 = 0) {g : Nat × Nat × zV × zV} (hg : zk_em D r ty H g) : zk_em D r ty H' g := by
  obtain ⟨u1, u2, u3, cw, w1, w2⟩ := hg
  refine ⟨u1, u2, u3, cw, ?_, w2⟩
  rw [ho _ (fun e => by
    rw [e] at u1
    have e2 : g.2.1 = t := by omega
    rw [e2] at u2
    exact u2 h0)]
  exact w1
end
