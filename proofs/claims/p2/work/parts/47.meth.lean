/-! THE CHECKER, 31: a method as data. -/
def zk_al {α : Type} : List (Nat × α) → Nat → Option α
  | [], _ => none
  | q :: l, x => if Nat.beq q.1 x then some q.2 else zk_al l x
theorem zk_al_mem {α : Type} : ∀ {l : List (Nat × α)} {x : Nat} {v : α}, zk_al l x = some v → (x, v) ∈ l
  | [], _, _, h => by simp [zk_al] at h
  | q :: l, x, v, h => by
    unfold zk_al at h
    split at h
    · rename_i h1
      cases h
      rw [← Nat.eq_of_beq_eq_true h1]
      exact List.mem_cons_self
    · exact List.mem_cons_of_mem _ (zk_al_mem h)
/-- a table in blocks: (bound, block) -/
def zk_bl {α : Type} : List (Nat × List (Nat × α)) → Nat → Option α
  | [], _ => none
  | q :: l, x => if Nat.blt x q.1 then zk_al q.2 x else zk_bl l x
theorem zk_bl_mem {α : Type} : ∀ {l : List (Nat × List (Nat × α))} {x : Nat} {v : α}, zk_bl l x = some v → ∃ q ∈ l, (x, v) ∈ q.2
  | [], _, _, h => by simp [zk_bl] at h
  | q :: l, x, v, h => by
    unfold zk_bl at h
    split at h
    · exact ⟨q, List.mem_cons_self, zk_al_mem h⟩
    · obtain ⟨q', h1, h2⟩ := zk_bl_mem h
      exact ⟨q', List.mem_cons_of_mem _ h1, h2⟩
def zk_ans (ANl : List (Nat × List zA)) (n : Nat) : List zA := match zk_al ANl n with | none => [] | some l => l
def zk_fzs {α : Type} (l : List (Nat × List α)) (n : Nat) : List α := match zk_al l n with | none => [] | some l => l
def zk_de (b : ByteArray) (pc : Nat) (q : Instr × Nat) : Bool := decide (decode b pc = .ok q)
theorem zk_de_ok {b : ByteArray} {pc : Nat} {q : Instr × Nat} (h : zk_de b pc q = true) : decode b pc = .ok q := by
  unfold zk_de at h
  exact of_decide_eq_true h
def zk_ftb (b : ByteArray) (FTl : List (Nat × List (Nat × Instr × Nat))) : Bool := FTl.all (fun q => q.2.all (fun z => zk_de b z.1 z.2))
def zk_deq (b : ByteArray) (pc : Nat) (q : Instr × Nat) : Prop := decode b pc = .ok q
theorem zk_deq_of {b : ByteArray} {pc : Nat} {q : Instr × Nat} (h : zk_de b pc q = true) : zk_deq b pc q := zk_de_ok h
set_option maxHeartbeats 100000 in
theorem zk_ftb_ok0 {b : ByteArray} {FTl : List (Nat × List (Nat × Instr × Nat))} (h : zk_ftb b FTl = true) (pc : Nat) (q : Instr × Nat) (hq : zk_bl FTl pc = some q) : zk_de b pc q = true := by
  obtain ⟨z, z1, z2⟩ := zk_bl_mem hq
  have h1 : z.2.all (fun z => zk_de b z.1 z.2) = true := List.all_eq_true.mp h z z1
  have h2 : zk_de b pc q = true := List.all_eq_true.mp h1 (pc, q) z2
  exact h2
set_option maxHeartbeats 100000 in
theorem zk_ftb_ok {b : ByteArray} {FTl : List (Nat × List (Nat × Instr × Nat))} (h : zk_ftb b FTl = true) (pc : Nat) (q : Instr × Nat) (hq : zk_bl FTl pc = some q) : decode b pc = .ok q := zk_deq_of (zk_ftb_ok0 h pc q hq)
def zk_wd (D : zD) (cl : List vw_C) (ft : Nat → Nat → FieldType) (TT : Nat → zS) (PF : Nat → List (Nat × Nat)) (PB : Nat → List Nat) (SU : zSU) (UL : Nat → zA → List zA) : Prop := D.TT = TT ∧ (∀ a n, ¬ D.SC a n) ∧ zk_stb D PF PB SU ∧ (∀ E : zE, zk_ULok D E UL) ∧ zk_clok D cl ft
/-- a class's pool: fields, ints, longs, classes made, classes of arrays made, Object's constructor -/
abbrev zL : Type := List (Nat × Nat × Nat) × List (Nat × Int) × List (Nat × Int) × List (Nat × Nat × Nat) × List (Nat × Nat) × Option Nat
def zk_pool (cl : List vw_C) (own : String) (L : zL) : Prop :=
  (∀ (s : State) (args : Array Value), (∀ w ∈ zw, w.before args s = true) → zk_wok cl own (zk_al L.1) (zk_al L.2.1) (zk_al L.2.2.1) (zk_al L.2.2.2.1) (zk_al L.2.2.2.2.1) s args) ∧
  ∀ x, L.2.2.2.2.2 = some x → Cond.methodLink own x Lib.objectInit ∈ zw ∧ Cond.instanceMethod Lib.objectInit ∈ zw ∧ Cond.code Lib.objectInit ⟨#[0xb1]⟩ 1 none ∈ zw
/-- hints of a method: annotations, freezes, lemmas, types of new arrays, first measure -/
abbrev zH : Type := List (Nat × List zA) × List (Nat × List (Nat × Nat)) × List (Nat × List (Nat × Nat × Int)) × List (Nat × Nat) × Int
def zk_ex (cl : List vw_C) (ft : Nat → Nat → FieldType) (TT : Nat → zS) (PF : Nat → List (Nat × Nat)) (PB : Nat → List Nat) (SU : zSU) (L : zL) (oc : Nat) (ini : Bool) (M : zM) (FTl : List (Nat × List (Nat × Instr × Nat))) (h : zH) (UL : Nat → zA → List zA) (HX : List zX) (fuel : Nat) : Nat → zA → Bool :=
  zk_exec cl ft TT PF PB SU (zk_al L.1) (zk_al L.2.1) (zk_al L.2.2.1) (zk_al L.2.2.2.1) (zk_al L.2.2.2.2.1) oc ini M.n M.cs.1.1 M.rm.cells M.rm.slots M.cs.2.2.2.1.1 M.cs.2.2.2.1.2 (zk_bl FTl) (zk_ans h.1) (zk_fzs h.2.1) (zk_fzs h.2.2.1) UL (zk_al h.2.2.2.1) (zk_XTc TT PF M.cs.2.2.2.1.1 PB M.cs.2.2.2.1.2 M.rt M.rm M.cs L.2.2.2.2.2 HX) fuel
def zk_run (cl : List vw_C) (ft : Nat → Nat → FieldType) (TT : Nat → zS) (PF : Nat → List (Nat × Nat)) (PB : Nat → List Nat) (SU : zSU) (L : zL) (oc : Nat) (ini : Bool) (M : zM) (FTl : List (Nat × List (Nat × Instr × Nat))) (h : zH) (UL : Nat → zA → List zA) (HX : List zX) (fuel : Nat) : Bool :=
  zk_ex cl ft TT PF PB SU L oc ini M FTl h UL HX fuel 0 (zk_A0 M.cs h.2.2.2.2) && h.1.all (fun q => q.2.all (fun B => zk_ex cl ft TT PF PB SU L oc ini M FTl h UL HX fuel q.1 B && zk_pos B.2.2.1 (B.2.2.2.2.2.1.1, B.2.2.2.2.2.1.2 + 1)))
def zk_idb (cl : List vw_C) (own : String) (oc : Nat) (ini : Bool) (M : zM) : Bool := plainName M.y.cls && (decide (M.y.cls = own) && ((!ini || (decide (own = zk_cn cl oc) && decide (M.y.name = "<init>"))) && decide (zk_ln M.cs.2.1.1 ≤ M.n)))
def zk_noUL : Nat → zA → List zA := fun _ A => [A]
theorem zk_noUL_ok {D : zD} {E : zE} : zk_ULok D E zk_noUL := fun _ A r _ _ _ _ _ I => ⟨A, List.mem_singleton.mpr rfl, r, I, rfl⟩
theorem zk_meth {D : zD} {cl : List vw_C} {ft : Nat → Nat → FieldType} {TT : Nat → zS} {PF : Nat → List (Nat × Nat)} {PB : Nat → List Nat} {SU : zSU} {l : Launch} {L : zL} {own : String} {oc : Nat} {ini : Bool} {M : zM} {FTl : List (Nat × List (Nat × Instr × Nat))} {h : zH} {UL : Nat → zA → List zA} {HX : List zX} {fuel : Nat}
    (hD : zk_wd D cl ft TT PF PB SU UL) (hL : zk_pool cl own L) (hid : zk_idb cl own oc ini M = true) (hFT : zk_ftb M.b FTl = true) (hC : ∀ x ∈ HX, zk_con D cl l x.2.2.2.y (zk_ws x.2.2.2) x.2.2.2.rm x.2.2.2.cs ∧ zk_hw cl own M.rm x) (hrun : zk_run cl ft TT PF PB SU L oc ini M FTl h UL HX fuel = true) : zk_con D cl l M.y (zk_ws M) M.rm M.cs := by
  obtain ⟨d1, d2, d3, hUL, d4⟩ := hD
  simp only [zk_idb, Bool.and_eq_true, decide_eq_true_eq, Bool.or_eq_true, Bool.not_eq_true'] at hid
  obtain ⟨i1, i2, i3, i4⟩ := hid
  simp only [zk_run, Bool.and_eq_true] at hrun
  obtain ⟨r1, r2⟩ := hrun
  unfold zk_ex at r1 r2
  subst d1
  refine zk_con_of (FX := zk_al L.1) (CX := zk_al L.2.1) (LX := zk_al L.2.2.1) (NX := zk_al L.2.2.2.1) (NA := zk_al L.2.2.2.2.1) (oc := oc) (ini := ini) (FT := zk_bl FTl) (AN := zk_ans h.1) (FZ := zk_fzs h.2.1) (LM := zk_fzs h.2.2.1) (UL := UL) (AT := zk_al h.2.2.2.1) (XT := zk_XTc D.TT PF M.cs.2.2.2.1.1 PB M.cs.2.2.2.1.2 M.rt M.rm M.cs L.2.2.2.2.2 HX) (M := h.2.2.2.2) (fuel := fuel) (ft := ft) (PF := PF) (PB := PB) (SU := SU) (maxL := M.n) (rt := M.rt) (cc := M.b) (own := own) i1 rfl i2 d4 d2 d3 (zk_ftb_ok hFT) ?_ ?_ i4 ?_ ?_ (fun r ty H M => hUL _) ?_ r1
  · intro hi; rcases i3 with i3 | i3
    · rw [i3] at hi; cases hi
    · exact i3.1
  · intro hi; rcases i3 with i3 | i3
    · rw [i3] at hi; cases hi
    · exact i3.2
  · intro s args hw
    exact hL.1 s args (fun w h => hw w (List.mem_cons_of_mem _ h))
  · intro p e s m args below meth c r ty M' hx hb hml hown hts hk hr hlocks
    exact zk_XTc_ok hx hb hml hown hts hk hr hlocks d3.1 hL.2 hC
  · intro n Bn hBn
    unfold zk_ans at hBn
    split at hBn
    · cases hBn
    · rename_i l' hl
      have h1 := List.all_eq_true.mp r2 _ (zk_al_mem hl)
      have h2 := List.all_eq_true.mp h1 _ hBn
      simp only [Bool.and_eq_true] at h2
      exact h2
def zk_noSU : zSU := fun _ _ => []
theorem zk_noSU_ok {D : zD} {E : zE} : zk_SUok D E zk_noSU := ⟨fun _ _ _ _ _ _ _ _ _ _ _ _ _ _ _ _ _ _ _ _ _ _ _ _ _ q h => (by cases h), fun _ _ _ _ _ _ _ _ _ _ _ _ _ _ _ _ _ _ _ _ _ _ _ _ _ _ _ q h => (by cases h)⟩
