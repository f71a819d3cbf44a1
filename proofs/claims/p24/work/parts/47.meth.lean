/-! THE CHECKER, 31: a method as data. -/
def zk_al {α : Type} : List (Nat × α) → Nat → Option α
  | [], _ => none
  | q :: l, x => if Nat.beq q.1 x then some q.2 else zk_al l x
theorem zk_al_mem {α : Type} : ∀ {l : List (Nat × α)} {x : Nat} {v : α}, zk_al l x = some v → (x, v) ∈ l
  | [], _, _, h => by simp [zk_al] at h
  | q :: l, x, v, h => by
    unfold zk_al at h
    split at h
    · rename_i h1
      cases h
      rw [← Nat.eq_of_beq_eq_true h1]
      exact List.mem_cons_self
    · exact List.mem_cons_of_mem _ (zk_al_mem h)
/-- a table in blocks: (bound, block) -/
def zk_bl {α : Type} : List (Nat × List (Nat × α)) → Nat → Option α
  | [], _ => none
  | q :: l, x => if Nat.blt x q.1 then zk_al q.2 x else zk_bl l x
theorem zk_bl_mem {α : Type} : ∀ {l : List (Nat × List (Nat × α))} {x : Nat} {v : α}, zk_bl l x = some v → ∃ q ∈ l, (x, v) ∈ q.2
  | [], _, _, h => by simp [zk_bl] at h
  | q :: l, x, v, h => by
    unfold zk_bl at h
    split at h
    · exact ⟨q, List.mem_cons_self, zk_al_mem h⟩
    · obtain ⟨q', h1, h2⟩ := zk_bl_mem h
      exact ⟨q', List.mem_cons_of_mem _ h1, h2⟩
def zk_ans (ANl : List (Nat × List zA)) (n : Nat) : List zA := match zk_al ANl n with | none => [] | some l => l
def zk_fzs {α : Type} (l : List (Nat × List α)) (n : Nat) : List α := match zk_al l n with | none => [] | some l => l
def zk_de (b : ByteArray) (pc : Nat) (q : Instr × Nat) : Bool := decide (decode b pc = .ok q)
theorem zk_de_ok {b : ByteArray} {pc : Nat} {q : Instr × Nat} (h : zk_de b pc q = true) : decode b pc = .ok q := by
  unfold zk_de at h
  exact of_decide_eq_true h
def zk_ftb (b : ByteArray) (FTl : List (Nat × List (Nat × Instr × Nat))) : Bool := FTl.all (fun q => q.2.all (fun z => zk_de b z.1 z.2))
def zk_deq (b : ByteArray) (pc : Nat) (q : Instr × Nat) : Prop := decode b pc = .ok q
theorem zk_deq_of {b : ByteArray} {pc : Nat} {q : Instr × Nat} (h : zk_de b pc q = true) : zk_deq b pc q := zk_de_ok h
set_option maxHeartbeats 100000 in
theorem zk_ftb_ok0 {b : ByteArray} {FTl : List (Nat × List (Nat × Instr × Nat))} (h : zk_ftb b FTl = true) (pc : Nat) (q : Instr × Nat) (hq : zk_bl FTl pc = some q) : zk_de b pc q = true := by
  obtain ⟨z, z1, z2⟩ := zk_bl_mem hq
  have h1 : z.2.all (fun z => zk_de b z.1 z.2) = true := List.all_eq_true.mp h z z1
  have h2 : zk_de b pc q = true := List.all_eq_true.mp h1 (pc, q) z2
  exact h2
set_option maxHeartbeats 100000 in
theorem zk_ftb_ok {b : ByteArray} {FTl : List (Nat × List (Nat × Instr × Nat))} (h : zk_ftb b FTl = true) (pc : Nat) (q : Instr × Nat) (hq : zk_bl FTl pc = some q) : decode b pc = .ok q := zk_deq_of (zk_ftb_ok0 h pc q hq)
/-- the operation of a recorded fact about ints -/
def zk_ro (o : Nat) : Nat := if o = 25 then 1 else if o = 26 then 0 else if o = 27 then 2 else 4
/-- further recorded operations: what is done, the kinds of its two numbers -/
def zk_rn (o : Nat) : Nat × Nat × Nat := if o = 31 then (5, 0, 0) else if o = 32 then (6, 0, 0) else if o = 33 then (8, 0, 0) else if o = 34 then (9, 0, 0) else if o = 35 then (10, 0, 0) else if o = 36 then (3, 0, 0) else if o = 41 then (25, 1, 1) else if o = 42 then (26, 1, 1) else if o = 43 then (28, 1, 0) else if o = 44 then (29, 1, 0) else if o = 45 then (30, 1, 0) else if o = 46 then (20, 1, 1) else (27, 1, 1)
def zk_nl : List Nat := [31, 32, 33, 34, 35, 36, 41, 42, 43, 44, 45, 46, 47]
/-- recorded arithmetic, and absolute values: pure facts -/
def zk_rc (D : zD) : Prop := (∀ o, o ∈ [21, 22, 23, 24] → ∀ (ty : Nat → Nat) (H : Heap) (a b c : Int), D.OP o ty H [a, b, c] ↔ zk_f o (.long (Int64.ofInt a)) (.long (Int64.ofInt b)) = some (.long (Int64.ofInt c))) ∧ (∀ (ty : Nat → Nat) (H : Heap) (y a : Int), (D.OP 60 ty H [y, a] ↔ a = (y.natAbs : Int))) ∧ (∀ o, o ∈ [25, 26, 27, 28] → ∀ (ty : Nat → Nat) (H : Heap) (a b c : Int), D.OP o ty H [a, b, c] ↔ zk_f (zk_ro o) (.int (Int32.ofInt a)) (.int (Int32.ofInt b)) = some (.int (Int32.ofInt c))) ∧ (∀ o, o ∈ zk_nl → ∀ (ty : Nat → Nat) (H : Heap) (a b c : Int), D.OP o ty H [a, b, c] ↔ zk_f (zk_rn o).1 (zk_k (zk_rn o).2.1 a) (zk_k (zk_rn o).2.2 b) = some (zk_k (zk_rn o).2.1 c)) ∧ ∀ (ty : Nat → Nat) (H : Heap) (a c : Int), D.OP 51 ty H [a, c] ↔ (Int32.ofInt a).toInt8.toInt32 = Int32.ofInt c
def zk_wd (D : zD) (cl : List vw_C) (ft : Nat → Nat → FieldType) (TT : Nat → zS) (PF : Nat → List (Nat × Nat)) (PB : Nat → List Nat) (SU : zSU) (UL : Nat → Nat → zA → List zA) : Prop := D.TT = TT ∧ (∀ a n, ¬ D.SC a n) ∧ zk_stb D PF PB SU ∧ (∀ E : zE, zk_ULok D E UL) ∧ zk_rc D ∧ zk_clok D cl ft
/-- a class's pool: fields, ints, longs, classes made, classes of arrays made, Object's constructor -/
abbrev zL : Type := List (Nat × Nat × Nat) × List (Nat × Int) × List (Nat × Int) × List (Nat × Nat × Nat) × List (Nat × Nat) × Option Nat
def zk_pool (cl : List vw_C) (own : String) (L : zL) : Prop :=
  (∀ (s : State) (args : Array Value), (∀ w ∈ zw, w.before args s = true) → zk_wok cl own (zk_al L.1) (zk_al L.2.1) (zk_al L.2.2.1) (zk_al L.2.2.2.1) (zk_al L.2.2.2.2.1) s args) ∧
  ∀ x, L.2.2.2.2.2 = some x → Cond.methodLink own x Lib.objectInit ∈ zw ∧ Cond.instanceMethod Lib.objectInit ∈ zw ∧ Cond.code Lib.objectInit ⟨#[0xb1]⟩ 1 none ∈ zw
