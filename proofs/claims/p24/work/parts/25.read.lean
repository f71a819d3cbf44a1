/-! THE CHECKER, 10: what is read off the heap. -/
def zk_cn (cl : List vw_C) (ci : Nat) : String := match cl[ci]? with | some q => q.1 | none => ""
/-- what the places of an array of a kind are -/
def zk_et (cl : List vw_C) (k : Nat) : FieldType := match k with
  | 1 => .int | 2 => .byte | 3 => .boolean | 4 => .long | k => .object (zk_cn cl (k - 10))
/-- the tables say of the classes what the checker takes them for -/
def zk_env (D : zD) (cl : List vw_C) (ft : Nat → Nat → FieldType) (s : State) (args : Array Value) : Prop :=
  (∀ (ci : Nat) (q : vw_C), cl[ci]? = some q → u_Kn s q.1 q.2.1 q.2.2 (D.dC ci) (D.dI ci) ∧ (∀ w ∈ u_ws q.1 q.2.1 q.2.2, w.before args s = true) ∧ (∀ k, k < q.2.2 → parseFieldDescriptor (q.2.1 k).2.2.1 = some (ft ci k)) ∧ (∀ a, a < q.2.2 → ∀ b, b < q.2.2 → a ≠ b → (q.2.1 a).2.1 ≠ (q.2.1 b).2.1) ∧ ∀ a, a < q.2.2 → (q.2.1 a).1 = q.1) ∧
  (∀ k : Nat, k ∈ [1, 2, 3, 4, 10, 12, 13, 14, 19] → ∃ (kA : Class) (comp : ClassId), s.vm.classes[D.cA k]? = some kA ∧ kA.kind = .array comp (zk_et cl k) ∧ (10 ≤ k → s.vm.findClass (zk_cn cl (k - 10)) = some comp) ∧ s.vm.findClass ("[" ++ (zk_et cl k).toString) = some (D.cA k)) ∧
  (∀ t : Nat, (D.TT t).1 ≠ 0 → (D.TT t).1 ≠ 9 → (D.TT t).1 ∈ [1, 2, 3, 4, 10, 12, 13, 14, 19]) ∧
  ∀ t : Nat, (D.TT t).1 = 0 → ∃ q : vw_C, cl[(D.TT t).2.1]? = some q ∧ (D.TT t).2.2.length = q.2.2
def zk_rtl : List (Nat × Nat) → Nat → Option Nat
  | [], _ => none
  | q :: l, x => if q.1 = x then some q.2 else zk_rtl l x
theorem zk_rtl_mem : ∀ {l : List (Nat × Nat)} {x t : Nat}, zk_rtl l x = some t → (x, t) ∈ l
  | [], _, _, h => by simp [zk_rtl] at h
  | y :: l, x, q, h => by
    unfold zk_rtl at h
    split at h
    · rename_i h1
      cases h
      rw [← h1]
      exact List.mem_cons_self
    · exact List.mem_cons_of_mem _ (zk_rtl_mem h)
def zk_fml : List (Nat × Nat × Nat × zV) → Nat → Nat → Nat → Option zV
  | [], _, _, _ => none
  | q :: l, x, ci, k => if q.1 = x ∧ q.2.1 = ci ∧ q.2.2.1 = k then some q.2.2.2 else zk_fml l x ci k
theorem zk_fml_mem : ∀ {l : List (Nat × Nat × Nat × zV)} {x ci k : Nat} {v : zV}, zk_fml l x ci k = some v → (x, ci, k, v) ∈ l
  | [], _, _, _, _, h => by simp [zk_fml] at h
  | y :: l, x, ci, k, q, h => by
    unfold zk_fml at h
    split at h
    · rename_i h1
      cases h
      obtain ⟨a, b, c⟩ := h1
      rw [← a, ← b, ← c]
      exact List.mem_cons_self
    · exact List.mem_cons_of_mem _ (zk_fml_mem h)
def zk_eml : List (Nat × Nat × zV × zV) → Nat → Nat → zV → Option zV
  | [], _, _, _ => none
  | q :: l, x, t, i => if q.1 = x ∧ q.2.1 = t ∧ q.2.2.1.2.1 = i.2.1 ∧ q.2.2.1.2.2 = i.2.2 then some q.2.2.2 else zk_eml l x t i
theorem zk_eml_mem : ∀ {l : List (Nat × Nat × zV × zV)} {x t : Nat} {i v : zV}, zk_eml l x t i = some v → ∃ j : zV, (x, t, j, v) ∈ l ∧ j.2.1 = i.2.1 ∧ j.2.2 = i.2.2
  | [], _, _, _, _, h => by simp [zk_eml] at h
  | y :: l, x, t, i, q, h => by
    unfold zk_eml at h
    split at h
    · rename_i h1
      cases h
      obtain ⟨a, b, c⟩ := h1
      rw [← a, ← b]
      exact ⟨y.2.2.1, List.mem_cons_self, c⟩
    · obtain ⟨j, h1, h2⟩ := zk_eml_mem h
      exact ⟨j, List.mem_cons_of_mem _ h1, h2⟩
def zk_rwl : List (Nat × Nat × List zV) → Nat → Option (Nat × List zV)
  | [], _ => none
  | q :: l, x => if q.1 = x then some q.2 else zk_rwl l x
theorem zk_rwl_mem : ∀ {l : List (Nat × Nat × List zV)} {x : Nat} {q : Nat × List zV}, zk_rwl l x = some q → (x, q) ∈ l
  | [], _, _, h => by simp [zk_rwl] at h
  | y :: l, x, q, h => by
    unfold zk_rwl at h
    split at h
    · rename_i h1
      cases h
      rw [← h1]
      exact List.mem_cons_self
    · exact List.mem_cons_of_mem _ (zk_rwl_mem h)
def zk_lnl : List (Nat × zV) → Nat → Option zV := zk_find
/-- a new symbol for what was read: its interval, or its type -/
def zk_rdP (t n : Nat) (i : Int × Int) (P : zP) : zP := if t = 2 then P else ((n, i.1, i.2) :: P.1, P.2)
def zk_rdT (t n : Nat) (i : Int × Int) (l : List (Nat × Nat)) : List (Nat × Nat) := if t = 2 then (n, i.1.toNat) :: l else l
def zk_rd (t : Nat) (i : Int × Int) (fm : List (Nat × Nat × Nat × zV)) (em : List (Nat × Nat × zV × zV)) (S : List zV) (A : zA) : zA :=
  (A.1, (t, A.2.2.2.2.1, 0) :: S, zk_rdP t A.2.2.2.2.1 i A.2.2.1, (zk_rdT t A.2.2.2.2.1 i A.2.2.2.1.1, fm ++ A.2.2.2.1.2.1, em ++ A.2.2.2.1.2.2.1, A.2.2.2.1.2.2.2), (A.2.2.2.2.1 + 1, A.2.2.2.2.2))
section
variable {D : zD} {E : zE} {A : zA} {r : Nat → Int} {ty : Nat → Nat} {H : Heap} {locs : List Loc} {ls : Array Slot} {st : List Value}
theorem zk_I_rd {t : Nat} {i : Int × Int} {z : Int} {fm : List (Nat × Nat × Nat × zV)} {em : List (Nat × Nat × zV × zV)} {S : List zV} (hok : zk_ok E.2.1.1 A = true) (h : zk_I D E A r ty H locs ls st) (hS : ∀ v ∈ S, v ∈ A.2.1)
    (hz : if t = 2 then 0 ≤ z ∧ ty z.toNat = i.1.toNat + 1 else i.1 ≤ z ∧ z ≤ i.2) (hfm : ∀ q ∈ fm, zk_fm D (zk_u r A.2.2.2.2.1 z) ty H q) (hem : ∀ q ∈ em, zk_em D (zk_u r A.2.2.2.2.1 z) ty H q) :
    zk_I D E (zk_rd t i fm em S A) (zk_u r A.2.2.2.2.1 z) ty H locs ls (zk_k t z :: S.map (zk_c r)) := by
  have hn := zk_I_new (r' := zk_u r A.2.2.2.2.1 z) hok (fun y hy => zk_u_ne hy) h
  have eS : S.map (zk_c (zk_u r A.2.2.2.2.1 z)) = S.map (zk_c r) := by
    apply List.map_congr_left
    intro v hv
    exact zk_c_new (zk_okS hok (hS v hv))
  obtain ⟨a1, a2, a3, a4, a5, a6, a7, a8, a9, a10⟩ := hn
  obtain ⟨b1, b2, b3, b4⟩ := a4
  refine ⟨a1, ?_, ?_, ⟨?_, ?_, ?_, b4⟩, a5, a6, a7, a8, a9, a10⟩
  · show _ = ((t, A.2.2.2.2.1, 0) :: S).map _
    rw [List.map_cons, zk_c_n, eS]
  · show zk_P _ (zk_rdP t A.2.2.2.2.1 i A.2.2.1)
    unfold zk_rdP
    split
    · exact a3
    · rename_i ht
      rw [if_neg ht] at hz
      refine ⟨fun q hq => ?_, a3.2⟩
      rcases List.mem_cons.mp hq with rfl | hq
      · rw [zk_u_n]; exact hz
      · exact a3.1 q hq
  · show ∀ q ∈ zk_rdT t A.2.2.2.2.1 i A.2.2.2.1.1, _
    unfold zk_rdT
    split
    · rename_i ht
      rw [if_pos ht] at hz
      intro q hq
      rcases List.mem_cons.mp hq with rfl | hq
      · unfold zk_rt; rw [zk_u_n]; exact hz
      · exact b1 q hq
    · exact b1
  · intro q hq
    rcases List.mem_append.mp hq with hq | hq
    · exact hfm q hq
    · exact b2 q hq
  · intro q hq
    rcases List.mem_append.mp hq with hq | hq
    · exact hem q hq
    · exact b3 q hq
/-- getfield -/
def zk_get (TT : Nat → zS) (FX : Nat → Option (Nat × Nat)) (n0 : Nat) (K : Nat → zA → Bool) (pc idx : Nat) (A : zA) : Bool :=
  match A.2.1, FX idx with
  | v :: S, some f => decide (v.1 = 2 ∧ v.2.2 = 0) && (match zk_rwl A.2.2.2.1.2.2.2.1 v.2.1 with
    | some q => decide (q.1 = f.1 ∧ q.1 < 1000) && (match q.2[f.2]? with | some u => K (pc + 3) (zk_ss (u :: S) A) | none => false)
    | none => (match zk_fml A.2.2.2.1.2.1 v.2.1 f.1 f.2 with
      | some u => K (pc + 3) (zk_ss (u :: S) A)
      | none => (match zk_rtl A.2.2.2.1.1 v.2.1 with
        | some t => decide ((TT t).1 = 0 ∧ (TT t).2.1 = f.1) && (match (TT t).2.2[f.2]? with
          | some q => zk_ok n0 A && q.2.all (fun i => K (pc + 3) (zk_rd q.1 i [(v.2.1, f.1, f.2, (q.1, A.2.2.2.2.1, 0))] [] S A))
          | none => false)
        | none => false)))
  | _, _ => false
end
section
variable {p : Program} {l : Launch} {e : Env} {R : Room} {s : State} {m : MethodId} {args : Array Value} {below : List Frame} {meth : Method} {c : Code} {Q : State → Prop} {cc : ByteArray} {pc : Nat} {D : zD} {E : zE} {A : zA} {K : Nat → zA → Bool} {cl : List vw_C} {ft : Nat → Nat → FieldType} {own : String} {FX : Nat → Option (Nat × Nat)}
/-- the pool's entries of fields -/
def zk_FX (cl : List vw_C) (FX : Nat → Option (Nat × Nat)) (own : String) (s : State) (args : Array Value) : Prop := ∀ (idx : Nat) (f : Nat × Nat), FX idx = some f → ∃ q : vw_C, cl[f.1]? = some q ∧ f.2 < q.2.2 ∧ (Cond.fieldLink own idx (q.2.1 f.2).1 (q.2.1 f.2).2.1 (q.2.1 f.2).2.2.1).before args s = true
/-- the machine reads field k of a cell of class ci -/
theorem zk_getf (hx : p.tables.exec = Jvm.exec) (hb : c.code = cc) (hown : s.vm.findClass own = some m.cls) (hV : zk_env D cl ft s args) (hFX : zk_FX cl FX own s args) {idx : Nat} {f : Nat × Nat} (hf : FX idx = some f) {H : Heap} {locs : List Loc} {cells slots a : Nat} {ls : Array Slot} {rest : List Value} {x : Value} {cell : Cell} (hc : H[a]? = some cell) (hvm : cell.vm = .none) (hs : cell.slots[D.dI f.1 f.2]? = some x) (hd : decode cc pc = .ok (.getfield idx, 3))
    (k : W p l e R s m args below meth c H locs cells slots Q (F0 m (pc + 3) ls (x :: rest))) : W p l e R s m args below meth c H locs cells slots Q (F0 m pc ls (.ref a :: rest)) := by
  obtain ⟨q, h1, h2, h3⟩ := hFX idx f hf
  obtain ⟨⟨hS, hfc, kC, hkC, hkind⟩, hl, hty, hnm, -⟩ := hV.1 f.1 q h1
  obtain ⟨cf, kf, fi, fd, hi, hsl⟩ := hS f.2 h2
  refine W.getf hx hb hown h3 hi (u_facts hfc hkC (u_lays (fun w hw => hl w hw) (fun w hw => hw) h2) hi).1 hc (by rw [hvm]; exact fun h => by cases h) (v := x) ?_ rfl rfl hd k
  rw [hsl]; exact hs
theorem zk_ref {r : Nat → Int} {v : zV} (h : v.1 = 2 ∧ v.2.2 = 0) : zk_c r v = .ref (r v.2.1).toNat := by
  unfold zk_c zk_n; rw [h.1, h.2, Int.add_zero]; rfl
theorem zk_get_ok {n0 : Nat} (hx : p.tables.exec = Jvm.exec) (hb : c.code = cc) (hown : s.vm.findClass own = some m.cls) (hV : zk_env D cl ft s args) (hFX : zk_FX cl FX own s args) (hn0 : n0 = E.2.1.1) (hK : ∀ (n : Nat) (A : zA), K n A = true → zk_W p l e R s m args below meth c Q D E n A) {idx : Nat} (hd : decode cc pc = .ok (.getfield idx, 3)) (h : zk_get D.TT FX n0 K pc idx A = true) : zk_W p l e R s m args below meth c Q D E pc A := by
  unfold zk_get at h
  split at h
  rotate_left
  · cases h
  rename_i v S f hS hf
  simp only [Bool.and_eq_true, decide_eq_true_eq] at h
  obtain ⟨hv, h⟩ := h
  intro r ty H locs ls st I
  have h2 := I.2.1
  subst h2
  rw [hS, List.map_cons, zk_ref hv]
  obtain ⟨g1, g2, g3, g4, g5⟩ := I.2.2.2.1
  split at h
  · rename_i q hq
    simp only [Bool.and_eq_true, decide_eq_true_eq] at h
    obtain ⟨hc, h⟩ := h
    split at h
    · rename_i u hu
      obtain ⟨-, -, -, cell, c1, c2, c3⟩ := g4 _ (zk_rwl_mem hq)
      rw [if_pos hc.2] at c3
      have c4 := c3.2 _ _ hu
      rw [show ((v.2.1, q) : Nat × Nat × List zV).2.1 = q.1 from rfl, hc.1] at c4
      refine zk_getf hx hb hown hV hFX hf c1 c2 c4 hd ?_
      exact hK _ _ h r ty H locs ls _ (zk_I_ss I)
    · cases h
  · split at h
    · rename_i u hu
      obtain ⟨⟨t, t1, t2, t3, t4⟩, cell, c1, c2⟩ := g2 _ (zk_fml_mem hu)
      have hT := I.2.2.2.2.1.2 _ _ t1
      rw [if_neg (by rw [t2]; decide)] at hT
      have hC := hT.2
      unfold zk_C at hC
      rw [if_pos t2] at hC
      obtain ⟨cell', d1, d2, d3, -⟩ := hC
      cases c1.symm.trans d1
      refine zk_getf hx hb hown hV hFX hf c1 d3 c2 hd ?_
      exact hK _ _ h r ty H locs ls _ (zk_I_ss I)
    · split at h
      rotate_left
      · cases h
      rename_i t ht
      simp only [Bool.and_eq_true, decide_eq_true_eq] at h
      obtain ⟨⟨t2, t3⟩, h⟩ := h
      split at h
      rotate_left
      · cases h
      rename_i q hq
      simp only [Bool.and_eq_true, List.all_eq_true] at h
      obtain ⟨hok, h⟩ := h
      obtain ⟨p1, t1⟩ := g1 _ (zk_rtl_mem ht)
      have hT := I.2.2.2.2.1.2 _ _ t1
      rw [if_neg (by rw [t2]; decide)] at hT
      have hC := hT.2
      unfold zk_C at hC
      rw [if_pos t2] at hC
      obtain ⟨cell, d1, d2, d3, d4⟩ := hC
      obtain ⟨x, x1, z, rfl, i, hi, hz⟩ := d4 _ _ hq
      rw [t3] at x1
      refine zk_getf hx hb hown hV hFX hf d1 d3 x1 hd ?_
      have hok' : zk_ok E.2.1.1 A = true := hn0 ▸ hok
      have hvn : v.2.1 < A.2.2.2.2.1 := zk_okS hok' (by rw [hS]; simp)
      refine hK _ _ (h i hi) _ ty H locs ls _ (zk_I_rd hok' I (fun u hu => by rw [hS]; simp [hu]) hz ?_ (fun q hq => by cases hq))
      intro q' hq'
      rw [List.mem_singleton.mp hq']
      unfold zk_fm
      dsimp only
      rw [zk_u_ne hvn, zk_c_n]
      exact ⟨⟨t, t1, t2, t3, (List.getElem?_eq_some_iff.mp hq).1⟩, cell, d1, x1⟩
end
