/-! THE CHECKER, 35: rules: further facts about what places hold. A rule looks for facts, known places (1, type), known fields (2, type, field) and locals (3, local), checks differences of their numbers, and makes a fact at a store, or splits a state between steps. -/
/-- what a place holds, as a number -/
def zi (H : Heap) (a k : Nat) : Int := match H[a]? with
  | some c => (match c.slots[k]? with
    | some (.int x) => x.toInt
    | some (.long x) => x.toInt
    | some (.ref b) => (b : Int)
    | _ => 0)
  | none => 0
def zr_rg (A : zA) (v : zV) : Bool := if v.1 = 0 then zk_inb A.2.2.1 v (-2147483648) 2147483647 else if v.1 = 1 then zk_inb A.2.2.1 v (-9223372036854775808) 9223372036854775807 else decide (v.1 = 2 ∧ v.2.2 = 0) && (zk_rtl A.2.2.2.1.1 v.2.1).isSome
abbrev zRp : Type := Nat × Nat × Nat
/-- the numbers of what is looked for -/
def zr_cd (TT : Nat → zS) (A : zA) (p : zRp) : List (List zV) :=
  if p.1 = 0 then A.2.2.2.1.2.2.2.2.2.filterMap (fun q => if Nat.beq q.1 p.2.1 then some q.2 else none)
  else if p.1 = 1 then A.2.2.2.1.2.2.1.filterMap (fun q => if Nat.beq q.2.1 p.2.1 && (zr_rg A q.2.2.2 && (zk_rtl A.2.2.2.1.1 q.1).isSome) then some [(2, q.1, 0), q.2.2.1, q.2.2.2] else none)
  else if p.1 = 3 then (match (if p.2.2 = 0 then zk_find A.1 p.2.1 else A.2.1[p.2.1]?) with | some v => [[v]] | none => [])
  else A.2.2.2.1.2.1.filterMap (fun q => match zk_rtl A.2.2.2.1.1 q.1 with
    | some t => if Nat.beq t p.2.1 && (Nat.beq q.2.1 (TT t).2.1 && (Nat.beq q.2.2.1 p.2.2 && zr_rg A q.2.2.2)) then some [(2, q.1, 0), q.2.2.2] else none
    | none => none)
def zr_g (e : List zV) (k : Nat) : zV := e.getD k (0, 0, 0)
/-- the differences between the numbers that are there already -/
def zr_cp (P : zP) (e : List zV) (cs : List (Nat × Nat × Int)) : Bool := cs.all (fun c => Nat.ble e.length c.1 || (Nat.ble e.length c.2.1 || zk_leb P (zr_g e c.1) (zr_g e c.2.1) c.2.2))
def zr_cb (TT : Nat → zS) (A : zA) (cs : List (Nat × Nat × Int)) : List zV → List zRp → List (List (List zV))
  | _, [] => [[]]
  | e, p :: ps => (zr_cd TT A p).flatMap (fun l => if zr_cp A.2.2.1 (e ++ l) cs then (zr_cb TT A cs (e ++ l) ps).map (fun L => l :: L) else [])
def zr_cq (P : zP) (e : List zV) (cs : List (Nat × Nat × Int)) : Bool := cs.all (fun c => zk_leb P (zr_g e c.1) (zr_g e c.2.1) c.2.2)
def zr_t (e : List zV) (t : Nat × Int) : zV := ((zr_g e t.1).1, (zr_g e t.1).2.1, (zr_g e t.1).2.2 + t.2)
abbrev zRf : Type := Nat × List (Nat × Int)
def zr_f (e : List zV) (f : zRf) : Nat × List zV := (f.1, f.2.map (zr_t e))
/-- a rule at a store: (0, type, field) or (1, type, 0); numbers 0: 0, 1: what is written, 2: the cell, 3: the index (of an array) -/
abbrev zRs : Type := (Nat × Nat × Nat) × List zRp × List (Nat × Nat × Int) × zRf
/-- a rule between steps: its number, what is looked for, differences, then one of: differences and facts -/
abbrev zRu : Type := Nat × List zRp × List (Nat × Nat × Int) × List (List (Nat × Nat × Int) × List zRf)
def zr_hd (key : Nat × Nat × Nat) (S : List zV) : Option (List zV) := match S with
  | w :: x :: S => if key.1 = 0 then some [(0, 0, 0), w, x] else (match S with | v :: _ => some [(0, 0, 0), w, v, x] | [] => none)
  | _ => none
def zr_s1 (TT : Nat → zS) (R : zRs) (h : List zV) (A : zA) : List (Nat × List zV) := match (zr_cb TT A R.2.2.1 h R.2.1).find? (fun L => zr_cq A.2.2.1 (h ++ L.flatten) R.2.2.1) with
  | some L => [zr_f (h ++ L.flatten) R.2.2.2]
  | none => []
def zr_SU (TT : Nat → zS) (Rs : List zRs) : zSU := fun key A => match zr_hd key A.2.1 with
  | none => []
  | some h => if zr_rg A (zr_g h 1) && (zk_rtl A.2.2.2.1.1 (zr_g h 2).2.1).isSome then Rs.flatMap (fun R => if R.1 = key then zr_s1 TT R h A else []) else []
def zr_le (e : List zV) : List (Nat × Nat × Int) → zP → Option zP
  | [], P => some P
  | c :: cs, P => match zk_le P (zr_g e c.1) (zr_g e c.2.1) c.2.2 with | none => none | some P' => zr_le e cs P'
def zr_ap (e : List zV) (alt : List (Nat × Nat × Int) × List zRf) (A : zA) : List zA := match zr_le e alt.1 A.2.2.1 with
  | none => []
  | some P => [(A.1, A.2.1, P, (A.2.2.2.1.1, A.2.2.2.1.2.1, A.2.2.2.1.2.2.1, A.2.2.2.1.2.2.2.1, A.2.2.2.1.2.2.2.2.1, alt.2.map (zr_f e) ++ A.2.2.2.1.2.2.2.2.2), A.2.2.2.2)]
def zr_u1 (TT : Nat → zS) (R : zRu) (A : zA) : List zA := match (zr_cb TT A R.2.2.1 [(0, 0, 0)] R.2.1).find? (fun L => zr_cq A.2.2.1 ((0, 0, 0) :: L.flatten) R.2.2.1) with
  | some L => R.2.2.2.flatMap (fun alt => zr_ap ((0, 0, 0) :: L.flatten) alt A)
  | none => [A]
def zr_UL (TT : Nat → zS) (Rs : List zRu) (j : Nat) (A : zA) : List zA := match Rs.find? (fun R => Nat.beq R.1 j) with
  | some R => zr_u1 TT R A
  | none => [A]
/-- what is looked for, said of the heap -/
def zr_pr (D : zD) (ty : Nat → Nat) (H : Heap) (p : zRp) (vs : List Int) : Prop :=
  if p.1 = 0 then D.OP p.2.1 ty H vs
  else if p.1 = 1 then ∃ x i v : Int, vs = [x, i, v] ∧ 0 ≤ x ∧ ty x.toNat = p.2.1 + 1 ∧ 0 ≤ i ∧ zi H x.toNat i.toNat = v
  else if p.1 = 3 then ∃ v : Int, vs = [v]
  else ∃ x v : Int, vs = [x, v] ∧ 0 ≤ x ∧ ty x.toNat = p.2.1 + 1 ∧ zi H x.toNat (D.dI (D.TT p.2.1).2.1 p.2.2) = v
def zr_all (D : zD) (ty : Nat → Nat) (H : Heap) : List zRp → List (List Int) → Prop
  | [], [] => True
  | p :: ps, l :: ls => zr_pr D ty H p l ∧ zr_all D ty H ps ls
  | _, _ => False
def zr_cs (es : List Int) (cs : List (Nat × Nat × Int)) : Prop := ∀ c ∈ cs, es.getD c.1 0 ≤ es.getD c.2.1 0 + c.2.2
def zr_ft (D : zD) (ty : Nat → Nat) (H : Heap) (es : List Int) (f : zRf) : Prop := D.OP f.1 ty H (f.2.map (fun t => es.getD t.1 0 + t.2))
def zr_okS (D : zD) (R : zRs) : Prop := ∀ (ty : Nat → Nat) (H H' : Heap) (w a : Int) (i : Nat) (hd : List Int) (Ls : List (List Int)), zk_T D ty H → zk_T D ty H' → 0 ≤ a → ty a.toNat = R.1.2.1 + 1 →
  (if R.1.1 = 0 then hd = [0, w, a] ∧ i = D.dI (D.TT R.1.2.1).2.1 R.1.2.2 else hd = [0, w, a, (i : Int)]) → zr_all D ty H R.2.1 Ls → zr_cs (hd ++ Ls.flatten) R.2.2.1 → zi H' a.toNat i = w → (∀ b k, ¬ (b = a.toNat ∧ k = i) → zi H' b k = zi H b k) → zr_ft D ty H' (hd ++ Ls.flatten) R.2.2.2
def zr_okU (D : zD) (R : zRu) : Prop := ∀ (ty : Nat → Nat) (H : Heap) (Ls : List (List Int)), zk_T D ty H → zr_all D ty H R.2.1 Ls → zr_cs (0 :: Ls.flatten) R.2.2.1 → ∃ alt ∈ R.2.2.2, zr_cs (0 :: Ls.flatten) alt.1 ∧ ∀ f ∈ alt.2, zr_ft D ty H (0 :: Ls.flatten) f
section
variable {D : zD} {E : zE} {A : zA} {r : Nat → Int} {ty : Nat → Nat} {H H' : Heap} {locs : List Loc} {ls : Array Slot} {st : List Value}
theorem zi_of {a k : Nat} {cell : Cell} {v : zV} (hc : H[a]? = some cell) (hs : cell.slots[k]? = some (zk_c r v)) (hP : zk_P r A.2.2.1) (hrt : ∀ q ∈ A.2.2.2.1.1, zk_rt r ty q) (hg : zr_rg A v = true) : zi H a k = zk_n r v := by
  unfold zi
  rw [hc]
  dsimp only
  rw [hs]
  unfold zr_rg at hg
  split at hg
  · rename_i h
    rw [zk_e0 h]
    have := zk_inb_ok hP hg
    exact zk_i32 this.1 this.2
  · split at hg
    · rename_i h
      rw [zk_e1 h]
      have := zk_inb_ok hP hg
      exact zk_i64 this.1 this.2
    · simp only [Bool.and_eq_true, decide_eq_true_eq] at hg
      obtain ⟨h1, h2⟩ := hg
      rw [zk_ref h1]
      dsimp only
      obtain ⟨t, ht⟩ := Option.isSome_iff_exists.mp h2
      have h3 := (hrt _ (zk_rtl_mem ht)).1
      dsimp only at h3
      unfold zk_n
      omega
theorem zr_cd_ok (I : zk_I D E A r ty H locs ls st) {p : zRp} {l : List zV} (h : l ∈ zr_cd D.TT A p) : zr_pr D ty H p (l.map (zk_n r)) := by
  obtain ⟨g1, g2, g3, g4, g5, g6, g7⟩ := I.2.2.2.1
  unfold zr_cd at h
  unfold zr_pr
  split at h
  · rename_i h0
    rw [if_pos h0]
    obtain ⟨q, hq, e⟩ := List.mem_filterMap.mp h
    split at e
    · rename_i e1
      cases e
      rw [← Nat.eq_of_beq_eq_true e1]
      exact g7 q hq
    · cases e
  · rename_i h0
    rw [if_neg h0]
    split at h
    · rename_i h1
      rw [if_pos h1]
      obtain ⟨q, hq, e⟩ := List.mem_filterMap.mp h
      split at e
      · rename_i e1
        cases e
        simp only [Bool.and_eq_true] at e1
        obtain ⟨u1, u2, u3, cell, w1, w2⟩ := g3 q hq
        refine ⟨_, _, _, rfl, ?_, ?_, u3, ?_⟩
        · show 0 ≤ r q.1 + 0
          obtain ⟨t, ht⟩ := Option.isSome_iff_exists.mp e1.2.2
          have := (g1 _ (zk_rtl_mem ht)).1
          dsimp only at this
          omega
        · show ty (r q.1 + 0).toNat = _
          rw [Int.add_zero, ← Nat.eq_of_beq_eq_true e1.1]
          exact u1
        · show zi H (r q.1 + 0).toNat _ = _
          rw [Int.add_zero]
          exact zi_of w1 w2 I.2.2.1 g1 e1.2.1
      · cases e
    · rename_i h1
      rw [if_neg h1]
      split at h
      · rename_i h3
        rw [if_pos h3]
        generalize (if p.2.2 = 0 then zk_find A.1 p.2.1 else A.2.1[p.2.1]?) = o at h
        cases o with
        | none =>
          have h : l ∈ ([] : List (List zV)) := h
          cases h
        | some v =>
          have h : l ∈ [[v]] := h
          rw [List.mem_singleton.mp h]
          exact ⟨_, rfl⟩
      rename_i h3
      rw [if_neg h3]
      obtain ⟨q, hq, e⟩ := List.mem_filterMap.mp h
      split at e
      · rename_i t ht
        split at e
        · rename_i e1
          cases e
          simp only [Bool.and_eq_true] at e1
          obtain ⟨e1, e2, e3, e4⟩ := e1
          have e1 := Nat.eq_of_beq_eq_true e1
          have e2 := Nat.eq_of_beq_eq_true e2
          have e3 := Nat.eq_of_beq_eq_true e3
          obtain ⟨-, cell, w1, w2⟩ := g2 q hq
          have k := g1 _ (zk_rtl_mem ht)
          refine ⟨_, _, rfl, ?_, ?_, ?_⟩
          · show 0 ≤ r q.1 + 0
            have := k.1
            dsimp only at this
            omega
          · show ty (r q.1 + 0).toNat = _
            rw [Int.add_zero, ← e1]
            exact k.2
          · show zi H (r q.1 + 0).toNat _ = _
            rw [Int.add_zero, ← e1, ← e2, ← e3]
            exact zi_of w1 w2 I.2.2.1 g1 e4
        · cases e
      · cases e
theorem zr_cb_ok (I : zk_I D E A r ty H locs ls st) {cs : List (Nat × Nat × Int)} : ∀ {ps : List zRp} {e : List zV} {L : List (List zV)}, L ∈ zr_cb D.TT A cs e ps → zr_all D ty H ps (L.map (fun l => l.map (zk_n r)))
  | [], e, L, h => by
    have h : L ∈ [[]] := h
    rw [List.mem_singleton.mp h]
    trivial
  | p :: ps, e, L, h => by
    obtain ⟨l, hl, h⟩ := List.mem_flatMap.mp h
    split at h
    · obtain ⟨L', hL', rfl⟩ := List.mem_map.mp h
      exact ⟨zr_cd_ok I hl, zr_cb_ok I hL'⟩
    · cases h
theorem zr_g_ok (h0 : r 0 = 0) (e : List zV) (k : Nat) : (e.map (zk_n r)).getD k 0 = zk_n r (zr_g e k) := by
  unfold zr_g
  rw [List.getD_eq_getElem?_getD, List.getD_eq_getElem?_getD, List.getElem?_map]
  cases e[k]? with
  | none => show (0 : Int) = r 0 + 0; omega
  | some v => rfl
theorem zr_cq_ok (h0 : r 0 = 0) {P : zP} (hP : zk_P r P) {e : List zV} {cs : List (Nat × Nat × Int)} (h : zr_cq P e cs = true) : zr_cs (e.map (zk_n r)) cs := by
  intro c hc
  rw [zr_g_ok h0, zr_g_ok h0]
  exact zk_leb_ok hP (List.all_eq_true.mp h c hc)
theorem zr_f_ok (h0 : r 0 = 0) {e : List zV} {f : zRf} (h : zr_ft D ty H (e.map (zk_n r)) f) : D.OP (zr_f e f).1 ty H ((zr_f e f).2.map (zk_n r)) := by
  have e1 : (zr_f e f).2.map (zk_n r) = f.2.map (fun t => (e.map (zk_n r)).getD t.1 0 + t.2) := by
    show (f.2.map (zr_t e)).map (zk_n r) = _
    rw [List.map_map]
    apply List.map_congr_left
    intro t _
    rw [zr_g_ok h0]
    show r (zr_g e t.1).2.1 + ((zr_g e t.1).2.2 + t.2) = r (zr_g e t.1).2.1 + (zr_g e t.1).2.2 + t.2
    omega
  rw [e1]
  exact h
theorem zr_fl (h : List zV) (L : List (List zV)) : (h ++ L.flatten).map (zk_n r) = h.map (zk_n r) ++ (L.map (fun l => l.map (zk_n r))).flatten := by
  rw [List.map_append, List.map_flatten]
theorem zr_le_ok (h0 : r 0 = 0) {e : List zV} : ∀ {cs : List (Nat × Nat × Int)} {P : zP}, zk_P r P → zr_cs (e.map (zk_n r)) cs → ∃ P', zr_le e cs P = some P' ∧ zk_P r P'
  | [], P, hP, _ => ⟨P, rfl, hP⟩
  | c :: cs, P, hP, h => by
    have h1 := h c List.mem_cons_self
    rw [zr_g_ok h0, zr_g_ok h0] at h1
    obtain ⟨P1, e1, g1⟩ := zk_le_ok hP h1
    obtain ⟨P2, e2, g2⟩ := zr_le_ok h0 g1 (fun c' hc' => h c' (List.mem_cons_of_mem _ hc'))
    refine ⟨P2, ?_, g2⟩
    unfold zr_le
    rw [e1]
    exact e2
theorem zr_UL_ok {Rs : List zRu} (hR : ∀ R ∈ Rs, zr_okU D R) {j : Nat} (I : zk_I D E A r ty H locs ls st) : ∃ A' ∈ zr_UL D.TT Rs j A, ∃ r', zk_I D E A' r' ty H locs ls st ∧ A'.2.2.2.2.2.2 = A.2.2.2.2.2.2 := by
  have hself : ∃ A' ∈ [A], ∃ r', zk_I D E A' r' ty H locs ls st ∧ A'.2.2.2.2.2.2 = A.2.2.2.2.2.2 := ⟨A, List.mem_singleton.mpr rfl, r, I, rfl⟩
  unfold zr_UL
  split
  rotate_left
  · exact hself
  rename_i R hRf
  have hRm := hR R (List.mem_of_find?_eq_some hRf)
  unfold zr_u1
  split
  rotate_left
  · exact hself
  rename_i L hL
  have m1 := List.mem_of_find?_eq_some hL
  have m2 := List.find?_some hL
  have h0 := I.2.2.2.2.2.2.1
  have ez : (((0, 0, 0) : zV) :: L.flatten).map (zk_n r) = 0 :: (L.map (fun l => l.map (zk_n r))).flatten := by
    rw [List.map_cons, List.map_flatten]
    have : zk_n r (0, 0, 0) = 0 := by unfold zk_n; dsimp only; omega
    rw [this]
  have c1 := zr_cq_ok h0 I.2.2.1 m2
  rw [ez] at c1
  obtain ⟨alt, ha, c2, c3⟩ := hRm ty H _ I.2.2.2.2.1 (zr_cb_ok I m1) c1
  rw [← ez] at c2 c3
  obtain ⟨P', e1, g1⟩ := zr_le_ok h0 I.2.2.1 c2
  refine ⟨(A.1, A.2.1, P', (A.2.2.2.1.1, A.2.2.2.1.2.1, A.2.2.2.1.2.2.1, A.2.2.2.1.2.2.2.1, A.2.2.2.1.2.2.2.2.1, alt.2.map (zr_f ((0, 0, 0) :: L.flatten)) ++ A.2.2.2.1.2.2.2.2.2), A.2.2.2.2), List.mem_flatMap.mpr ⟨alt, ha, ?_⟩, r, ?_, rfl⟩
  · unfold zr_ap
    rw [e1]
    exact List.mem_singleton.mpr rfl
  · obtain ⟨a1, a2, a3, ⟨b1, b2, b3, b4, b5, b6, b7⟩, a5⟩ := I
    refine ⟨a1, a2, g1, ⟨b1, b2, b3, b4, b5, b6, fun q hq => ?_⟩, a5⟩
    rcases List.mem_append.mp hq with hq | hq
    · obtain ⟨f, hf, rfl⟩ := List.mem_map.mp hq
      exact zr_f_ok h0 (c3 f hf)
    · exact b7 q hq
theorem zi_ne {a b k : Nat} (h : H'[b]? = H[b]?) : zi H' b k = zi H b k := by unfold zi; rw [h]
theorem zi_set {a i b k : Nat} {x : Value} {cell : Cell} (hc : H[a]? = some cell) (hc' : H'[a]? = some (cell.setSlot i x)) (ho : ∀ q, q ≠ a → H'[q]? = H[q]?) (hn : ¬ (b = a ∧ k = i)) : zi H' b k = zi H b k := by
  by_cases e : b = a
  · subst e
    have hk : i ≠ k := fun z => hn ⟨rfl, z.symm⟩
    unfold zi
    rw [hc, hc']
    dsimp only
    rw [slot_ne _ _ hk]
  · unfold zi; rw [ho b e]
theorem zr_SU_ok {Rs : List zRs} (hR : ∀ R ∈ Rs, zr_okS D R) : zk_SUok D E (zr_SU D.TT Rs) := by
  constructor
  · intro f A r ty H H' locs ls st w v S cell t I hS hv ht htt hc hc' hx hs ho hT' q hq
    unfold zr_SU at hq
    rw [hS] at hq
    simp only [zr_hd, if_true] at hq
    split at hq
    rotate_left
    · cases hq
    rename_i hrg
    simp only [Bool.and_eq_true] at hrg
    obtain ⟨hrg, hrt⟩ := hrg
    obtain ⟨t', ht'⟩ := Option.isSome_iff_exists.mp hrt
    have hrt : 0 ≤ r v.2.1 := (I.2.2.2.1.1 _ (zk_rtl_mem ht')).1
    obtain ⟨R, hRm, hq⟩ := List.mem_flatMap.mp hq
    split at hq
    rotate_left
    · cases hq
    rename_i hkey
    unfold zr_s1 at hq
    split at hq
    rotate_left
    · cases hq
    rename_i L hL
    rw [List.mem_singleton.mp hq]
    have m1 := List.mem_of_find?_eq_some hL
    have m2 := List.find?_some hL
    have h0 := I.2.2.2.2.2.2.1
    have c1 := zr_cq_ok h0 I.2.2.1 m2
    refine zr_f_ok h0 ?_
    rw [zr_fl] at c1 ⊢
    have ez : ([(0, 0, 0), w, v] : List zV).map (zk_n r) = [0, zk_n r w, r v.2.1] := by
      show [r 0 + 0, zk_n r w, r v.2.1 + v.2.2] = _
      rw [h0, hv.2]
      simp
    rw [ez] at c1 ⊢
    obtain ⟨x, hx⟩ := hx
    have hlt := (Array.getElem?_eq_some_iff.mp hx).1
    have hk : t = R.1.2.1 ∧ f.2 = R.1.2.2 ∧ R.1.1 = 0 := by rw [hkey]; exact ⟨rfl, rfl, rfl⟩
    refine hR R hRm ty H H' (zk_n r w) (r v.2.1) (D.dI f.1 f.2) _ _ I.2.2.2.2.1 hT' hrt (by rw [ht, hk.1]) ?_ (zr_cb_ok I m1) c1 ?_ (fun b k hn => zi_set hc hc' ho hn)
    · rw [if_pos hk.2.2]
      exact ⟨rfl, by rw [← hk.1, ← hk.2.1, htt.2.1]⟩
    · refine zi_of (A := A) hc' ?_ I.2.2.1 I.2.2.2.1.1 hrg
      unfold Cell.setSlot
      rw [Array.getElem?_setIfInBounds, if_pos rfl, if_pos hlt]
  · intro t A r ty H H' locs ls st w i v S cell I hS hv ht k0 k9 hc hc' hi hlt hs ho hT' q hq
    unfold zr_SU at hq
    rw [hS] at hq
    simp only [zr_hd, show (1 : Nat) ≠ 0 by decide, if_false] at hq
    split at hq
    rotate_left
    · cases hq
    rename_i hrg
    simp only [Bool.and_eq_true] at hrg
    obtain ⟨hrg, hrt⟩ := hrg
    obtain ⟨t', ht'⟩ := Option.isSome_iff_exists.mp hrt
    have hrt : 0 ≤ r v.2.1 := (I.2.2.2.1.1 _ (zk_rtl_mem ht')).1
    obtain ⟨R, hRm, hq⟩ := List.mem_flatMap.mp hq
    split at hq
    rotate_left
    · cases hq
    rename_i hkey
    unfold zr_s1 at hq
    split at hq
    rotate_left
    · cases hq
    rename_i L hL
    rw [List.mem_singleton.mp hq]
    have m1 := List.mem_of_find?_eq_some hL
    have m2 := List.find?_some hL
    have h0 := I.2.2.2.2.2.2.1
    have c1 := zr_cq_ok h0 I.2.2.1 m2
    refine zr_f_ok h0 ?_
    rw [zr_fl] at c1 ⊢
    have ez : ([(0, 0, 0), w, v, i] : List zV).map (zk_n r) = [0, zk_n r w, r v.2.1, ((zk_n r i).toNat : Int)] := by
      show [r 0 + 0, zk_n r w, r v.2.1 + v.2.2, zk_n r i] = _
      rw [h0, hv.2, Int.toNat_of_nonneg hi]
      simp
    rw [ez] at c1 ⊢
    have hk : t = R.1.2.1 ∧ R.1.1 = 1 := by rw [hkey]; exact ⟨rfl, rfl⟩
    refine hR R hRm ty H H' (zk_n r w) (r v.2.1) (zk_n r i).toNat _ _ I.2.2.2.2.1 hT' hrt (by rw [ht, hk.1]) ?_ (zr_cb_ok I m1) c1 ?_ (fun b k hn => zi_set hc hc' ho hn)
    · rw [if_neg (by rw [hk.2]; decide)]
    · refine zi_of (A := A) hc' ?_ I.2.2.1 I.2.2.2.1.1 hrg
      unfold Cell.setSlot
      rw [Array.getElem?_setIfInBounds, if_pos rfl, if_pos hlt]
end
