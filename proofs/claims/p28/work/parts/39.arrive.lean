/-! THE CHECKER, 23: arriving at an annotated place. The substitution is found by program (nothing rests on how), then checked. -/
def zk_bd (n0 : Nat) (u : zU) (v' v : zV) : zU := if Nat.blt v'.2.1 n0 || u.any (fun q => q.1 == v'.2.1) then u else (v'.2.1, v.2.1, v.2.2 - v'.2.2) :: u
def zk_mtV (n0 : Nat) : List zV → List zV → zU → zU
  | v' :: l', v :: l, u => zk_mtV n0 l' l (zk_bd n0 u v' v)
  | _, _, u => u
def zk_mtL (n0 : Nat) (L : List (Nat × zV)) : List (Nat × zV) → zU → zU
  | [], u => u
  | q :: l, u => zk_mtL n0 L l (match zk_find L q.1 with | some v => zk_bd n0 u q.2 v | none => u)
def zk_mtF (n0 : Nat) (L : List (Nat × Nat × Nat × zV)) : List (Nat × Nat × Nat × zV) → zU → zU
  | [], u => u
  | q :: l, u => zk_mtF n0 L l (match zk_fml L (zk_sx u q.1).1 q.2.1 q.2.2.1 with | some v => zk_bd n0 u q.2.2.2 v | none => u)
def zk_mtE (n0 : Nat) (L : List (Nat × Nat × zV × zV)) : List (Nat × Nat × zV × zV) → zU → zU
  | [], u => u
  | q :: l, u => zk_mtE n0 L l (match zk_eml L (zk_sx u q.1).1 q.2.1 (zk_va u q.2.2.1) with | some v => zk_bd n0 u q.2.2.2 v | none => u)
def zk_mtR (n0 : Nat) (L : List (Nat × Nat × List zV)) : List (Nat × Nat × List zV) → zU → zU
  | [], u => u
  | q :: l, u => zk_mtR n0 L l (match zk_rwl L (zk_sx u q.1).1 with | some v => zk_mtV n0 q.2.2 v.2 u | none => u)
def zk_opf : List (Nat × List zV) → Nat → Option (List zV)
  | [], _ => none
  | q :: l, j => if q.1 = j then some q.2 else zk_opf l j
def zk_mtO (n0 : Nat) (L : List (Nat × List zV)) : List (Nat × List zV) → zU → zU
  | [], u => u
  | q :: l, u => zk_mtO n0 L l (match zk_opf L q.1 with | some v => zk_mtV n0 q.2 v u | none => u)
def zk_mtN (n0 : Nat) (L : List (Nat × zV)) : List (Nat × zV) → zU → zU
  | [], u => u
  | q :: l, u => zk_mtN n0 L l (match zk_find L (zk_sx u q.1).1 with | some v => zk_bd n0 u q.2 v | none => u)
def zk_mtG (n0 : Nat) (G G' : zG) (u : zU) : zU := zk_mtO n0 G.2.2.2.2.2 G'.2.2.2.2.2 (zk_mtF n0 G.2.1 G'.2.1 (zk_mtE n0 G.2.2.1 G'.2.2.1 (zk_mtN n0 G.2.2.2.2.1 G'.2.2.2.2.1 (zk_mtF n0 G.2.1 G'.2.1 (zk_mtR n0 G.2.2.2.1 G'.2.2.2.1 u)))))
def zk_mt (n0 : Nat) (A B : zA) : zU := zk_mtG n0 A.2.2.2.1 B.2.2.2.1 (zk_mtV n0 B.2.1 A.2.1 (zk_mtL n0 A.1 B.1 []))
/-- told apart at once: numbers on the stack, which facts there are (nothing rests on it) -/
def zk_prS : List zV → List zV → Bool
  | a :: l, b :: m => (!(Nat.beq b.2.1 0) || (Nat.beq a.2.1 0 && a.2.2 == b.2.2)) && zk_prS l m
  | _, _ => true
def zk_pre (A B : zA) : Bool := zk_prS A.2.1 B.2.1 && B.2.2.2.1.2.2.2.2.2.all (fun q => A.2.2.2.1.2.2.2.2.2.any (fun p => Nat.beq p.1 q.1))
/-- the state A lies within B by u, and B's measure is less than A's -/
def zk_arv (n0 : Nat) (u : zU) (A B : zA) : Bool :=
  B.1.all (fun q => zk_find A.1 q.1 == some (zk_va u q.2)) && decide (A.2.1 = B.2.1.map (zk_va u)) && zk_inP u A.2.2.1 B.2.2.1 && zk_inG u A.2.2.2.1 B.2.2.2.1 && u.all (fun q => Nat.ble n0 q.1 && Nat.blt 0 q.1) && decide (A.2.2.2.2.2.2.1 ≤ B.2.2.2.2.2.2.1 ∧ A.2.2.2.2.2.2.2 ≤ B.2.2.2.2.2.2.2) && zk_pos A.2.2.1 (zk_mm u A.2.2.2.2.2.1 B.2.2.2.2.2.1)
/-- the frame with another measure -/
def zk_sE (E : zE) (M : Int) : zE := (E.1, E.2.1, E.2.2.1, E.2.2.2.1, M)
theorem zk_sx_id {u : zU} {x : Nat} (h : ∀ q ∈ u, q.1 ≠ x) : zk_sx u x = (x, 0) := by
  induction u with
  | nil => rfl
  | cons q l ih =>
    unfold zk_sx
    rw [if_neg (h q List.mem_cons_self)]
    exact ih (fun z hz => h z (List.mem_cons_of_mem _ hz))
theorem zk_arv_ok {D : zD} {E : zE} {A B : zA} {u : zU} {r : Nat → Int} {ty : Nat → Nat} {H : Heap} {locs : List Loc} {ls : Array Slot} {st : List Value} {n0 : Nat} (hn0 : n0 = E.2.1.1) (h : zk_arv n0 u A B = true) (I : zk_I D E A r ty H locs ls st) : ∃ (r' : Nat → Int) (M : Int), zk_I D (zk_sE E M) B r' ty H locs ls st ∧ M + 1 ≤ E.2.2.2.2 ∧ A.2.2.2.2.2.2.1 ≤ B.2.2.2.2.2.2.1 ∧ A.2.2.2.2.2.2.2 ≤ B.2.2.2.2.2.2.2 := by
  simp only [zk_arv, Bool.and_eq_true, decide_eq_true_eq, List.all_eq_true, beq_iff_eq] at h
  obtain ⟨⟨⟨⟨⟨⟨h1, h2⟩, h3⟩, h4⟩, h5⟩, ⟨h6, h7⟩⟩, h8⟩ := h
  obtain ⟨a1, a2, a3, a4, a5, a6, a7, a8, a9, a10, a11⟩ := I
  have hz : ∀ x, (x = 0 ∨ x < n0) → zk_cp r u x = r x := fun x hx => by
    have e : zk_sx u x = (x, 0) := zk_sx_id (fun q hq => by
      have k1 := Nat.le_of_ble_eq_true (h5 q hq).1
      have k2 := zk_blt (h5 q hq).2
      omega)
    unfold zk_cp
    rw [e]
    dsimp only
    omega
  refine ⟨zk_cp r u, zk_lin (zk_cp r u) B.2.2.2.2.2.1, ⟨⟨a1.1, a1.2.1, fun q hq => ?_⟩, ?_, zk_inP_ok a3 h3, zk_inG_ok a4 h4, a5, a6, by rw [hz 0 (Or.inl rfl)]; exact a7, fun x hx => ?_, rfl, a10, fun q hq => ?_⟩, ?_, h6, h7⟩
  · obtain ⟨q', hq', rfl⟩ := List.mem_map.mp hq
    have := zk_local a1 (h1 q' hq')
    rw [zk_c_va] at this
    exact this
  · rw [a2, h2, List.map_map]
    apply List.map_congr_left
    intro v _
    exact zk_c_va v
  · rw [hz x (Or.inr (by rw [hn0]; exact hx))]; exact a8 x hx
  · simp only [zk_inG, Bool.and_eq_true, List.all_eq_true, decide_eq_true_eq, beq_iff_eq] at h4
    have hr := h4.1.1.1.2 q hq
    show E.2.2.2.1.1 (zk_cp r u q.1).toNat ∨ E.2.2.2.1.2.2.size ≤ (zk_cp r u q.1).toNat
    rw [zk_cp0 hr.1]
    exact a11 _ (zk_rwl_mem hr.2)
  · have k1 := zk_pos_ok a3 h8
    rw [zk_mm_ok] at k1
    omega
