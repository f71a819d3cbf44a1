/-! THE CHECKER, 22: a call by its contract. -/
def zk_U (r : Nat → Int) (g : zG) : Nat → Prop := fun a => ∃ q ∈ g.2.2.2.1, a = (r q.1).toNat
/-- the end of a call, by its contract -/
def zk_Qc (D : zD) (cs : zQ) (r : Nat → Int) (ty : Nat → Nat) : State → Outcome → State → Prop := fun st o t =>
  ∃ c ∈ cs.2.2.1, ∃ (r' : Nat → Int) (ty' : Nat → Nat), (∀ x, x < cs.1.1 → r' x = r x) ∧ o = .returned (c.1.map (zk_c r')) ∧ zk_P r' c.2.1 ∧ zk_H D r' ty' t.heap c.2.2 ∧ zk_T D ty' t.heap ∧ zk_F D cs.2.2.2.1.1 cs.2.2.2.1.2 (zk_U r cs.2.1.2.2) ty st.heap ty' t.heap
def zk_cA (u : zU) (cs : zQ) (c : Option zV × zP × zG) (P : zP) (A1 : zA) : zA :=
  (A1.1, (c.1.map (zk_pv u cs.1.1 A1.2.2.2.2.1)).toList ++ A1.2.1, P, zk_pG u cs.1.1 A1.2.2.2.2.1 c.2.2 A1.2.2.2.1, (A1.2.2.2.2.1 + (cs.1.2 - cs.1.1), A1.2.2.2.2.2.1, A1.2.2.2.2.2.2.1 + cs.2.2.2.2.1, A1.2.2.2.2.2.2.2 + cs.2.2.2.2.2))
def zk_xs (u : zU) (cs : zQ) : List Nat := cs.2.1.2.2.2.2.2.1.map (fun q => (zk_sx u q.1).1)
def zk_call (PF : Nat → List (Nat × Nat)) (F : List (Nat × Nat)) (PB : Nat → List Nat) (B : List Nat) (n0 rc rs : Nat) (cs : zQ) (u : zU) (K : Nat → zA → Bool) (pc : Nat) (A : zA) : Bool :=
  decide (A.2.1 = (cs.2.1.1.map (zk_va u)).reverse ++ A.2.1.drop cs.2.1.1.length) && zk_inP u A.2.2.1 cs.2.1.2.1 && zk_inG u A.2.2.2.1 cs.2.1.2.2 && decide (zk_sx u 0 = (0, 0)) && (List.range cs.1.1).all (fun x => Nat.blt (zk_sx u x).1 A.2.2.2.2.1) &&
  decide (((A.2.1.drop cs.2.1.1.length).map (fun v => if v.1 = 1 then 2 else 1)).sum ≤ 8 ∧ A.2.2.2.2.2.2.1 + cs.2.2.2.2.1 ≤ rc ∧ A.2.2.2.2.2.2.2 + cs.2.2.2.2.2 ≤ rs) && zk_ok n0 A && cs.2.2.2.1.1.all (fun f => F.contains f) && cs.2.2.2.1.2.all (fun b => B.contains b) &&
  cs.2.2.1.all (fun c => zk_pk u cs.1.1 A.2.2.2.2.1 (zk_xs u cs) c.2.2 && (match zk_pP u cs.1.1 A.2.2.2.2.1 c.2.1 A.2.2.1 with
    | none => true
    | some P => K (pc + 3) (zk_cA u cs c P (zk_kp PF PB cs.2.2.2.1.1 cs.2.2.2.1.2 (zk_xs u cs) (A.2.1.drop cs.2.1.1.length) A))))
section
variable {p : Program} {l : Launch} {e : Env} {R : Room} {s : State} {m : MethodId} {args : Array Value} {below : List Frame} {meth : Method} {c : Code} {Q : State → Prop} {cc : ByteArray} {pc : Nat} {D : zD} {E : zE} {A : zA} {K : Nat → zA → Bool} {PF : Nat → List (Nat × Nat)} {PB : Nat → List Nat}
theorem zk_call_ok {n0 rc rs : Nat} {F : List (Nat × Nat)} {B : List Nat} {cs : zQ} {u : zU} (hO : zk_stable D PF PB) (hF : F = E.2.2.1.1) (hB : B = E.2.2.1.2) (hn0 : n0 = E.2.1.1) (hK : ∀ (n : Nat) (A : zA), K n A = true → zk_W p l e R s m args below meth c Q D E n A) (h : zk_call PF F PB B n0 rc rs cs u K pc A = true)
    (hrun : ∀ (r : Nat → Int) (ty : Nat → Nat) (H : Heap) (locs : List Loc) (ls : Array Slot), zk_I D E A r ty H locs ls (A.2.1.map (zk_c r)) → zk_P (zk_cp r u) cs.2.1.2.1 → zk_H D (zk_cp r u) ty H cs.2.1.2.2 → zk_cp r u 0 = 0 → (cs.2.1.1.map (zk_c (zk_cp r u))).reverse ++ (A.2.1.drop cs.2.1.1.length).map (zk_c r) = A.2.1.map (zk_c r) → (((A.2.1.drop cs.2.1.1.length).map (zk_c r)).map (fun v => v.category)).sum ≤ 8 → A.2.2.2.2.2.2.1 + cs.2.2.2.2.1 ≤ rc ∧ A.2.2.2.2.2.2.2 + cs.2.2.2.2.2 ≤ rs → va_Run p l e R s m args below meth c H locs A.2.2.2.2.2.2.1 A.2.2.2.2.2.2.2 cs.2.2.2.2.1 cs.2.2.2.2.2 (F0 m pc ls (A.2.1.map (zk_c r))) ((A.2.1.drop cs.2.1.1.length).map (zk_c r)) (zk_Qc D cs (zk_cp r u) ty) (fun q => D.ba ≤ q)) : zk_W p l e R s m args below meth c Q D E pc A := by
  simp only [zk_call, Bool.and_eq_true, decide_eq_true_eq, List.all_eq_true, List.contains_iff_mem] at h
  obtain ⟨⟨⟨⟨⟨⟨⟨⟨⟨h1, h2⟩, h3⟩, h4⟩, h5⟩, ⟨h6, h7⟩⟩, h8⟩, h9⟩, h10⟩, h11⟩ := h
  intro r ty H locs ls st I
  have hst := I.2.1
  subst hst
  have hok' : zk_ok E.2.1.1 A = true := hn0 ▸ h8
  have hP1 := zk_inP_ok I.2.2.1 h2
  have hG1 := zk_inG_ok I.2.2.2.1 h3
  have hz0 : zk_cp r u 0 = 0 := by unfold zk_cp; rw [h4]; dsimp only; rw [I.2.2.2.2.2.2.1]; rfl
  have hcat : ∀ v : zV, (zk_c r v).category = if v.1 = 1 then 2 else 1 := fun v => by
    split
    · rename_i e1; exact zk_cat2 e1
    · rename_i e1; exact zk_cat1 e1
  have hsum : (((A.2.1.drop cs.2.1.1.length).map (zk_c r)).map (fun v => v.category)).sum ≤ 8 := by
    rw [List.map_map]
    have : ((fun v : Value => v.category) ∘ zk_c r) = fun v : zV => if v.1 = 1 then 2 else 1 := funext (fun v => hcat v)
    rw [this]; exact h6
  have hstk : (cs.2.1.1.map (zk_c (zk_cp r u))).reverse ++ (A.2.1.drop cs.2.1.1.length).map (zk_c r) = A.2.1.map (zk_c r) := by
    have e1 : A.2.1.map (zk_c r) = ((cs.2.1.1.map (zk_va u)).reverse ++ A.2.1.drop cs.2.1.1.length).map (zk_c r) := by rw [← h1]
    rw [e1, List.map_append, List.map_reverse, List.map_map]
    congr 2
    apply List.map_congr_left
    intro v _
    exact (zk_c_va v).symm
  have hr := hrun r ty H locs ls I hP1 hG1 hz0 hstk hsum h7
  intro T hT X
  obtain ⟨v, st₀, t, T', L, q1, X', q2, q3, q4, ⟨c', hc', r', ty', w1, w2, w3, w4, w5, w6⟩, go⟩ := hr T hT X
  have hv : v = c'.1.map (zk_c r') := by injection w2
  obtain ⟨k1, k2⟩ := h11 c' hc'
  -- the caller's valuation
  obtain ⟨r2, hr2⟩ : ∃ r2 : Nat → Int, r2 = fun y => if y < A.2.2.2.2.1 then r y else r' (cs.1.1 + (y - A.2.2.2.2.1)) := ⟨_, rfl⟩
  have hlow : ∀ x, x < A.2.2.2.2.1 → r2 x = r x := fun x hx => by rw [hr2]; dsimp only; rw [if_pos hx]
  have hmap : ∀ x, r2 (zk_px u cs.1.1 A.2.2.2.2.1 x).1 + (zk_px u cs.1.1 A.2.2.2.2.1 x).2 = r' x := fun x => by
    unfold zk_px
    split
    · rename_i hx
      rw [hlow _ (zk_blt (h5 x (List.mem_range.mpr hx))), w1 x hx]
      rfl
    · rename_i hx
      dsimp only
      rw [hr2]
      dsimp only
      rw [if_neg (by omega), show cs.1.1 + (A.2.2.2.2.1 + (x - cs.1.1) - A.2.2.2.2.1) = x by omega]
      omega
  rw [q1] at w6
  have hloc : ∀ q ∈ locs ++ L, D.ba ≤ q.base := fun q hq => by
    rcases List.mem_append.mp hq with hq | hq
    · exact I.2.2.2.2.2.2.2.2.2.1 q hq
    · exact q2 q hq
  simp only [zk_inG, Bool.and_eq_true, List.all_eq_true, decide_eq_true_eq, beq_iff_eq] at h3
  have hraw := h3.1.1.1.2
  have hI2 := zk_I_new hok' hlow I
  have I1 := zk_I_kp (F := cs.2.2.2.1.1) (B := cs.2.2.2.1.2) (xs := zk_xs u cs) (PF := PF) (PB := PB) (S := A.2.1.drop cs.2.1.1.length) (locs' := locs ++ L) hO hI2 w6 w5 (fun f hf => by rw [← hF]; exact h9 f hf) (fun b hb => by rw [← hB]; exact h10 b hb)
    (fun x hx => by
      obtain ⟨q, hq, rfl⟩ := List.mem_map.mp hx
      exact ⟨_, (hraw q hq).2⟩)
    (fun a ha => by
      obtain ⟨q, hq, rfl⟩ := ha
      refine ⟨_, List.mem_map.mpr ⟨q, hq, rfl⟩, ?_⟩
      have hm := zk_rwl_mem (hraw q hq).2
      have hlt : (zk_sx u q.1).1 < A.2.2.2.2.1 := by
        have h := hok'
        simp only [zk_ok, zk_fA, zk_fG, Bool.and_eq_true, List.all_eq_true] at h
        exact zk_blt (h.2.2.1.2.1.1.2 _ hm).1
      rw [hlow _ hlt, zk_cp0 (hraw q hq).1])
    hloc
  obtain ⟨P', e1, hP'⟩ := zk_pP_ok (u := u) (m0 := cs.1.1) (nx := A.2.2.2.2.1) hmap hI2.2.2.2.2.2.2.1 hI2.2.2.1 w3
  rw [e1] at k2
  have I1' := I1
  obtain ⟨a1, a2, a3, a4, a5, a6, a7, a8, a9, a10, a11⟩ := I1
  have hpw := hI2.2.2.2.1.2.2.2.2.1
  have hG' := zk_pG_ok (xs := zk_xs u cs) hmap k1 a4 w4 (fun q hq x hx => by
      obtain ⟨hq1, hq2⟩ := List.mem_filter.mp hq
      obtain ⟨z, hz, rfl⟩ := List.mem_map.mp hx
      refine zk_pw (R := fun x y : Nat × Nat × List zV => r2 x.1 ≠ r2 y.1) (fun _ _ z => z.symm) hpw hq1 (zk_rwl_mem (hraw z hz).2) (fun e => ?_)
      rw [e] at hq2
      dsimp only at hq2
      rw [List.contains_iff_mem.mpr hx] at hq2
      cases hq2) (fun x hx y hy hne => by
      obtain ⟨z, hz, rfl⟩ := List.mem_map.mp hx
      obtain ⟨z', hz', rfl⟩ := List.mem_map.mp hy
      exact zk_pw (R := fun x y : Nat × Nat × List zV => r2 x.1 ≠ r2 y.1) (fun _ _ z => z.symm) hpw (zk_rwl_mem (hraw z hz).2) (zk_rwl_mem (hraw z' hz').2) (fun e => hne (by have := congrArg Prod.fst e; exact this)))
  have hkk := hK _ _ k2 r2 ty' T'.heap (locs ++ L) ls (v.toList ++ (A.2.1.drop cs.2.1.1.length).map (zk_c r)) (by
    rw [q3]
    refine ⟨a1, ?_, hP', hG', w5, a6, a7, a8, a9, a10, ?_⟩
    · have eS : (A.2.1.drop cs.2.1.1.length).map (zk_c r2) = (A.2.1.drop cs.2.1.1.length).map (zk_c r) := by
        apply List.map_congr_left
        intro v hv
        exact zk_c_eq hlow (zk_okS hok' (List.mem_of_mem_drop hv))
      show _ = ((c'.1.map (zk_pv u cs.1.1 A.2.2.2.2.1)).toList ++ A.2.1.drop cs.2.1.1.length).map (zk_c r2)
      rw [List.map_append, eS, hv]
      congr 1
      cases hc1 : c'.1 with
      | none => rfl
      | some w =>
        simp only [Option.map_some, Option.toList_some, List.map_cons, List.map_nil]
        rw [zk_c_pv hmap]
    · intro q hq
      rcases List.mem_append.mp hq with hq | hq
      · obtain ⟨z, hz, rfl⟩ := List.mem_map.mp hq
        simp only [zk_pk, Bool.and_eq_true, List.all_eq_true, decide_eq_true_eq, List.contains_iff_mem] at k1
        obtain ⟨x, hx, ex⟩ := List.mem_map.mp (k1.1.1.2 z hz).2
        show E.2.2.2.1.1 (r2 (zk_px u cs.1.1 A.2.2.2.2.1 z.1).1).toNat ∨ E.2.2.2.1.2.2.size ≤ (r2 (zk_px u cs.1.1 A.2.2.2.2.1 z.1).1).toNat
        rw [← ex]
        exact hI2.2.2.2.2.2.2.2.2.2.2 _ (zk_rwl_mem (hraw x hx).2)
      · exact a11 q hq)
  obtain ⟨t2, b1, b2⟩ := hkk T' rfl X'
  exact ⟨t2, go t2 b1, b2⟩
end
