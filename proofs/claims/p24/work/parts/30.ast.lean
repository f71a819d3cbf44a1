/-! THE CHECKER, 14: stores into arrays. -/
def zk_sv (TT : Nat → zS) (k : Nat) (P : zP) (rt : List (Nat × Nat)) (w : zV) : Bool :=
  if k = 1 then decide (w.1 = 0) else if k = 2 then decide (w.1 = 0) && zk_inb P w (-128) 127 else if k = 3 then decide (w.1 = 0) && zk_inb P w 0 1 else if k = 4 then decide (w.1 = 1)
  else decide (w.1 = 2 ∧ w.2.2 = 0) && (match zk_rtl rt w.2.1 with | some t => decide ((TT t).1 = 0 ∧ (TT t).2.1 + 10 = k) | none => false)
def zk_ast (TT : Nat → zS) (B : List Nat) (PB : Nat → List Nat) (SU : zSU) (ks : List Nat) (K : Nat → zA → Bool) (pc : Nat) (A : zA) : Bool :=
  match A.2.1 with
  | w :: i :: v :: S => decide (v.1 = 2 ∧ v.2.2 = 0 ∧ i.1 = 0) && (match zk_rtl A.2.2.2.1.1 v.2.1 with
      | some t => ks.contains (TT t).1 && (zk_inb A.2.2.1 i 0 (((TT t).2.1 : Int) - 1) && (decide ((TT t).2.1 < 2147483648 ∧ ((TT t).2.2.length = 1 ∨ (TT t).2.2.length = (TT t).2.1)) && (B.contains t && ((zk_sv TT (TT t).1 A.2.2.1 A.2.2.2.1.1 w && ((zk_els (TT t) i).all (fun q => zk_cf A.2.2.1 A.2.2.2.1.1 w q) &&
          K (pc + 1) (zk_wGO A.2.2.2.1.2.1 ((v.2.1, t, i, w) :: A.2.2.2.1.2.2.1.filter (fun g => !(g.2.1 == t) || (g.2.2.1.2.1 == i.2.1 && !(g.2.2.1.2.2 == i.2.2)))) (SU (1, t, 0) A ++ A.2.2.2.1.2.2.2.2.2.filter (fun q => !(PB q.1).contains t)) S A)))))))
      | none => false)
  | _ => false
def zk_rast (TT : Nat → zS) (K : Nat → zA → Bool) (pc : Nat) (A : zA) : Bool :=
  match A.2.1 with
  | w :: i :: v :: S => decide (v.1 = 2 ∧ v.2.2 = 0 ∧ i.1 = 0 ∧ i.2.1 = 0 ∧ 0 ≤ i.2.2 ∧ i.2.2 < 2147483648) && (match zk_rwl A.2.2.2.1.2.2.2.1 v.2.1 with
      | some q => decide ((q.1 = 1010 ∨ q.1 = 1012 ∨ q.1 = 1013 ∨ q.1 = 1014 ∨ q.1 = 1019) ∧ i.2.2.toNat < q.2.length) && (zk_sv TT (q.1 - 1000) A.2.2.1 A.2.2.2.1.1 w && K (pc + 1) (zk_wR v.2.1 (q.2.set i.2.2.toNat w) S A))
      | none => false)
  | _ => false
theorem zk_els_mem {S : zS} {i : zV} {r : Nat → Int} (h0 : r 0 = 0) (hl : S.2.2.length = 1 ∨ S.2.2.length = S.2.1) (hi : (zk_n r i).toNat < S.2.1) : zk_el S.2.2 (zk_n r i).toNat ∈ zk_els S i := by
  rcases hS : S.2.2 with _ | ⟨q, _ | ⟨q2, rest⟩⟩
  · rw [hS] at hl
    simp at hl
    omega
  · simp only [zk_els, zk_el, hS]
    exact List.mem_singleton.mpr rfl
  · simp only [zk_els, zk_el, hS]
    split
    · rename_i e
      have e2 : zk_n r i = i.2.2 := by unfold zk_n; rw [e, h0]; omega
      rw [e2]
      exact List.mem_singleton.mpr rfl
    · have hlen : (zk_n r i).toNat < (q :: q2 :: rest).length := by
        rw [hS] at hl
        simp only [List.length_cons] at hl ⊢
        omega
      rw [List.getD_eq_getElem?_getD, List.getElem?_eq_getElem hlen]
      exact List.getElem_mem hlen
section
variable {p : Program} {l : Launch} {e : Env} {R : Room} {s : State} {m : MethodId} {args : Array Value} {below : List Frame} {meth : Method} {c : Code} {Q : State → Prop} {cc : ByteArray} {pc : Nat} {D : zD} {E : zE} {A : zA} {K : Nat → zA → Bool} {cl : List vw_C} {ft : Nat → Nat → FieldType} {PF : Nat → List (Nat × Nat)} {PB : Nat → List Nat}
/-- the machine stores a value that fits into a place of an array -/
theorem zk_store (hx : p.tables.exec = Jvm.exec) (hb : c.code = cc) (hV : zk_env D cl ft s args) {k : Nat} (hk : k ∈ [1, 2, 3, 4, 10, 12, 13, 14, 19]) {i : Instr} (hi : (k = 1 ∧ i = .iastore) ∨ (k = 2 ∧ i = .bastore) ∨ (k = 3 ∧ i = .bastore) ∨ (k = 4 ∧ i = .lastore) ∨ (10 ≤ k ∧ i = .aastore)) (hd : decode cc pc = .ok (i, 1)) {r : Nat → Int} {ty : Nat → Nat} {P : zP} {rt : List (Nat × Nat)} {w : zV} {H : Heap} (hP : zk_P r P) (hrt : ∀ q ∈ rt, zk_rt r ty q) (hT : zk_T D ty H) (hsv : zk_sv D.TT k P rt w = true) {locs : List Loc} {cells slots a : Nat} {ls : Array Slot} {rest : List Value} {cell : Cell} {j : Int32} (hc : H[a]? = some cell) (hcl : cell.cls = D.cA k) (hvm : cell.vm = .none) (hj : ¬ (j < 0 ∨ cell.slots.size ≤ j.toNatClampNeg))
    (kk : ∀ H' : Heap, H'[a]? = some (cell.setSlot j.toNatClampNeg (zk_c r w)) → H'.size = H.size → (∀ q, q ≠ a → H'[q]? = H[q]?) → W p l e R s m args below meth c H' (locs ++ [⟨a, j.toNatClampNeg⟩]) cells slots Q (F0 m (pc + 1) ls rest)) : W p l e R s m args below meth c H locs cells slots Q (F0 m pc ls (zk_c r w :: .int j :: .ref a :: rest)) := by
  have hA := zk_isA hV hk hcl hvm
  rcases hi with ⟨rfl, rfl⟩ | ⟨rfl, rfl⟩ | ⟨rfl, rfl⟩ | ⟨rfl, rfl⟩ | ⟨h10, rfl⟩
  · simp [zk_sv] at hsv
    rw [zk_e0 hsv] at kk ⊢
    exact W.iast hx hb hc hA (zk_nu hvm) hj rfl rfl hd (fun H' e1 e2 e3 => kk H' e1 e2 e3)
  · simp [zk_sv] at hsv
    have hb2 := zk_inb_ok hP hsv.2
    rw [zk_e0 hsv.1] at kk ⊢
    refine W.bast hx hb hc hA (zk_nu hvm) hj rfl rfl hd (fun H' e1 e2 e3 => kk H' ?_ e2 e3)
    rw [e1]
    have e4 : narrow .byte (.int (Int32.ofInt (zk_n r w))) = .int (Int32.ofInt (zk_n r w)) := by
      rw [narrow_byte, Int32.toInt8_ofInt, zk_i8 hb2]
    rw [e4]
  · simp [zk_sv] at hsv
    have hb2 := zk_inb_ok hP hsv.2
    rw [zk_e0 hsv.1] at kk ⊢
    refine W.zast hx hb hc hA (zk_nu hvm) hj rfl rfl hd (fun H' e1 e2 e3 => kk H' ?_ e2 e3)
    rw [e1]
    have e4 : narrow .boolean (.int (Int32.ofInt (zk_n r w))) = .int (Int32.ofInt (zk_n r w)) := by
      rcases (show zk_n r w = 0 ∨ zk_n r w = 1 by omega) with e | e <;> rw [e] <;> decide
    rw [e4]
  · simp [zk_sv] at hsv
    rw [zk_e1 hsv] at kk ⊢
    exact W.last hx hb hc hA (zk_nu hvm) hj rfl rfl hd (fun H' e1 e2 e3 => kk H' e1 e2 e3)
  · have hsv' := hsv
    unfold zk_sv at hsv'
    rw [if_neg (by omega), if_neg (by omega), if_neg (by omega), if_neg (by omega)] at hsv'
    simp only [Bool.and_eq_true, decide_eq_true_eq] at hsv'
    obtain ⟨hw, hsv'⟩ := hsv'
    split at hsv'
    rotate_left
    · cases hsv'
    rename_i t ht
    simp only [decide_eq_true_eq] at hsv'
    obtain ⟨t2, t3⟩ := hsv'
    obtain ⟨p1, t1⟩ := hrt _ (zk_rtl_mem ht)
    dsimp only at p1 t1
    have hTt := hT.2 _ _ t1
    rw [if_neg (by rw [t2]; decide)] at hTt
    have hC := hTt.2
    unfold zk_C at hC
    rw [if_pos t2] at hC
    obtain ⟨cv, d1, d2, d3, -⟩ := hC
    obtain ⟨kA, comp, n1, n2, n3, -⟩ := hV.2.1 k hk
    obtain ⟨q, hq, -⟩ := hV.2.2.2 t t2
    obtain ⟨⟨-, hfc, kC, hkC, -⟩, -⟩ := hV.1 _ q hq
    have hn3 := n3 h10
    have hname : zk_cn cl (k - 10) = q.1 := by
      unfold zk_cn
      rw [show k - 10 = (D.TT t).2.1 by omega, hq]
    rw [hname] at hn3
    have hcomp : comp = D.dC (D.TT t).2.1 := Option.some.inj (hn3.symm.trans hfc)
    rw [zk_ref hw] at kk ⊢
    refine W.aast hx hb hc (fun q h => by rw [hvm] at h; cases h) (zk_nu hvm) (k := kA) (by rw [hcl]; exact n1) n2 ?_ (kcomp := kC) (by rw [hcomp]; exact hkC) ⟨fun h => hj (Or.inl h), Nat.lt_of_not_le (fun h => hj (Or.inr h))⟩ d1 (fun q h => by rw [d3] at h; cases h) (kv := kC) (by rw [d2]; exact hkC) (by rw [d2]; exact vb_asgS comp _ hn3 hfc) rfl rfl hd (fun H' e1 e2 e3 => kk H' e1 e2 e3)
    simp only [List.mem_cons, List.not_mem_nil, or_false] at hk
    rcases hk with h | h | h | h | h | h | h | h | h <;> subst h <;> first | rfl | omega
theorem zk_ast_ok {SU : zSU} (hx : p.tables.exec = Jvm.exec) (hb : c.code = cc) (hV : zk_env D cl ft s args) (hO : zk_stb D PF PB SU) {B : List Nat} (hB : B = E.2.2.1.2) {ks : List Nat} {i : Instr} (hi : ∀ k ∈ ks, (k = 1 ∧ i = .iastore) ∨ (k = 2 ∧ i = .bastore) ∨ (k = 3 ∧ i = .bastore) ∨ (k = 4 ∧ i = .lastore) ∨ (10 ≤ k ∧ i = .aastore)) (hd : decode cc pc = .ok (i, 1)) (hK : ∀ (n : Nat) (A : zA), K n A = true → zk_W p l e R s m args below meth c Q D E n A) (h : zk_ast D.TT B PB SU ks K pc A = true) : zk_W p l e R s m args below meth c Q D E pc A := by
  unfold zk_ast at h
  split at h
  rotate_left
  · cases h
  rename_i w ix v S hS
  simp only [Bool.and_eq_true, decide_eq_true_eq] at h
  obtain ⟨⟨hv1, hv2, hix⟩, h⟩ := h
  split at h
  rotate_left
  · cases h
  rename_i t ht
  simp only [Bool.and_eq_true, decide_eq_true_eq, List.contains_iff_mem, Bool.not_eq_true'] at h
  obtain ⟨hk, hin, ⟨hlen, hl1⟩, hBt, hsv, hcf, h⟩ := h
  intro r ty H locs ls st I
  have h2 := I.2.1
  subst h2
  rw [hS, List.map_cons, List.map_cons, List.map_cons, zk_ref ⟨hv1, hv2⟩, zk_e0 hix]
  obtain ⟨g1, g2, g3, g4, g5, g6, g7⟩ := I.2.2.2.1
  obtain ⟨p1, t1⟩ := g1 _ (zk_rtl_mem ht)
  dsimp only at p1 t1
  have k0 : (D.TT t).1 ≠ 0 := by rcases hi _ hk with h | h | h | h | h <;> omega
  have k9 : (D.TT t).1 ≠ 9 := by rcases hi _ hk with h | h | h | h | h <;> omega
  obtain ⟨hba, cell, d1, d2, d3, d4, d5⟩ := zk_arr I.2.2.2.2.1 t1 k0 k9
  have hb2 := zk_inb_ok I.2.2.1 hin
  have hx2 := zk_ix hb2.1 hb2.2 hlen
  have hlt : (zk_n r ix).toNat < (D.TT t).2.1 := by omega
  refine zk_store hx hb hV (hV.2.2.1 t k0 k9) (hi _ hk) hd I.2.2.1 g1 I.2.2.2.2.1 hsv d1 d2 d3 (by rw [d4]; exact hx2.1) (fun H' e1 e2 e3 => ?_)
  rw [hx2.2] at e1 ⊢
  refine hK _ _ h r ty H' _ ls _ ?_
  have hself : (cell.setSlot (zk_n r ix).toNat (zk_c r w)).slots[(zk_n r ix).toNat]? = some (zk_c r w) := by
    unfold Cell.setSlot
    rw [Array.getElem?_setIfInBounds, if_pos rfl, if_pos (by rw [d4]; exact hlt)]
  refine zk_I_upd I e2 e3 t1 k9 d1 e1 ?_ (fun _ => by rw [← hB]; exact hBt) (fun z => absurd z k0) (fun g hg => ?_) (fun g hg => ?_) (fun hT' g hg => ?_) (fun g hg => ?_)
  · unfold zk_C
    rw [if_neg k0]
    refine ⟨_, e1, d2, d3, by unfold Cell.setSlot; rw [Array.size_setIfInBounds]; exact d4, fun j hj => ?_⟩
    by_cases ej : j = (zk_n r ix).toNat
    · subst ej
      exact ⟨_, hself, zk_cf_ok I.2.2.1 g1 (List.all_eq_true.mp hcf _ (zk_els_mem I.2.2.2.2.2.2.1 hl1 hlt))⟩
    · rw [slot_ne _ _ (fun z => ej z.symm)]
      exact d5 j hj
  · obtain ⟨⟨u, u1, u2, u3⟩, cw, w1, w2⟩ := g2 g hg
    refine ⟨⟨u, u1, u2, u3⟩, cw, ?_, w2⟩
    rw [e3 _ (fun z => by
      rw [z] at u1
      have : u = t := by omega
      subst this
      exact k0 u2)]
    exact w1
  · rcases List.mem_cons.mp hg with rfl | hg
    · exact ⟨t1, k0, hb2.1, _, e1, hself⟩
    · obtain ⟨hg1, hg2⟩ := List.mem_filter.mp hg
      obtain ⟨u1, u2, u3, cw, w1, w2⟩ := g3 g hg1
      by_cases ea : (r g.1).toNat = (r v.2.1).toNat
      · rw [ea] at u1 w1
        have et : g.2.1 = t := by omega
        simp only [et, BEq.rfl, Bool.not_true, Bool.false_or, Bool.and_eq_true, beq_iff_eq, Bool.not_eq_true', beq_eq_false_iff_ne] at hg2
        cases d1.symm.trans w1
        refine ⟨by rw [ea]; exact u1, u2, u3, _, by rw [ea]; exact e1, ?_⟩
        have hn : (zk_n r ix).toNat ≠ (zk_n r g.2.2.1).toNat := by
          have z1 := hg2.1
          have z2 := hg2.2
          have z3 : zk_n r g.2.2.1 = r ix.2.1 + g.2.2.1.2.2 := by unfold zk_n; rw [z1]
          have z4 : zk_n r ix = r ix.2.1 + ix.2.2 := rfl
          have z5 := hb2.1
          omega
        rw [slot_ne _ _ hn]
        exact w2
      · exact ⟨u1, u2, u3, cw, by rw [e3 _ ea]; exact w1, w2⟩
  · rcases List.mem_append.mp hg with hg | hg
    · exact (hO.2 E).2 t A r ty H H' locs ls _ w ix v S cell I hS ⟨hv1, hv2⟩ t1 k0 k9 d1 e1 hb2.1 (by rw [d4]; exact hlt) e2 e3 hT' g hg
    · obtain ⟨hg1, hg2⟩ := List.mem_filter.mp hg
      refine hO.1 _ _ _ _ _ _ ?_ I.2.2.2.2.1 hT' (g7 g hg1)
      exact zk_st_upd e3 t1 (fun _ z => by rw [List.contains_iff_mem.mpr z] at hg2; cases hg2) d1 e1 (fun z => absurd z k0)
  · rcases List.mem_append.mp hg with hg | hg
    · exact I.2.2.2.2.2.2.2.2.2.1 g hg
    · rw [List.mem_singleton.mp hg]; exact hba
end
