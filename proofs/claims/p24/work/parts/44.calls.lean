/-! THE CHECKER, 28: calls of methods with contracts. -/
section
variable {p : Program} {l : Launch} {e : Env} {R : Room} {s : State} {m : MethodId} {args : Array Value} {below : List Frame} {meth : Method} {c : Code} {Q : State → Prop} {cc : ByteArray} {pc : Nat} {D : zD} {E : zE} {A : zA} {K : Nat → zA → Bool} {cl : List vw_C} {PF : Nat → List (Nat × Nat)} {PB : Nat → List Nat} {own C : String} {Ts ws : List Jvm.Cond} {rm : Room} {cs : zQ} {u : zU} {y : MethodName} {bytes : ByteArray} {maxL idx n0 rc rs : Nat} {ret : Option FieldType} {F : List (Nat × Nat)} {B : List Nat}
/-- what a callee finds at its start -/
theorem zk_Pc_at {r : Nat → Int} {ty : Nat → Nat} {H : Heap} (hk : zk_kn D cl s) (h0 : r 0 = 0) (hP : zk_P r cs.2.1.2.1) (hG : zk_H D r ty H cs.2.1.2.2) (hT : zk_T D ty H) (U : State) (hU : U.heap = H) (hW : s.WarmedH U.vm) : zk_Pc D cl cs r ty (cs.2.1.1.map (zk_c r)).toArray U := ⟨rfl, zk_kn.warm hW hk, h0, hP, by rw [hU]; exact hG, by rw [hU]; exact hT⟩
theorem zk_callS_ok (S : CallFix p m c cc E.1 s args Ts own) (hk : zk_kn D cl s) (hM : zk_con D cl l y ws rm cs) (cw : CallB R s args own idx y bytes maxL ret ws rm cs.2.2.2.2.1 cs.2.2.2.2.2 cs.2.1.1.length ∧ (Cond.static y).before args s = true) (hd : decode cc pc = .ok (.invokestatic idx, 3)) (hO : zk_stable D PF PB) (hF : F = E.2.2.1.1) (hB : B = E.2.2.1.2) (hn0 : n0 = E.2.1.1) (hR : rc ≤ R.cells ∧ rs ≤ R.slots) (hK : ∀ (n : Nat) (A : zA), K n A = true → zk_W p l e R s m args below meth c Q D E n A) (h : zk_call PF F PB B n0 rc rs cs u K pc A = true) : zk_W p l e R s m args below meth c Q D E pc A := by
  refine zk_call_ok hO hF hB hn0 hK h (fun r ty H locs ls I hP hG h0 hst hsum hroom => ?_)
  exact va_runS (As := cs.2.1.1.map (zk_c (zk_cp r u))) (rest := (A.2.1.drop cs.2.1.1.length).map (zk_c r)) S (hM (zk_cp r u) ty) cw ⟨zk_Pc_blind, fun U hU hW => zk_Pc_at hk h0 hP hG I.2.2.2.2.1 U hU hW⟩ rfl (by rw [List.length_map]) I.1.1 hst.symm (lv_room hsum) hd ⟨Nat.le_trans hroom.1 hR.1, Nat.le_trans hroom.2 hR.2⟩
/-- the receiver: a typed cell of its class, or one that is being made -/
def zk_rcv (TT : Nat → zS) (ci : Nat) (u : zU) (cs : zQ) (A : zA) : Bool := match cs.2.1.1 with
  | v :: _ => decide ((zk_va u v).1 = 2 ∧ (zk_va u v).2.2 = 0) && (match zk_rtl A.2.2.2.1.1 (zk_va u v).2.1 with
    | some t => decide ((TT t).1 = 0 ∧ (TT t).2.1 = ci)
    | none => (match zk_rwl A.2.2.2.1.2.2.2.1 (zk_va u v).2.1 with | some q => decide (q.1 = ci ∧ q.1 < 1000) | none => false))
  | [] => false
theorem zk_rcv_ok {r : Nat → Int} {ty : Nat → Nat} {H : Heap} {locs : List Loc} {ls : Array Slot} {st : List Value} {ci : Nat} {q : vw_C} (hk : zk_kn D cl s) (hq : cl[ci]? = some q) (I : zk_I D E A r ty H locs ls st) (h : zk_rcv D.TT ci u cs A = true) : ∃ (b : Nat) (As : List zV), cs.2.1.1.map (zk_c (zk_cp r u)) = .ref b :: As.map (zk_c (zk_cp r u)) ∧ cs.2.1.1.length = As.length + 1 ∧ ∃ cell : Cell, H[b]? = some cell ∧ cell.vm.isStatics = false ∧ s.vm.findClass q.1 = some cell.cls := by
  unfold zk_rcv at h
  split at h
  · rename_i v As hv
    simp only [Bool.and_eq_true, decide_eq_true_eq] at h
    obtain ⟨h1, h⟩ := h
    obtain ⟨g1, g2, g3, g4, g5⟩ := I.2.2.2.1
    have hfc := (hk.1 ci q hq).2.1
    refine ⟨(r (zk_va u v).2.1).toNat, As, ?_, by rw [hv]; rfl, ?_⟩
    · rw [hv, List.map_cons, ← zk_c_va, zk_ref h1]
    · split at h
      · rename_i t ht
        simp only [decide_eq_true_eq] at h
        have hT := I.2.2.2.2.1.2 _ _ (g1 _ (zk_rtl_mem ht)).2
        rw [if_neg (by rw [h.1]; decide)] at hT
        have hC := hT.2
        unfold zk_C at hC
        rw [if_pos h.1] at hC
        obtain ⟨cell, d1, d2, d3, -⟩ := hC
        exact ⟨cell, d1, by rw [d3]; rfl, by rw [d2, h.2]; exact hfc⟩
      · split at h
        · rename_i w hw
          simp only [decide_eq_true_eq] at h
          obtain ⟨-, -, -, cell, c1, c2, c3⟩ := g4 _ (zk_rwl_mem hw)
          rw [if_pos h.2] at c3
          exact ⟨cell, c1, by rw [c2]; rfl, by rw [c3.1]; dsimp only; rw [h.1]; exact hfc⟩
        · cases h
  · cases h
theorem zk_callV_ok {ci : Nat} {q : vw_C} (hq : cl[ci]? = some q) (S : CallFix p m c cc E.1 s args Ts own) (hk : zk_kn D cl s) (hM : zk_con D cl l y ws rm cs) (cw : CallW R s args own q.1 idx y bytes maxL ret ws rm cs.2.2.2.2.1 cs.2.2.2.2.2 (cs.2.1.1.length - 1)) (hd : decode cc pc = .ok (.invokevirtual idx, 3)) (hO : zk_stable D PF PB) (hF : F = E.2.2.1.1) (hB : B = E.2.2.1.2) (hn0 : n0 = E.2.1.1) (hR : rc ≤ R.cells ∧ rs ≤ R.slots) (hK : ∀ (n : Nat) (A : zA), K n A = true → zk_W p l e R s m args below meth c Q D E n A) (hrc : zk_rcv D.TT ci u cs A = true) (h : zk_call PF F PB B n0 rc rs cs u K pc A = true) : zk_W p l e R s m args below meth c Q D E pc A := by
  refine zk_call_ok hO hF hB hn0 hK h (fun r ty H locs ls I hP hG h0 hst hsum hroom => ?_)
  obtain ⟨b, As, e1, e2, hcell⟩ := zk_rcv_ok hk hq I hrc
  have hpc := fun U hU hW => zk_Pc_at (cs := cs) hk h0 hP hG I.2.2.2.2.1 U hU hW
  have hM' := hM (zk_cp r u) ty
  have e3 : (cs.2.1.1.map (zk_c (zk_cp r u))).toArray = (Value.ref b :: As.map (zk_c (zk_cp r u))).toArray := by rw [e1]
  rw [e3] at hpc
  rw [e1, List.reverse_cons, List.append_assoc] at hst
  exact va_runV (As := As.map (zk_c (zk_cp r u))) (rest := (A.2.1.drop cs.2.1.1.length).map (zk_c r)) S hM' cw ⟨zk_Pc_blind, hcell, hpc⟩ rfl (by rw [List.length_map]; omega) I.1.1 hst.symm (lv_room hsum) hd ⟨Nat.le_trans hroom.1 hR.1, Nat.le_trans hroom.2 hR.2⟩
theorem zk_callI_ok {ci : Nat} {q : vw_C} (hq : cl[ci]? = some q) (S : CallFix p m c cc E.1 s args Ts own) (hk : zk_kn D cl s) (hM : zk_con D cl l y ws rm cs) (cw : CallB R s args own idx y bytes maxL none ws rm cs.2.2.2.2.1 cs.2.2.2.2.2 (cs.2.1.1.length - 1) ∧ y.name = "<init>" ∧ (Cond.instanceMethod y).before args s = true) (hd : decode cc pc = .ok (.invokespecial idx, 3)) (hO : zk_stable D PF PB) (hF : F = E.2.2.1.1) (hB : B = E.2.2.1.2) (hn0 : n0 = E.2.1.1) (hR : rc ≤ R.cells ∧ rs ≤ R.slots) (hK : ∀ (n : Nat) (A : zA), K n A = true → zk_W p l e R s m args below meth c Q D E n A) (hrc : zk_rcv D.TT ci u cs A = true) (h : zk_call PF F PB B n0 rc rs cs u K pc A = true) : zk_W p l e R s m args below meth c Q D E pc A := by
  refine zk_call_ok hO hF hB hn0 hK h (fun r ty H locs ls I hP hG h0 hst hsum hroom => ?_)
  obtain ⟨b, As, e1, e2, hcell⟩ := zk_rcv_ok hk hq I hrc
  have hpc := fun U hU hW => zk_Pc_at (cs := cs) hk h0 hP hG I.2.2.2.2.1 U hU hW
  have hM' := hM (zk_cp r u) ty
  have e3 : (cs.2.1.1.map (zk_c (zk_cp r u))).toArray = (Value.ref b :: As.map (zk_c (zk_cp r u))).toArray := by rw [e1]
  rw [e3] at hpc
  rw [e1, List.reverse_cons, List.append_assoc] at hst
  exact va_runI (As := As.map (zk_c (zk_cp r u))) (rest := (A.2.1.drop cs.2.1.1.length).map (zk_c r)) S hM' cw ⟨zk_Pc_blind, hpc⟩ rfl (by rw [List.length_map]; omega) I.1.1 hst.symm (lv_room hsum) hd ⟨Nat.le_trans hroom.1 hR.1, Nat.le_trans hroom.2 hR.2⟩
end
