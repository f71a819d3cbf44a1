/-! THE CHECKER, 25: it is right. -/
section
variable {p : Program} {l : Launch} {e : Env} {R : Room} {s : State} {m : MethodId} {args : Array Value} {below : List Frame} {meth : Method} {c : Code} {Q : State → Prop} {cc : ByteArray} {D : zD}
variable {cl : List vw_C} {ft : Nat → Nat → FieldType} {PF : Nat → List (Nat × Nat)} {PB : Nat → List Nat} {SU : zSU} {own : String}
variable {FX : Nat → Option (Nat × Nat)} {CX LX : Nat → Option Int} {NX : Nat → Option (Nat × Nat)} {NA : Nat → Option Nat} {oc : Nat} {ini : Bool}
variable {nL n0 rc rs : Nat} {F : List (Nat × Nat)} {B : List Nat} {FT : Nat → Option (Instr × Nat)} {AN : Nat → List zA} {FZ : Nat → List (Nat × Nat)} {LM : Nat → List (Nat × Nat × Int)} {UL : Nat → Nat → zA → List zA} {AT : Nat → Option Nat} {XT : (Nat → zA → Bool) → Nat → zA → Instr → Nat → Bool}
/-- what is left to the method is right at a frame -/
def zk_XT (p : Program) (l : Launch) (e : Env) (R : Room) (s : State) (m : MethodId) (args : Array Value) (below : List Frame) (meth : Method) (c : Code) (Q : State → Prop) (cc : ByteArray) (D : zD) (E : zE) (XT : (Nat → zA → Bool) → Nat → zA → Instr → Nat → Bool) : Prop :=
  ∀ (K : Nat → zA → Bool), (∀ (n : Nat) (A : zA), K n A = true → zk_W p l e R s m args below meth c Q D E n A) → ∀ (pc : Nat) (A : zA) (i : Instr) (len : Nat), decode cc pc = .ok (i, len) → XT K pc A i len = true → zk_W p l e R s m args below meth c Q D E pc A
theorem zk_exec_ok (hQ : zk_fr D ∨ ((∀ pc, FZ pc = []) ∧ ∀ pc, AT pc = none)) (C : zk_ctx p R s m args meth c cc D cl ft PF PB SU own FX CX LX NX NA oc ini rc rs FT) {E : zE} (hSC : zk_SC D E s) (hE : E.1 = nL) (hn0 : n0 = E.2.1.1) (hF : F = E.2.2.1.1) (hB : B = E.2.2.1.2) (hX : zk_XT p l e R s m args below meth c Q cc D E XT) (hU : zk_ULok D E UL) (hA : ∀ (M : Int), M + 1 ≤ E.2.2.2.2 → ∀ (n : Nat) (Bn : zA), Bn ∈ AN n → zk_W p l e R s m args below meth c Q D (zk_sE E M) n Bn) :
    ∀ (f pc : Nat) (A : zA), zk_exec cl ft D.TT PF PB SU FX CX LX NX NA oc ini nL n0 rc rs F B FT AN FZ LM UL AT XT f pc A = true → zk_W p l e R s m args below meth c Q D E pc A := by
  intro f
  induction f with
  | zero => intro pc A h; cases h
  | succ f ih =>
    intro pc A h
    unfold zk_exec at h
    split at h
    · cases h
    · rename_i A1 hfz
      refine zk_W.raise (A' := A1) (fun r ty H locs ls st I => zk_frz_ok C.2.2.2.2.2.2.2.2.2.2.2.2.2.1.1 (hQ.imp_right (fun z => z.1 pc)) I hfz) ?_
      refine zk_lms_W hn0 hU (fun A2 h2 => ?_) h
      have hK : ∀ (n : Nat) (A3 : zA), (match AN n with | [] => zk_exec cl ft D.TT PF PB SU FX CX LX NX NA oc ini nL n0 rc rs F B FT AN FZ LM UL AT XT f n A3 | b :: l => (b :: l).any (fun Bn => zk_pre A3 Bn && zk_arv n0 (zk_mt n0 A3 Bn) A3 Bn)) = true → zk_W p l e R s m args below meth c Q D E n A3 := by
        intro n A3 h3
        split at h3
        · exact ih n A3 h3
        · rename_i b l' hl
          obtain ⟨Bn, hBn, harv⟩ := List.any_eq_true.mp h3
          intro r ty H locs ls st I
          rw [Bool.and_eq_true] at harv
          obtain ⟨r', M, I', hM, c1, c2⟩ := zk_arv_ok hn0 harv.2 I
          exact W.widen c1 c2 (hA M hM n Bn (by rw [hl]; exact hBn) r' ty H locs ls st I')
      have C' := C
      obtain ⟨hx, hb, hown, hV, hFX, hCX, hLX, hNX, hNA, hoc, hini, hAC, hR, hO, hFT⟩ := C'
      unfold zk_step at h2
      split at h2
      · cases h2
      · rename_i q hq
        have hd := hFT pc q hq
        split at h2
        · exact hX _ hK pc A2 q.1 q.2 hd h2
        rcases Bool.or_eq_true _ _ ▸ h2 with h2 | h2
        · exact zk_plain_ok hx hb hown hE hn0 hCX hLX hK hd h2
        · rcases Bool.or_eq_true _ _ ▸ h2 with h2 | h2
          · exact zk_heap_ok (hQ.imp_right (fun z => z.2)) C hSC hn0 hF hB hK hd h2
          · exact hX _ hK pc A2 q.1 q.2 hd h2
/-- every annotated place, by its measure -/
theorem zk_ann_ok (hQ : zk_fr D ∨ ((∀ pc, FZ pc = []) ∧ ∀ pc, AT pc = none)) (C : zk_ctx p R s m args meth c cc D cl ft PF PB SU own FX CX LX NX NA oc ini rc rs FT) {fuel : Nat} (hAll : ∀ (n : Nat) (Bn : zA), Bn ∈ AN n → zk_exec cl ft D.TT PF PB SU FX CX LX NX NA oc ini nL n0 rc rs F B FT AN FZ LM UL AT XT fuel n Bn = true ∧ zk_pos Bn.2.2.1 (Bn.2.2.2.2.2.1.1, Bn.2.2.2.2.2.1.2 + 1) = true) :
    ∀ (k : Nat) (E : zE), zk_SC D E s → E.1 = nL → n0 = E.2.1.1 → F = E.2.2.1.1 → B = E.2.2.1.2 → (∀ M, zk_XT p l e R s m args below meth c Q cc D (zk_sE E M) XT) → (∀ M, zk_ULok D (zk_sE E M) UL) → E.2.2.2.2 < k → ∀ (n : Nat) (Bn : zA), Bn ∈ AN n → zk_W p l e R s m args below meth c Q D E n Bn := by
  intro k
  induction k with
  | zero =>
    intro E hSC hE hn0 hF hB hX hU hk n Bn hBn r ty H locs ls st I
    have h1 := zk_pos_ok I.2.2.1 (hAll n Bn hBn).2
    have h2 := I.2.2.2.2.2.2.2.2.1
    rw [zk_lin_lf] at h2
    dsimp only at h1
    omega
  | succ k ih =>
    intro E hSC hE hn0 hF hB hX hU hk n Bn hBn
    refine zk_exec_ok hQ C hSC hE hn0 hF hB (by have := hX E.2.2.2.2; exact this) (by have := hU E.2.2.2.2; exact this) (fun M hM n' B' hB' => ?_) fuel n Bn (hAll n Bn hBn).1
    exact ih (zk_sE E M) hSC hE hn0 hF hB (fun M' => hX M') (fun M' => hU M') (by show M < (k : Int); omega) n' B' hB'
/-- a method, from its entry -/
theorem zk_body_ok (hQ : zk_fr D ∨ ((∀ pc, FZ pc = []) ∧ ∀ pc, AT pc = none)) (C : zk_ctx p R s m args meth c cc D cl ft PF PB SU own FX CX LX NX NA oc ini rc rs FT) {fuel : Nat} {E : zE} {A0 : zA} (hAll : ∀ (n : Nat) (Bn : zA), Bn ∈ AN n → zk_exec cl ft D.TT PF PB SU FX CX LX NX NA oc ini nL n0 rc rs F B FT AN FZ LM UL AT XT fuel n Bn = true ∧ zk_pos Bn.2.2.1 (Bn.2.2.2.2.2.1.1, Bn.2.2.2.2.2.1.2 + 1) = true)
    (h0 : zk_exec cl ft D.TT PF PB SU FX CX LX NX NA oc ini nL n0 rc rs F B FT AN FZ LM UL AT XT fuel 0 A0 = true) (hSC : zk_SC D E s) (hE : E.1 = nL) (hn0 : n0 = E.2.1.1) (hF : F = E.2.2.1.1) (hB : B = E.2.2.1.2) (hX : ∀ M, zk_XT p l e R s m args below meth c Q cc D (zk_sE E M) XT) (hU : ∀ M, zk_ULok D (zk_sE E M) UL) : zk_W p l e R s m args below meth c Q D E 0 A0 := by
  refine zk_exec_ok hQ C hSC hE hn0 hF hB (by have := hX E.2.2.2.2; exact this) (by have := hU E.2.2.2.2; exact this) (fun M hM n' B' hB' => ?_) fuel 0 A0 h0
  exact zk_ann_ok hQ C hAll (M.toNat + 1) (zk_sE E M) hSC hE hn0 hF hB (fun M' => hX M') (fun M' => hU M') (by show M < ((M.toNat + 1 : Nat) : Int); omega) n' B' hB'
end
