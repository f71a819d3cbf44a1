/-! THE CHECKER, 24: the whole of it. XT: what is left to the method (calls, returns, texts). -/
section
variable (cl : List vw_C) (ft : Nat → Nat → FieldType) (TT : Nat → zS) (PF : Nat → List (Nat × Nat)) (PB : Nat → List Nat) (SU : zSU)
variable (FX : Nat → Option (Nat × Nat)) (CX LX : Nat → Option Int) (NX : Nat → Option (Nat × Nat)) (NA : Nat → Option Nat) (oc : Nat) (ini : Bool)
variable (nL n0 rc rs : Nat) (F : List (Nat × Nat)) (B : List Nat) (FT : Nat → Option (Instr × Nat)) (AN : Nat → List zA) (FZ : Nat → List (Nat × Nat)) (LM : Nat → List (Nat × Nat × Int)) (UL : Nat → Nat → zA → List zA) (AT : Nat → Option Nat)
variable (XT : (Nat → zA → Bool) → Nat → zA → Instr → Nat → Bool)
def zk_heap (K : Nat → zA → Bool) (pc : Nat) (A : zA) (i : Instr) (len : Nat) : Bool := match i, len with
  | .getfield x, 3 => zk_get TT FX n0 K pc x A
  | .putfield x, 3 => zk_put cl ft TT FX PF SU F oc ini K pc x A
  | .iaload, 1 => zk_ald TT [1] n0 K pc A || zk_sld n0 K pc A
  | .baload, 1 => zk_ald TT [2] n0 K pc A || zk_ald TT [3] n0 K pc A
  | .laload, 1 => zk_ald TT [4] n0 K pc A
  | .aaload, 1 => zk_ald TT [10, 12, 13, 14, 19] n0 K pc A || zk_rld K pc A
  | .arraylength, 1 => zk_alen TT K pc A
  | .iastore, 1 => zk_ast TT B PB SU [1] K pc A
  | .bastore, 1 => zk_ast TT B PB SU [2, 3] K pc A
  | .lastore, 1 => zk_ast TT B PB SU [4] K pc A
  | .aastore, 1 => zk_ast TT B PB SU [10, 12, 13, 14, 19] K pc A || zk_rast TT K pc A
  | .new x, 3 => zk_new cl ft NX n0 rc rs K pc x A
  | .newarray t, 2 => zk_newa TT AT n0 rc rs K pc t A
  | .anewarray x, 3 => zk_anew NA n0 rc rs K pc x A
  | _, _ => false
/-- the next instruction is to be recorded -/
def zk_mk (l : List (Nat × Nat × Int)) : Bool := l.any (fun q => Nat.beq q.1 8)
def zk_step (b : Bool) (K : Nat → zA → Bool) (pc : Nat) (A : zA) : Bool := match FT pc with
  | none => false
  | some q => if b then XT K pc A q.1 q.2 else zk_plain CX LX nL n0 K pc A q.1 q.2 || (zk_heap cl ft TT PF PB SU FX NX NA oc ini n0 rc rs F B AT K pc A q.1 q.2 || XT K pc A q.1 q.2)
def zk_exec : Nat → Nat → zA → Bool
  | 0, _, _ => false
  | f + 1, pc, A => match zk_frz TT (FZ pc) A with
    | none => false
    | some A1 => (zk_lms n0 UL (LM pc) A1).all (fun A2 => zk_step cl ft TT PF PB SU FX CX LX NX NA oc ini nL n0 rc rs F B FT AT XT (zk_mk (LM pc)) (fun n A3 => match AN n with | [] => zk_exec f n A3 | b :: l => (b :: l).any (fun Bn => zk_pre A3 Bn && zk_arv n0 (zk_mt n0 A3 Bn) A3 Bn)) pc A2)
end
section
variable {p : Program} {l : Launch} {e : Env} {R : Room} {s : State} {m : MethodId} {args : Array Value} {below : List Frame} {meth : Method} {c : Code} {Q : State → Prop} {cc : ByteArray} {D : zD} {E : zE}
variable {cl : List vw_C} {ft : Nat → Nat → FieldType} {PF : Nat → List (Nat × Nat)} {PB : Nat → List Nat} {SU : zSU} {own : String}
variable {FX : Nat → Option (Nat × Nat)} {CX LX : Nat → Option Int} {NX : Nat → Option (Nat × Nat)} {NA : Nat → Option Nat} {oc : Nat} {ini : Bool}
variable {nL n0 rc rs : Nat} {F : List (Nat × Nat)} {B : List Nat} {FT : Nat → Option (Instr × Nat)} {AN : Nat → List zA} {FZ : Nat → List (Nat × Nat)} {LM : Nat → List (Nat × Nat × Int)} {UL : Nat → Nat → zA → List zA} {AT : Nat → Option Nat} {XT : (Nat → zA → Bool) → Nat → zA → Instr → Nat → Bool}
/-- what the checker rests on, at a method -/
def zk_ctx (p : Program) (R : Room) (s : State) (m : MethodId) (args : Array Value) (meth : Method) (c : Code) (cc : ByteArray) (D : zD) (cl : List vw_C) (ft : Nat → Nat → FieldType) (PF : Nat → List (Nat × Nat)) (PB : Nat → List Nat) (SU : zSU) (own : String) (FX : Nat → Option (Nat × Nat)) (CX LX : Nat → Option Int) (NX : Nat → Option (Nat × Nat)) (NA : Nat → Option Nat) (oc : Nat) (ini : Bool) (rc rs : Nat) (FT : Nat → Option (Instr × Nat)) : Prop :=
  p.tables.exec = Jvm.exec ∧ c.code = cc ∧ s.vm.findClass own = some m.cls ∧ zk_env D cl ft s args ∧ zk_FX cl FX own s args ∧ (∀ (i : Nat) (k : Int), CX i = some k → (Jvm.Cond.constant own i (Int32.ofInt k)).before args s = true) ∧ (∀ (i : Nat) (k : Int), LX i = some k → (Jvm.Cond.constantLong own i (Int64.ofInt k)).before args s = true) ∧ zk_NX cl NX own s args ∧ zk_NA cl NA own s args ∧ (ini = true → own = zk_cn cl oc) ∧ (ini = true → meth.name = "<init>") ∧ (∀ k : ArrayType, zk_ak k ≠ 0 → (Cond.arrayClass (newarray.typeOf k)).before args s = true) ∧ (rc ≤ R.cells ∧ rs ≤ R.slots) ∧ zk_stb D PF PB SU ∧ ∀ (pc : Nat) (q : Instr × Nat), FT pc = some q → decode cc pc = .ok q
def zk_SC (D : zD) (E : zE) (s : State) : Prop := ∀ (a : Nat) (n : Int), D.SC a n → ∃ cell : Cell, s.heap[a]? = some cell ∧ s.isArrayOf cell .int ∧ cell.vm ≠ .unknown ∧ (cell.slots.size : Int) = n ∧ n ≤ 2147483647 ∧ (∀ j : Nat, j < cell.slots.size → ∃ y : Int32, cell.slots[j]? = some (.int y)) ∧ ∀ (H : Heap) (ty : Nat → Nat), zk_T D ty H → zk_F D E.2.2.1.1 E.2.2.1.2 E.2.2.2.1.1 E.2.2.2.1.2.1 E.2.2.2.1.2.2 ty H → H[a]? = some cell
theorem zk_W.raise {n : Nat} {A A' : zA} (h : ∀ (r : Nat → Int) (ty : Nat → Nat) (H : Heap) (locs : List Loc) (ls : Array Slot) (st : List Value), zk_I D E A r ty H locs ls st → ∃ ty', zk_I D E A' r ty' H locs ls st ∧ A'.2.2.2.2 = A.2.2.2.2) (k : zk_W p l e R s m args below meth c Q D E n A') : zk_W p l e R s m args below meth c Q D E n A := by
  intro r ty H locs ls st I
  obtain ⟨ty', I', e1⟩ := h r ty H locs ls st I
  have := k r ty' H locs ls st I'
  rw [e1] at this
  exact this
set_option maxHeartbeats 1000000 in
theorem zk_heap_ok (hQ : zk_fr D ∨ ∀ pc, AT pc = none) (C : zk_ctx p R s m args meth c cc D cl ft PF PB SU own FX CX LX NX NA oc ini rc rs FT) (hSC : zk_SC D E s) (hn0 : n0 = E.2.1.1) (hF : F = E.2.2.1.1) (hB : B = E.2.2.1.2) {K : Nat → zA → Bool} (hK : ∀ (n : Nat) (A : zA), K n A = true → zk_W p l e R s m args below meth c Q D E n A) {pc : Nat} {A : zA} {i : Instr} {len : Nat} (hd : decode cc pc = .ok (i, len)) (h : zk_heap cl ft D.TT PF PB SU FX NX NA oc ini n0 rc rs F B AT K pc A i len = true) : zk_W p l e R s m args below meth c Q D E pc A := by
  obtain ⟨hx, hb, hown, hV, hFX, hCX, hLX, hNX, hNA, hoc, hini, hAC, hR, hO, hFT⟩ := C
  unfold zk_heap at h
  split at h
  · exact zk_get_ok hx hb hown hV hFX hn0 hK hd h
  · exact zk_put_ok hx hb hown hV hFX hoc hini hO hF hK hd h
  · rcases Bool.or_eq_true _ _ ▸ h with h | h
    · exact zk_ald_ok (ks := [1]) (by decide) hV hn0 hK (fun {H locs cells slots a ls rest x cell j k} hk h1 h2 h3 h4 h5 kk => by
        rw [List.mem_singleton.mp hk] at h2
        exact W.iald hx hb h1 h2 h3 h4 h5 rfl rfl hd kk) h
    · exact zk_sld_ok hx hb hn0 hSC hK hd h
  · rcases Bool.or_eq_true _ _ ▸ h with h | h
    · exact zk_ald_ok (ks := [2]) (by decide) hV hn0 hK (fun {H locs cells slots a ls rest x cell j k} hk h1 h2 h3 h4 h5 kk => by
        rw [List.mem_singleton.mp hk] at h2
        exact W.bald hx hb h1 h2 h3 h4 h5 rfl rfl hd kk) h
    · exact zk_ald_ok (ks := [3]) (by decide) hV hn0 hK (fun {H locs cells slots a ls rest x cell j k} hk h1 h2 h3 h4 h5 kk => by
        rw [List.mem_singleton.mp hk] at h2
        exact W.zald hx hb h1 h2 h3 h4 h5 rfl rfl hd kk) h
  · exact zk_ald_ok (ks := [4]) (by decide) hV hn0 hK (fun {H locs cells slots a ls rest x cell j k} hk h1 h2 h3 h4 h5 kk => by
      rw [List.mem_singleton.mp hk] at h2
      exact W.lald hx hb h1 h2 h3 h4 h5 rfl rfl hd kk) h
  · rcases Bool.or_eq_true _ _ ▸ h with h | h
    · exact zk_ald_ok (ks := [10, 12, 13, 14, 19]) (by decide) hV hn0 hK (fun {H locs cells slots a ls rest x cell j k} hk h1 h2 h3 h4 h5 kk => by
        refine W.aald hx hb h1 h2 ?_ h3 h4 h5 rfl rfl hd kk
        simp only [List.mem_cons, List.not_mem_nil, or_false] at hk
        rcases hk with z | z | z | z | z <;> subst z <;> rfl) h
    · exact zk_rld_ok hx hb hV hK hd h
  · exact zk_alen_ok hx hb hV hSC hK hd h
  · exact zk_ast_ok hx hb hV hO hB (ks := [1]) (by decide) hd hK h
  · exact zk_ast_ok hx hb hV hO hB (ks := [2, 3]) (by decide) hd hK h
  · exact zk_ast_ok hx hb hV hO hB (ks := [4]) (by decide) hd hK h
  · rcases Bool.or_eq_true _ _ ▸ h with h | h
    · exact zk_ast_ok hx hb hV hO hB (ks := [10, 12, 13, 14, 19]) (by decide) hd hK h
    · exact zk_rast_ok hx hb hV hO.1 hd hK h
  · exact zk_new_ok hx hb hown hV hNX hO.1 hn0 hR hK hd h
  · exact zk_newa_ok hQ hx hb hV hAC hO.1 hn0 hR hK hd h
  · exact zk_anew_ok hx hb hown hV hNA hO.1 hn0 hR hK hd h
  · cases h
end
