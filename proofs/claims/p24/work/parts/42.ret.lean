/-! THE CHECKER, 26: returns, and a method's contract. -/
def zk_ret1 (n0 : Nat) (v : Option zV) (A : zA) (c : Option zV × zP × zG) (u : zU) : Bool := decide (c.1.map (zk_va u) = v) && zk_inP u A.2.2.1 c.2.1 && zk_inG u A.2.2.2.1 c.2.2 && u.all (fun q => Nat.ble n0 q.1 && Nat.blt 0 q.1)
def zk_retu (n0 : Nat) (v : Option zV) (A : zA) (c : Option zV × zP × zG) : zU := zk_mtG n0 A.2.2.2.1 c.2.2 (match c.1, v with | some w, some v => zk_bd n0 [] w v | _, _ => [])
def zk_ret (n0 : Nat) (cs : zQ) (v : Option zV) (A : zA) : Bool := decide (A.2.2.2.2.2.2.1 ≤ cs.2.2.2.2.1 ∧ A.2.2.2.2.2.2.2 ≤ cs.2.2.2.2.2) && cs.2.2.1.any (fun c => zk_ret1 n0 v A c (zk_retu n0 v A c))
/-- how a method's frame begins -/
def zk_E0 (nL : Nat) (cs : zQ) (r : Nat → Int) (ty : Nat → Nat) (H0 : Heap) (M : Int) : zE := (nL, (cs.1.1, r), cs.2.2.2.1, (zk_U r cs.2.1.2.2, ty, H0), M)
theorem zk_ret_ok {D : zD} {cs : zQ} {nL : Nat} {r0 : Nat → Int} {ty0 : Nat → Nat} {s t : State} {M : Int} {A : zA} {r : Nat → Int} {ty : Nat → Nat} {H : Heap} {locs : List Loc} {ls : Array Slot} {st : List Value} {v : Option zV} (I : zk_I D (zk_E0 nL cs r0 ty0 s.heap M) A r ty H locs ls st) (ht : t.heap = H) (h : zk_ret cs.1.1 cs v A = true) : zk_Qc D cs r0 ty0 s (.returned (v.map (zk_c r))) t := by
  simp only [zk_ret, Bool.and_eq_true, List.any_eq_true] at h
  obtain ⟨-, c, hc, h⟩ := h
  simp only [zk_ret1, Bool.and_eq_true, decide_eq_true_eq, List.all_eq_true] at h
  generalize zk_retu cs.1.1 v A c = u at h
  obtain ⟨⟨⟨h1, h2⟩, h3⟩, h4⟩ := h
  obtain ⟨a1, a2, a3, a4, a5, a6, a7, a8, a9, a10, a11⟩ := I
  have hz : ∀ x, x < cs.1.1 → zk_cp r u x = r x := fun x hx => by
    have e : zk_sx u x = (x, 0) := zk_sx_id (fun q hq => by
      have k1 := Nat.le_of_ble_eq_true (h4 q hq).1
      omega)
    unfold zk_cp
    rw [e]
    dsimp only
    omega
  refine ⟨c, hc, zk_cp r u, ty, fun x hx => ?_, ?_, zk_inP_ok a3 h2, by rw [ht]; exact zk_inG_ok a4 h3, by rw [ht]; exact a5, by rw [ht]; exact a6⟩
  · rw [hz x hx]; exact a8 x hx
  · rw [← h1]
    cases c.1 with
    | none => rfl
    | some w => simp only [Option.map_some]; rw [zk_c_va]
section
variable {p : Program} {l : Launch} {e : Env} {R : Room} {s : State} {m : MethodId} {args : Array Value} {below : List Frame} {meth : Method} {c : Code} {cc : ByteArray} {D : zD} {cs : zQ} {nL : Nat} {r0 : Nat → Int} {ty0 : Nat → Nat} {M : Int} {pc : Nat} {A : zA}
/-- the end of a method with this contract -/
def zk_MQ (below : List Frame) (D : zD) (cs : zQ) (r0 : Nat → Int) (ty0 : Nat → Nat) (args : Array Value) (s : State) : State → Prop := MQ below (fun _ st o t => zk_Qc D cs r0 ty0 st o t) args s cs.2.2.2.2.1 cs.2.2.2.2.2 (fun q => D.ba ≤ q)
def zk_retX (n0 : Nat) (cs : zQ) (A : zA) (i : Instr) (len : Nat) : Bool := match i, len with
  | .ireturn, 1 => (match A.2.1 with | [v] => decide (v.1 = 0) && zk_ret n0 cs (some v) A | _ => false)
  | .lreturn, 1 => (match A.2.1 with | [v] => decide (v.1 = 1) && zk_ret n0 cs (some v) A | _ => false)
  | .return_, 1 => (match A.2.1 with | [] => zk_ret n0 cs none A | _ => false)
  | _, _ => false
/-- rt: the method's type of answer; of a boolean the answer must be 0 or 1 -/
def zk_retok (rt : Option FieldType) (A : zA) (i : Instr) : Bool := match i with
  | .ireturn => (match rt with | some .int => true | some .boolean => (match A.2.1 with | [v] => zk_inb A.2.2.1 v 0 1 | _ => false) | _ => false)
  | .lreturn => decide (rt = some .long)
  | .return_ => decide (rt = none)
  | _ => false
theorem zk_retX_ok {rt : Option FieldType} (hx : p.tables.exec = Jvm.exec) (hb : c.code = cc) (hr : meth.sig.returnType = rt) (hlocks : meth.locks = false) {i : Instr} {len : Nat} (hd : decode cc pc = .ok (i, len)) (h : zk_retX cs.1.1 cs A i len = true) (hk : zk_retok rt A i = true) : zk_W p l e R s m args below meth c (zk_MQ below D cs r0 ty0 args s) D (zk_E0 nL cs r0 ty0 s.heap M) pc A := by
  intro r ty H locs ls st I
  have hst := I.2.1
  subst hst
  have hl := I.2.2.2.2.2.2.2.2.2.1
  unfold zk_retX at h
  split at h
  · split at h
    rotate_left
    · cases h
    rename_i v hS
    simp only [Bool.and_eq_true, decide_eq_true_eq] at h
    have hw := h.2
    simp only [zk_ret, Bool.and_eq_true, decide_eq_true_eq] at hw
    refine W.widen hw.1.1 hw.1.2 ?_
    rw [hS]
    show W p l e R s m args below meth c H locs _ _ _ (F0 m pc ls [zk_c r v])
    rw [zk_e0 h.1]
    unfold zk_retok at hk
    dsimp only at hk
    have hq : ∀ t : State, t.heap = H → s.WarmedH t.vm → zk_Qc D cs r0 ty0 s (.returned (some (.int (Int32.ofInt (zk_n r v))))) t := fun t ht _ => by
      have := zk_ret_ok I ht h.2
      rw [Option.map_some, zk_e0 h.1] at this
      exact this
    split at hk
    · exact W.iret hx hb hr hq hl hd
    · rw [hS] at hk
      dsimp only at hk
      have hb2 := zk_inb_ok I.2.2.1 hk
      refine W.zret hx hb hr ?_ hq hl hd
      rcases (show zk_n r v = 0 ∨ zk_n r v = 1 by omega) with z | z <;> rw [z] <;> decide
    · cases hk
  · split at h
    rotate_left
    · cases h
    rename_i v hS
    simp only [Bool.and_eq_true, decide_eq_true_eq] at h
    have hw := h.2
    simp only [zk_ret, Bool.and_eq_true, decide_eq_true_eq] at hw
    refine W.widen hw.1.1 hw.1.2 ?_
    rw [hS]
    show W p l e R s m args below meth c H locs _ _ _ (F0 m pc ls [zk_c r v])
    rw [zk_e1 h.1]
    simp only [zk_retok, decide_eq_true_eq] at hk
    refine W.lret hx hb (by rw [hr]; exact hk) (fun t ht _ => ?_) hl hd
    have := zk_ret_ok I ht h.2
    rw [Option.map_some, zk_e1 h.1] at this
    exact this
  · split at h
    rotate_left
    · cases h
    rename_i hS
    have hw := h
    simp only [zk_ret, Bool.and_eq_true, decide_eq_true_eq] at hw
    refine W.widen hw.1.1 hw.1.2 ?_
    rw [hS]
    simp only [zk_retok, decide_eq_true_eq] at hk
    refine W.vret hx hb (by rw [hr]; exact hk) (fun t ht _ => ?_) hl hd
    exact zk_ret_ok I ht h
  · cases h
end
