/-! THE LAW, 1: contracts over a world with a script; calls, script and end of the law. -/
def R_law : String := "BothListsLaw"
def lw_P (b : Addr) (xs : List Int32) (args : Array Value) (s : State) : Prop := args = #[.ref b] ∧ s.IntsAt b xs ∧ xs.length ≤ 3072 ∧ (Jvm.Cond.and given_1 narrow_1).before args s = true
def lw_Q (_ : Array Value) (s : State) (o : Outcome) (t : State) : Prop := o = .returned (some (.int 1)) ∧ Framed s o t [] 600000 7302250
def lw_Z (below : List Frame) (a : Array Value) (s : State) : State → Prop := fun t => ∃ o, t.status = .running ∧ Ended t below o ∧ lw_Q a s o t
/-- the law's own end, with 1 on the stack, nothing written that was there before, its room as the claim has it -/
theorem lw_ret {p : Program} {l : Launch} {e : Env} {s : State} {m : MethodId} {below : List Frame} {meth : Method} {c : Code} {b : Nat} (hx : p.tables.exec = Jvm.exec) (hb : c.code = code) (hr : meth.sig.returnType = ret) (hlocks : meth.locks = false) {pc : Nat} {H : Heap} {ls : Array Slot} (hdg : decode code pc = .ok (.ireturn, 1)) : W p l e room_1 s m #[Value.ref b] below meth c H [] 600000 7302250 (lw_Z below #[Value.ref b] s) (F0 m pc ls [.int 1]) := by
  intro T hT X
  obtain ⟨fs, hret, hrun, hended, hW, hframe⟩ := X.leave (v := some (.int 1)) (hlocks := hlocks) (fun h => by rw [hr] at h; cases h)
  have hmeth' : T.vm.method? m = some meth := X.method'
  refine ⟨T.setFrames fs, ?_, .returned (some (.int 1)), hrun, hended, rfl, ⟨_, rfl⟩, hW, hframe⟩
  jvm_step X.here [X.here.top, hx, hb, hdg, hmeth', hr, ret, narrow_b1]
  (try refine ⟨rfl, ?_⟩); (try refine ⟨rfl, ?_⟩)
  first | (intro acts; rw [hret _ acts rfl rfl rfl]) | rw [hret _ _ rfl rfl rfl]
  exact Steps.refl _
/-- what holds at the law's entry: the machine, the code, the tables' words, the script, the start -/
def lw_At (p : Program) (s : State) (m : MethodId) (meth : Method) (c : Code) (b L : Nat) (xs : Nat → Int32) : Prop :=
  p.tables.exec = Jvm.exec ∧ c.code = code ∧ meth.sig.returnType = ret ∧ c.maxLocals = 4 ∧ s.vm.findClass R_law = some m.cls ∧ (∀ w ∈ lw_tbl, w.before #[Value.ref b] s = true) ∧ va_X b L xs s s.heap ∧ b < s.heap.size ∧ meth.locks = false ∧ (Jvm.Cond.and given_1 narrow_1).before #[Value.ref b] s = true
/-- the world without its script -/
def zsc (D : zD) : zD := (D.1, D.2.1, D.2.2.1, D.2.2.2.1, D.2.2.2.2.1, D.2.2.2.2.2.1, (fun _ _ => False), D.2.2.2.2.2.2.2)
theorem zMet_w {l : Launch} {y : MethodName} {ws : List Cond} {rm : Room} {P P' : Array Value → State → Prop} {Q Q' : Array Value → State → Outcome → State → Prop} {mc ms : Nat} {free : Addr → Prop} (h : Met l y ws rm P Q mc ms free) (hp : ∀ a s, P' a s → P a s) (hq : ∀ a s o t, Q a s o t → Q' a s o t) : Met l y ws rm P' Q' mc ms free := by
  intro p e ha hc hk s m args below hf happ hP hK
  obtain ⟨k, o, h1, h2, h3, hQ⟩ := h p e ha hc hk s m args below hf happ (hp _ _ hP) hK
  exact ⟨k, o, h1, h2, h3, hq _ _ _ _ hQ.1, hQ.2⟩
theorem zH_sc {D : zD} {r : Nat → Int} {ty : Nat → Nat} {H : Heap} {G : zG} (hG : G.2.2.2.2.1 = []) (h : zk_H D r ty H G) : zk_H (zsc D) r ty H G := ⟨h.1, h.2.1, h.2.2.1, h.2.2.2.1, h.2.2.2.2.1, fun q hq => by (rw [hG] at hq; cases hq), h.2.2.2.2.2.2⟩
theorem zH_cs {D : zD} {r : Nat → Int} {ty : Nat → Nat} {H : Heap} {G : zG} (hG : G.2.2.2.2.1 = []) (h : zk_H (zsc D) r ty H G) : zk_H D r ty H G := ⟨h.1, h.2.1, h.2.2.1, h.2.2.2.1, h.2.2.2.2.1, fun q hq => by (rw [hG] at hq; cases hq), h.2.2.2.2.2.2⟩
def zk_nsc (cs : zQ) : Bool := cs.2.1.2.2.2.2.2.2.1.isEmpty && cs.2.2.1.all (fun c => c.2.2.2.2.2.2.1.isEmpty)
theorem zC_sc {D : zD} {l : Launch} {M : zM} (hn : zk_nsc M.cs = true) (h : zC (zsc D) l M) : zC D l M := by
  simp only [zk_nsc, Bool.and_eq_true, List.all_eq_true, List.isEmpty_iff] at hn
  intro r ty
  refine zMet_w (h r ty) (fun a U hP => ⟨hP.1, hP.2.1, hP.2.2.1, hP.2.2.2.1, zH_sc hn.1 hP.2.2.2.2.1, hP.2.2.2.2.2⟩) (fun a st o t hQ => ?_)
  obtain ⟨c, hc, r', ty', q1, q2, q3, q4, q5, q6⟩ := hQ
  exact ⟨c, hc, r', ty', q1, q2, q3, zH_cs (hn.2 c hc) q4, q5, q6⟩
theorem zCs_sc {D : zD} {l : Launch} : ∀ {HX : List zX}, HX.all (fun x => zk_nsc x.2.2.2.cs) = true → zCs (zsc D) l HX → zCs D l HX
  | [], _, _ => trivial
  | x :: t, hn, h => by
    simp only [List.all_cons, Bool.and_eq_true] at hn
    exact ⟨zC_sc hn.1 h.1, zCs_sc hn.2 h.2⟩
theorem zk_goodL (M' : zM) (h : Cond.code M'.y M'.b M'.n M'.rt ∈ zw) : GoodIn zw (zk_ws M') := by
  intro w hw
  have h1 : w ∈ zw := by
    rcases List.mem_cons.mp hw with e | e
    · rw [e]; exact h
    · exact e
  exact ⟨h1, good_of_word (List.mem_filter.mp h1).2⟩
/-- a load out of the script that is kept in mind: fact 70 -/
def zk_sldm (n0 : Nat) (K : Nat → zA → Bool) (pc : Nat) (A : zA) : Bool :=
  match A.2.1 with
  | i :: v :: S => decide (v.1 = 2 ∧ v.2.2 = 0 ∧ i.1 = 0) && (match zk_find A.2.2.2.1.2.2.2.2.1 v.2.1 with
      | some u => zk_inb A.2.2.1 i 0 2147483647 && (zk_leb A.2.2.1 i u (-1) && (match A.2.2.2.1.2.2.2.2.2.find? (fun q => Nat.beq q.1 70 && (match q.2 with | [j, w] => decide (j = i ∧ w.1 = 0) | _ => false)) with
        | some q => (match q.2 with | [_, w] => K (pc + 1) (zk_ss (w :: S) A) | _ => false)
        | none => zk_ok n0 A && K (pc + 1) (((zk_rd 0 (-2147483648, 2147483647) [] [] S A).1, (zk_rd 0 (-2147483648, 2147483647) [] [] S A).2.1, (zk_rd 0 (-2147483648, 2147483647) [] [] S A).2.2.1, (A.2.2.2.1.1, A.2.2.2.1.2.1, A.2.2.2.1.2.2.1, A.2.2.2.1.2.2.2.1, A.2.2.2.1.2.2.2.2.1, (70, [i, (0, A.2.2.2.2.1, 0)]) :: A.2.2.2.1.2.2.2.2.2), (zk_rd 0 (-2147483648, 2147483647) [] [] S A).2.2.2.2))))
      | none => false)
  | _ => false
/-- what the law does beyond the checker's steps -/
def zk_XTL (TT : Nat → zS) (PF : Nat → List (Nat × Nat)) (F : List (Nat × Nat)) (PB : Nat → List Nat) (B : List Nat) (n0 : Nat) (HX : List zX) (K : Nat → zA → Bool) (pc : Nat) (A : zA) (i : Instr) (len : Nat) : Bool := match i, len with
  | .invokevirtual x, 3 => HX.any (fun h => Nat.beq h.1 x && (Nat.beq h.2.1 2 && (zk_rcv TT h.2.2.1 (zk_cu h.2.2.2.cs A) h.2.2.2.cs A && zk_call PF F PB B n0 600000 7302250 h.2.2.2.cs (zk_cu h.2.2.2.cs A) K pc A)))
  | .invokespecial x, 3 => HX.any (fun h => Nat.beq h.1 x && (Nat.beq h.2.1 3 && (zk_rcv TT h.2.2.1 (zk_cu h.2.2.2.cs A) h.2.2.2.cs A && zk_call PF F PB B n0 600000 7302250 h.2.2.2.cs (zk_cu h.2.2.2.cs A) K pc A)))
  | .iaload, 1 => zk_sldm n0 K pc A
  | .ireturn, 1 => decide (A.2.1 = [(0, 0, 1)] ∧ A.2.2.2.2.2.2.1 ≤ 600000 ∧ A.2.2.2.2.2.2.2 ≤ 7302250)
  | _, _ => false
def zk_70 (D : zD) (s : State) : Prop := ∀ (ty : Nat → Nat) (H : Heap) (a : Nat) (n i w : Int), D.SC a n → (D.OP 70 ty H [i, w] ↔ ∃ cell : Cell, s.heap[a]? = some cell ∧ cell.slots[i.toNat]? = some (.int (Int32.ofInt w)))
section
variable {p : Program} {l : Launch} {e : Env} {s : State} {m : MethodId} {b : Nat} {below : List Frame} {meth : Method} {c : Code} {D : zD} {E : zE} {Q : State → Prop} {PF : Nat → List (Nat × Nat)} {PB : Nat → List Nat} {F : List (Nat × Nat)} {B : List Nat} {n0 : Nat}
theorem zk_sldm_ok {pc : Nat} {A : zA} {K : Nat → zA → Bool} (hx : p.tables.exec = Jvm.exec) (hb : c.code = code) (hn0 : n0 = E.2.1.1) (hSC : zk_SC D E s) (h70 : zk_70 D s) (hK : ∀ (n : Nat) (A : zA), K n A = true → zk_W p l e room_1 s m #[Value.ref b] below meth c Q D E n A) (hd : decode code pc = .ok (.iaload, 1)) (h : zk_sldm n0 K pc A = true) : zk_W p l e room_1 s m #[Value.ref b] below meth c Q D E pc A := by
  unfold zk_sldm at h
  split at h
  rotate_left
  · cases h
  rename_i i v S hS
  simp only [Bool.and_eq_true, decide_eq_true_eq] at h
  obtain ⟨⟨hv1, hv2, hi⟩, h⟩ := h
  split at h
  rotate_left
  · cases h
  rename_i u hu
  simp only [Bool.and_eq_true] at h
  obtain ⟨hin, hle, h⟩ := h
  intro r ty H locs ls st I
  have h2 := I.2.1
  subst h2
  rw [hS, List.map_cons, List.map_cons, zk_ref ⟨hv1, hv2⟩, zk_e0 hi]
  obtain ⟨g1, g2, g3, g4, g5, g6, g7⟩ := I.2.2.2.1
  obtain ⟨q1, q2⟩ := g6 _ (zk_find_mem hu)
  obtain ⟨cell, s1, s2, s3, s4, s5, s6, s7⟩ := hSC _ _ q2
  have b1 := zk_inb_ok I.2.2.1 hin
  have b2 := zk_leb_ok I.2.2.1 hle
  have hix := zk_ix (a := zk_n r i) (n := cell.slots.size) b1.1 (by dsimp only at s4; omega) (by omega)
  obtain ⟨y, hy⟩ := s6 (zk_n r i).toNat (by dsimp only at s4; omega)
  refine W.iald hx hb (s7 H ty I.2.2.2.2.1 I.2.2.2.2.2.1) s2 s3 hix.1 (v := .int y) (by rw [hix.2]; exact hy) rfl rfl hd ?_
  split at h
  · rename_i q hq
    have m1 := List.mem_of_find?_eq_some hq
    have m2 := List.find?_some hq
    split at h
    rotate_left
    · cases h
    rename_i j w hjw
    simp only [hjw, Bool.and_eq_true, decide_eq_true_eq] at m2
    obtain ⟨m3, rfl, hw⟩ := m2
    have o := g7 q m1
    rw [Nat.eq_of_beq_eq_true m3, hjw] at o
    obtain ⟨cell', t1, t2⟩ := (h70 _ _ _ _ _ _ q2).mp o
    rw [t1] at s1
    cases s1
    rw [t2] at hy
    cases hy
    have hk := hK _ _ h r ty H locs ls _ (zk_I_ss I)
    rw [List.map_cons, zk_e0 hw] at hk
    exact hk
  · simp only [Bool.and_eq_true] at h
    obtain ⟨hok, h⟩ := h
    have hok : zk_ok E.2.1.1 A = true := hn0 ▸ hok
    have I2 := zk_I_rd (z := y.toInt) (t := 0) (i := (-2147483648, 2147483647)) (fm := []) (em := []) (S := S) hok I (fun u hu => by rw [hS]; simp [hu]) (by rw [if_neg (by decide)]; exact zk_b32 y) (fun q hq => by cases hq) (fun q hq => by cases hq)
    have fi : i.2.1 < A.2.2.2.2.1 := zk_okS hok (by rw [hS]; exact List.mem_cons_self)
    obtain ⟨a1, a2, a3, ⟨c1, c2, c3, c4, c5, c6, c7⟩, a5⟩ := I2
    have I3 : zk_I D E ((zk_rd 0 (-2147483648, 2147483647) [] [] S A).1, (zk_rd 0 (-2147483648, 2147483647) [] [] S A).2.1, (zk_rd 0 (-2147483648, 2147483647) [] [] S A).2.2.1, (A.2.2.2.1.1, A.2.2.2.1.2.1, A.2.2.2.1.2.2.1, A.2.2.2.1.2.2.2.1, A.2.2.2.1.2.2.2.2.1, (70, [i, (0, A.2.2.2.2.1, 0)]) :: A.2.2.2.1.2.2.2.2.2), (zk_rd 0 (-2147483648, 2147483647) [] [] S A).2.2.2.2) (zk_u r A.2.2.2.2.1 y.toInt) ty H locs ls (zk_k 0 y.toInt :: S.map (zk_c r)) := by
      refine ⟨a1, a2, a3, ⟨c1, c2, c3, c4, c5, c6, fun q hq => ?_⟩, a5⟩
      rcases List.mem_cons.mp hq with rfl | hq
      · show D.OP 70 ty H [zk_n _ i, zk_n _ (0, A.2.2.2.2.1, 0)]
        rw [zk_n_new fi, zk_n_n]
        refine (h70 _ _ _ _ _ _ q2).mpr ⟨cell, s1, ?_⟩
        rw [hy, Int32.ofInt_toInt]
      · exact c7 q hq
    have hk := hK _ _ h _ ty H locs ls _ I3
    have e1 : zk_k 0 y.toInt = .int y := by simp [zk_k]
    rw [e1] at hk
    exact hk
theorem zk_XTL_ok {HX : List zX} (hx : p.tables.exec = Jvm.exec) (hb : c.code = code) (hml : c.maxLocals = 4) (hown : s.vm.findClass R_law = some m.cls) (hw : ∀ w ∈ zw, w.before #[Value.ref b] s = true) (hk : zk_kn D zcl s) (hr : meth.sig.returnType = ret) (hlocks : meth.locks = false) (hO : zk_stable D PF PB) (hE : E.1 = 4) (hn0 : n0 = E.2.1.1) (hF : F = E.2.2.1.1) (hB : B = E.2.2.1.2) (hSC : zk_SC D E s) (h70 : zk_70 D s) (hba : D.ba = s.heap.size)
    (hC : ∀ h ∈ HX, zk_con D zcl l h.2.2.2.y (zk_ws h.2.2.2) h.2.2.2.rm h.2.2.2.cs ∧ zk_hw zcl R_law room_1 h) :
    zk_XT p l e room_1 s m #[Value.ref b] below meth c (lw_Z below #[Value.ref b] s) code D E (zk_XTL D.TT PF F PB B n0 HX) := by
  intro K hK pc A i len hd h
  have S : CallFix p m c code E.1 s #[Value.ref b] zw R_law := ⟨hx, hb, by rw [hml, hE], hown, hw⟩
  unfold zk_XTL at h
  split at h
  · rename_i x
    obtain ⟨hh, hm, h⟩ := List.any_eq_true.mp h
    simp only [Bool.and_eq_true] at h
    obtain ⟨h1, h2, h2', h3⟩ := h
    have e1 := Nat.eq_of_beq_eq_true h1
    have e2 := Nat.eq_of_beq_eq_true h2
    obtain ⟨hc, w1, w2, w3, w4, w5, w6⟩ := hC hh hm
    rw [if_neg (by omega)] at w5
    rw [if_neg (by omega), if_neg (by omega), if_pos e2] at w6
    obtain ⟨w7, w8, q, w9, w10⟩ := w6
    subst e1
    exact zk_callV_ok (bytes := hh.2.2.2.b) (maxL := hh.2.2.2.n) (ret := hh.2.2.2.rt) w9 S hk hc ⟨callB_of _ hw (zk_goodL hh.2.2.2 w1) rfl w3.1 w3.2.1 (hw _ w2) (hw _ w7) ⟨w4.1, w4.2, w5⟩ ⟨w3.2.2.1, w3.2.2.2⟩, hw _ w8, hw _ w10⟩ hd hO hF hB hn0 ⟨Nat.le_refl _, Nat.le_refl _⟩ hK h2' h3
  · rename_i x
    obtain ⟨hh, hm, h⟩ := List.any_eq_true.mp h
    simp only [Bool.and_eq_true] at h
    obtain ⟨h1, h2, h2', h3⟩ := h
    have e1 := Nat.eq_of_beq_eq_true h1
    have e2 := Nat.eq_of_beq_eq_true h2
    obtain ⟨hc, w1, w2, w3, w4, w5, w6⟩ := hC hh hm
    rw [if_neg (by omega)] at w5
    rw [if_neg (by omega), if_neg (by omega), if_neg (by omega)] at w6
    obtain ⟨w7, w8, w9, w10, q, w11⟩ := w6
    subst e1
    have cb := callB_of _ hw (zk_goodL hh.2.2.2 w1) rfl w3.1 w3.2.1 (hw _ w2) (hw _ w7) ⟨w4.1, w4.2, w5⟩ ⟨w3.2.2.1, w3.2.2.2⟩
    rw [w10] at cb
    exact zk_callI_ok (bytes := hh.2.2.2.b) (maxL := hh.2.2.2.n) w11 S hk hc ⟨cb, w9, hw _ w8⟩ hd hO hF hB hn0 ⟨Nat.le_refl _, Nat.le_refl _⟩ hK h2' h3
  · exact zk_sldm_ok hx hb hn0 hSC h70 hK hd h
  · simp only [decide_eq_true_eq] at h
    obtain ⟨h1, h2, h3⟩ := h
    intro r ty H locs ls st I
    have hst := I.2.1
    have h0 := I.2.2.2.2.2.2.1
    have e1 : st = [.int 1] := by
      rw [hst, h1]
      show [Value.int (Int32.ofInt (r 0 + 1))] = _
      rw [h0]
      rfl
    rw [e1]
    refine va_forget (fun q hq => ?_) (W.widen h2 h3 (lw_ret hx hb hr hlocks hd))
    have := I.2.2.2.2.2.2.2.2.2.1 q hq
    rw [hba] at this
    exact this
  · cases h
end
