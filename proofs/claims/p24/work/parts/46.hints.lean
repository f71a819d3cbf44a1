/-! THE CHECKER, 30: one list of words for all methods; calls by hints. -/
def zw : List Cond := lw_tbl.filter goodWord
theorem zw_in {i : Nat} {w : Cond} (h : lw_tbl[i]? = some w) (hg : goodWord w = true) : w ∈ zw := List.mem_filter.mpr ⟨List.mem_of_getElem? h, hg⟩
/-- method: name, bytes, locals, type of answer, room, contract -/
abbrev zM : Type := MethodName × ByteArray × Nat × Option FieldType × Room × zQ
abbrev zM.y (M : zM) := M.1
abbrev zM.b (M : zM) := M.2.1
abbrev zM.n (M : zM) := M.2.2.1
abbrev zM.rt (M : zM) := M.2.2.2.1
abbrev zM.rm (M : zM) := M.2.2.2.2.1
abbrev zM.cs (M : zM) := M.2.2.2.2.2
def zk_ws (M : zM) : List Cond := Cond.code M.y M.b M.n M.rt :: zw
theorem zk_good (M M' : zM) (h : Cond.code M'.y M'.b M'.n M'.rt ∈ zw) : GoodIn (zk_ws M) (zk_ws M') := by
  intro w hw
  have h1 : w ∈ zw := by
    rcases List.mem_cons.mp hw with e | e
    · rw [e]; exact h
    · exact e
  exact ⟨List.mem_cons_of_mem _ h1, good_of_word (List.mem_filter.mp h1).2⟩
/-- a hint: entry, kind (0 static, 1 a nest mate's static, 2 virtual, 3 constructor), class of the receiver, callee -/
abbrev zX : Type := Nat × Nat × Nat × zM
def zk_cu (cs : zQ) (A : zA) : zU := zk_mtG 1 A.2.2.2.1 cs.2.1.2.2 (zk_mtV 1 cs.2.1.1 (A.2.1.take cs.2.1.1.length).reverse [])
def zk_XTc (TT : Nat → zS) (PF : Nat → List (Nat × Nat)) (F : List (Nat × Nat)) (PB : Nat → List Nat) (B : List Nat) (rt : Option FieldType) (rm : Room) (cs0 : zQ) (OI : Option Nat) (HX : List zX) (K : Nat → zA → Bool) (pc : Nat) (A : zA) (i : Instr) (len : Nat) : Bool := match i, len with
  | .invokestatic x, 3 => HX.any (fun h => Nat.beq h.1 x && (Nat.ble h.2.1 1 && zk_call PF F PB B cs0.1.1 rm.cells rm.slots h.2.2.2.cs (zk_cu h.2.2.2.cs A) K pc A))
  | .invokevirtual x, 3 => HX.any (fun h => Nat.beq h.1 x && (Nat.beq h.2.1 2 && (zk_rcv TT h.2.2.1 (zk_cu h.2.2.2.cs A) h.2.2.2.cs A && zk_call PF F PB B cs0.1.1 rm.cells rm.slots h.2.2.2.cs (zk_cu h.2.2.2.cs A) K pc A)))
  | .invokespecial x, 3 => (decide (OI = some x ∧ 1 ≤ rm.frames ∧ 24 ≤ rm.locals) && (match A.2.1 with | v :: S => decide (v.1 = 2 ∧ (S.map (fun v => if v.1 = 1 then 2 else 1)).sum ≤ 8) && K (pc + 3) (zk_ss S A) | _ => false)) ||
      HX.any (fun h => Nat.beq h.1 x && (Nat.beq h.2.1 3 && (zk_rcv TT h.2.2.1 (zk_cu h.2.2.2.cs A) h.2.2.2.cs A && zk_call PF F PB B cs0.1.1 rm.cells rm.slots h.2.2.2.cs (zk_cu h.2.2.2.cs A) K pc A)))
  | i, len => zk_retok rt A i && zk_retX cs0.1.1 cs0 A i len
/-- what a hint rests on, apart from its contract -/
def zk_hw (cl : List vw_C) (own : String) (R : Room) (h : zX) : Prop :=
  Cond.code h.2.2.2.y h.2.2.2.b h.2.2.2.n h.2.2.2.rt ∈ zw ∧ Cond.initialized h.2.2.2.y.cls ∈ zw ∧ (h.2.2.2.rm.cells = h.2.2.2.cs.2.2.2.2.1 ∧ h.2.2.2.rm.slots = h.2.2.2.cs.2.2.2.2.2 ∧ h.2.2.2.rm.frames + 1 ≤ R.frames ∧ 8 + (h.2.2.2.n + 11) + h.2.2.2.rm.locals ≤ R.locals) ∧
  (h.2.2.2.y.cls ≠ "java/lang/invoke/MethodHandle" ∧ h.2.2.2.y.cls ≠ "java/lang/invoke/VarHandle") ∧ (parseMethodDescriptor h.2.2.2.y.desc).map (fun d => d.parameters.length) = some (if h.2.1 ≤ 1 then h.2.2.2.cs.2.1.1.length else h.2.2.2.cs.2.1.1.length - 1) ∧
  (if h.2.1 = 0 then Cond.methodLink own h.1 h.2.2.2.y ∈ zw ∧ Cond.static h.2.2.2.y ∈ zw
   else if h.2.1 = 1 then (∃ host, (own, h.1, h.2.2.2.y, host) ∈ zk_nst) ∧ Cond.static h.2.2.2.y ∈ zw
   else if h.2.1 = 2 then Cond.methodLink own h.1 h.2.2.2.y ∈ zw ∧ Cond.instanceMethod h.2.2.2.y ∈ zw ∧ ∃ q, cl[h.2.2.1]? = some q ∧ Cond.selects q.1 h.2.2.2.y h.2.2.2.y ∈ zw
   else Cond.methodLink own h.1 h.2.2.2.y ∈ zw ∧ Cond.instanceMethod h.2.2.2.y ∈ zw ∧ h.2.2.2.y.name = "<init>" ∧ h.2.2.2.rt = none ∧ ∃ q, cl[h.2.2.1]? = some q)
section
variable {p : Program} {l : Launch} {e : Env} {s : State} {m : MethodId} {args : Array Value} {below : List Frame} {meth : Method} {c : Code} {D : zD} {cl : List vw_C} {PF : Nat → List (Nat × Nat)} {PB : Nat → List Nat} {own : String}
theorem zk_XTc_ok {M0 : zM} {OI : Option Nat} {HX : List zX} {r0 : Nat → Int} {ty0 : Nat → Nat} {M : Int} (hx : p.tables.exec = Jvm.exec) (hb : c.code = M0.b) (hml : c.maxLocals = M0.n) (hown : s.vm.findClass own = some m.cls) (hts : ∀ w ∈ zk_ws M0, w.before args s = true) (hk : zk_kn D cl s) (hr : meth.sig.returnType = M0.rt) (hlocks : meth.locks = false) (hO : zk_stable D PF PB)
    (hOI : ∀ x, OI = some x → Cond.methodLink own x Lib.objectInit ∈ zw ∧ Cond.instanceMethod Lib.objectInit ∈ zw ∧ Cond.code Lib.objectInit ⟨#[0xb1]⟩ 1 none ∈ zw)
    (hC : ∀ h ∈ HX, zk_con D cl l h.2.2.2.y (zk_ws h.2.2.2) h.2.2.2.rm h.2.2.2.cs ∧ zk_hw cl own M0.rm h) :
    zk_XT p l e M0.rm s m args below meth c (zk_MQ below D M0.cs r0 ty0 args s) M0.b D (zk_E0 M0.n M0.cs r0 ty0 s.heap M) (zk_XTc D.TT PF M0.cs.2.2.2.1.1 PB M0.cs.2.2.2.1.2 M0.rt M0.rm M0.cs OI HX) := by
  intro K hK pc A i len hd h
  have S : CallFix p m c M0.b (zk_E0 M0.n M0.cs r0 ty0 s.heap M).1 s args (zk_ws M0) own := ⟨hx, hb, hml, hown, hts⟩
  have hw : ∀ w ∈ zw, w.before args s = true := fun w h => hts w (List.mem_cons_of_mem _ h)
  unfold zk_XTc at h
  split at h
  · rename_i x
    obtain ⟨hh, hm, h⟩ := List.any_eq_true.mp h
    simp only [Bool.and_eq_true] at h
    obtain ⟨h1, h2, h3⟩ := h
    have e1 := Nat.eq_of_beq_eq_true h1
    have e2 := Nat.le_of_ble_eq_true h2
    obtain ⟨hc, w1, w2, w3, w4, w5, w6⟩ := hC hh hm
    rw [if_pos e2] at w5
    subst e1
    by_cases e3 : hh.2.1 = 0
    · rw [if_pos e3] at w6
      exact zk_callS_ok (bytes := hh.2.2.2.b) (maxL := hh.2.2.2.n) (ret := hh.2.2.2.rt) S hk hc ⟨callB_of _ hts (zk_good M0 hh.2.2.2 w1) rfl w3.1 w3.2.1 (hw _ w2) (hw _ w6.1) ⟨w4.1, w4.2, w5⟩ ⟨w3.2.2.1, w3.2.2.2⟩, hw _ w6.2⟩ hd hO rfl rfl rfl ⟨Nat.le_refl _, Nat.le_refl _⟩ hK h3
    · rw [if_neg e3, if_pos (by omega)] at w6
      obtain ⟨⟨host, w7⟩, w8⟩ := w6
      exact zk_callSN_ok (bytes := hh.2.2.2.b) (maxL := hh.2.2.2.n) (ret := hh.2.2.2.rt) (host := host) S hk hc ⟨va_cnB _ hts (zk_good M0 hh.2.2.2 w1) rfl w3.1 w3.2.1 (hk.2.2.1 _ w7) (hw _ w2) ⟨w4.1, w4.2, w5⟩ ⟨w3.2.2.1, w3.2.2.2⟩, hw _ w8, trivial⟩ hd hO rfl rfl rfl ⟨Nat.le_refl _, Nat.le_refl _⟩ hK h3
  · rename_i x
    obtain ⟨hh, hm, h⟩ := List.any_eq_true.mp h
    simp only [Bool.and_eq_true] at h
    obtain ⟨h1, h2, h2', h3⟩ := h
    have e1 := Nat.eq_of_beq_eq_true h1
    have e2 := Nat.eq_of_beq_eq_true h2
    obtain ⟨hc, w1, w2, w3, w4, w5, w6⟩ := hC hh hm
    rw [if_neg (by omega)] at w5
    rw [if_neg (by omega), if_neg (by omega), if_pos e2] at w6
    obtain ⟨w7, w8, q, w9, w10⟩ := w6
    subst e1
    exact zk_callV_ok (bytes := hh.2.2.2.b) (maxL := hh.2.2.2.n) (ret := hh.2.2.2.rt) w9 S hk hc ⟨callB_of _ hts (zk_good M0 hh.2.2.2 w1) rfl w3.1 w3.2.1 (hw _ w2) (hw _ w7) ⟨w4.1, w4.2, w5⟩ ⟨w3.2.2.1, w3.2.2.2⟩, hw _ w8, hw _ w10⟩ hd hO rfl rfl rfl ⟨Nat.le_refl _, Nat.le_refl _⟩ hK h2' h3
  · rename_i x
    rcases Bool.or_eq_true _ _ ▸ h with h | h
    · simp only [Bool.and_eq_true, decide_eq_true_eq] at h
      obtain ⟨⟨h1, h2, h3⟩, h⟩ := h
      split at h
      · rename_i v T hS
        simp only [Bool.and_eq_true, decide_eq_true_eq] at h
        obtain ⟨⟨hv, hsum⟩, h⟩ := h
        obtain ⟨o1, o2, o3⟩ := hOI x h1
        intro r ty H locs ls st I
        have hst := I.2.1
        rw [hS, List.map_cons] at hst
        have hvr : zk_c r v = .ref (zk_n r v).toNat := by unfold zk_c; rw [hv]; rfl
        rw [hvr] at hst
        refine W.objInit hx hb hown (hw _ o1) (hw _ o2) (hw _ o3) rfl (by rw [hml]; exact I.1.1) hst hd h2 ?_ ?_
        · have hq : ((T.map (zk_c r)).map fun v => v.category).sum = (T.map (fun v => if v.1 = 1 then 2 else 1)).sum := by
            rw [List.map_map]
            congr 1
            apply List.map_congr_left
            intro v _
            simp only [Function.comp]
            by_cases h : v.1 = 1
            · rw [if_pos h, zk_cat2 h]
            · rw [if_neg h, zk_cat1 h]
          rw [hq]
          show 2 * 0 + _ + 12 ≤ _
          omega
        · exact hK _ _ h r ty H locs ls _ (zk_I_ss I)
      · cases h
    · obtain ⟨hh, hm, h⟩ := List.any_eq_true.mp h
      simp only [Bool.and_eq_true] at h
      obtain ⟨h1, h2, h2', h3⟩ := h
      have e1 := Nat.eq_of_beq_eq_true h1
      have e2 := Nat.eq_of_beq_eq_true h2
      obtain ⟨hc, w1, w2, w3, w4, w5, w6⟩ := hC hh hm
      rw [if_neg (by omega)] at w5
      rw [if_neg (by omega), if_neg (by omega), if_neg (by omega)] at w6
      obtain ⟨w7, w8, w9, w10, q, w11⟩ := w6
      subst e1
      have cb := callB_of _ hts (zk_good M0 hh.2.2.2 w1) rfl w3.1 w3.2.1 (hw _ w2) (hw _ w7) ⟨w4.1, w4.2, w5⟩ ⟨w3.2.2.1, w3.2.2.2⟩
      rw [w10] at cb
      exact zk_callI_ok (bytes := hh.2.2.2.b) (maxL := hh.2.2.2.n) w11 S hk hc ⟨cb, w9, hw _ w8⟩ hd hO rfl rfl rfl ⟨Nat.le_refl _, Nat.le_refl _⟩ hK h2' h3
  · simp only [Bool.and_eq_true] at h
    exact zk_retX_ok hx hb hr hlocks hd h.2 h.1
end
