/-! THE CHECKER, 27: a method's contract. -/
/-- calls of nest mates: own class, entry, method, host; texts: own class, entry, text, type -/
def zk_nst : List (String × Nat × MethodName × String) := [("BothLists$Speller", 33, ⟨"BothLists", "letterAt", "(JI)I"⟩, "BothLists"), ("BothLists$Hand", 49, ⟨"BothLists", "numberOf", "(JI)I"⟩, "BothLists"), ("BothLists$Agreement", 95, ⟨"BothLists", "numberOf", "(JI)I"⟩, "BothLists")]
def zk_str : List (String × Nat × String × Nat) := [("BothLists$Reader", 51, "same", 0), ("BothLists$Reader", 61, "drop", 1), ("BothLists$Reader", 66, "double", 2), ("BothLists$Reader", 71, "first", 3), ("BothLists$Reader", 143, "two", 4), ("BothLists$Reader", 145, "one", 5), ("BothLists$Reader", 167, "makes", 6), ("BothLists$Reader", 169, "turns", 7), ("BothLists$Reader", 171, "mixes", 8), ("BothLists$Reader", 173, "sends", 9), ("BothLists$Reader", 175, "counts", 10), ("BothLists$Reader", 177, "pads", 11), ("BothLists$Reader", 179, "meets", 12), ("BothLists$Reader", 181, "sums", 13), ("BothListsModel", 176, "same drop double first one two makes turns mixes sends counts pads meets sums ", 14)]
/-- the texts: where they are; fact 0 says that they are as they were -/
def zk_sk (D : zD) (U : State) : Prop := ∃ (H0 : Heap) (adK adV : Nat → Nat), zs_S adK adV (fun q => D.ba ≤ q) U H0 ∧ (∀ q ∈ zk_str, q.2.2.2 < 15 ∧ vk_R q.1 q.2.1 q.2.2.1 (adK q.2.2.2) U) ∧ (∀ t a, t < 15 → D.RO t a → a = adK t) ∧ ∀ (ty : Nat → Nat) (H : Heap), D.OP 0 ty H [] → (∀ t, t < 15 → ty (adK t) = t + 1) ∧ ∀ U' : State, zs_S adK adV (fun q => D.ba ≤ q) U' H0 → zs_S adK adV (fun q => D.ba ≤ q) U' H
theorem zk_sk.warm {D : zD} {u U : State} (hW : u.WarmedH U.vm) (h : zk_sk D u) : zk_sk D U := by
  obtain ⟨H0, adK, adV, h1, h2, h3⟩ := h
  exact ⟨H0, adK, adV, zs_S.moved hW.alike h1, fun q hq => ⟨(h2 q hq).1, vk_R.warm hW (h2 q hq).2⟩, h3⟩
theorem zk_sk.same {D : zD} {u U : State} (hvm : U.vm = u.vm) (h : zk_sk D u) : zk_sk D U := by
  obtain ⟨H0, adK, adV, h1, h2, h3⟩ := h
  exact ⟨H0, adK, adV, zs_S.moved (by rw [hvm]; exact Vm.Alike.refl u.vm) h1, fun q hq => ⟨(h2 q hq).1, vk_R.same hvm (h2 q hq).2⟩, h3⟩
def zk_aos : List String := ["BothLists$Names", "BothLists$Turning", "BothLists$Bag", "BothLists$Hand", "BothLists$Agreement"]
def zk_kn (D : zD) (cl : List vw_C) (U : State) : Prop := (∀ (ci : Nat) (q : vw_C), cl[ci]? = some q → u_Kn U q.1 q.2.1 q.2.2 (D.dC ci) (D.dI ci)) ∧
  (∀ k : Nat, k ∈ [1, 2, 3, 4, 10, 12, 13, 14, 19] → ∃ (kA : Class) (comp : ClassId), U.vm.classes[D.cA k]? = some kA ∧ kA.kind = .array comp (zk_et cl k) ∧ (10 ≤ k → U.vm.findClass (zk_cn cl (k - 10)) = some comp) ∧ U.vm.findClass ("[" ++ (zk_et cl k).toString) = some (D.cA k)) ∧
  (∀ q ∈ zk_nst, va_Nw (.methodLinkNest q.1 q.2.1 q.2.2.1 q.2.2.2) U) ∧ zk_sk D U ∧ ∀ C ∈ zk_aos, va_AO C U
theorem zk_kn.warm {D : zD} {cl : List vw_C} {u U : State} (hW : u.WarmedH U.vm) (h : zk_kn D cl u) : zk_kn D cl U := by
  have hvm := hW.alike
  refine ⟨fun ci q hq => u_Kn_moved hvm (h.1 ci q hq), fun k hk => ?_, fun q hq => va_Nw.warmM hW (h.2.2.1 q hq), h.2.2.2.1.warm hW, fun C hC => va_AO.moved hvm (h.2.2.2.2 C hC)⟩
  · obtain ⟨kA, comp, h1, h2, h3, h4⟩ := h.2.1 k hk
    obtain ⟨k', hk', he⟩ := hvm.2.2 _ _ h1
    exact ⟨k', comp, hk', by rw [he]; exact h2, fun h10 => by rw [hvm.findClass]; exact h3 h10, by rw [hvm.findClass]; exact h4⟩
theorem zk_kn.same {D : zD} {cl : List vw_C} {u U : State} (hvm : U.vm = u.vm) (h : zk_kn D cl u) : zk_kn D cl U := by
  have ha : u.vm.Alike U.vm := by rw [hvm]; exact Vm.Alike.refl u.vm
  refine ⟨fun ci q hq => u_Kn_moved ha (h.1 ci q hq), fun k hk => ?_, fun q hq => va_Nw.same rfl hvm.symm (h.2.2.1 q hq), h.2.2.2.1.same hvm, fun C hC => va_AO.moved ha (h.2.2.2.2 C hC)⟩
  · rw [hvm]; exact h.2.1 k hk
/-- pure facts of the class table and the types -/
def zk_clok (D : zD) (cl : List vw_C) (ft : Nat → Nat → FieldType) : Prop :=
  (∀ (ci : Nat) (q : vw_C), cl[ci]? = some q → (∀ k, k < q.2.2 → parseFieldDescriptor (q.2.1 k).2.2.1 = some (ft ci k)) ∧ (∀ a, a < q.2.2 → ∀ b, b < q.2.2 → a ≠ b → (q.2.1 a).2.1 ≠ (q.2.1 b).2.1) ∧ ∀ a, a < q.2.2 → (q.2.1 a).1 = q.1) ∧
  (∀ t : Nat, (D.TT t).1 ≠ 0 → (D.TT t).1 ≠ 9 → (D.TT t).1 ∈ [1, 2, 3, 4, 10, 12, 13, 14, 19]) ∧
  ∀ t : Nat, (D.TT t).1 = 0 → ∃ q : vw_C, cl[(D.TT t).2.1]? = some q ∧ (D.TT t).2.2.length = q.2.2
/-- what the words say at a method of a class -/
def zk_wok (cl : List vw_C) (own : String) (FX : Nat → Option (Nat × Nat)) (CX LX : Nat → Option Int) (NX : Nat → Option (Nat × Nat)) (NA : Nat → Option Nat) (s : State) (args : Array Value) : Prop :=
  (∀ (ci : Nat) (q : vw_C), cl[ci]? = some q → ∀ w ∈ u_ws q.1 q.2.1 q.2.2, w.before args s = true) ∧ zk_FX cl FX own s args ∧ (∀ (i : Nat) (k : Int), CX i = some k → (Jvm.Cond.constant own i (Int32.ofInt k)).before args s = true) ∧ (∀ (i : Nat) (k : Int), LX i = some k → (Jvm.Cond.constantLong own i (Int64.ofInt k)).before args s = true) ∧ zk_NX cl NX own s args ∧ (∀ (idx ci : Nat), NA idx = some ci → (Cond.classLink own idx (zk_cn cl ci)).before args s = true ∧ zk_cn cl ci ∈ zk_aos) ∧ ∀ k : ArrayType, zk_ak k ≠ 0 → (Cond.arrayClass (newarray.typeOf k)).before args s = true
theorem zk_env_of {D : zD} {cl : List vw_C} {ft : Nat → Nat → FieldType} {s : State} {args : Array Value} (h1 : zk_kn D cl s) (h2 : zk_clok D cl ft) (h3 : ∀ (ci : Nat) (q : vw_C), cl[ci]? = some q → ∀ w ∈ u_ws q.1 q.2.1 q.2.2, w.before args s = true) : zk_env D cl ft s args :=
  ⟨fun ci q hq => ⟨h1.1 ci q hq, h3 ci q hq, (h2.1 ci q hq).1, (h2.1 ci q hq).2.1, (h2.1 ci q hq).2.2⟩, h1.2.1, h2.2.1, h2.2.2⟩
def zk_Pc (D : zD) (cl : List vw_C) (cs : zQ) (r : Nat → Int) (ty : Nat → Nat) : Array Value → State → Prop := fun a U => a = (cs.2.1.1.map (zk_c r)).toArray ∧ zk_kn D cl U ∧ r 0 = 0 ∧ zk_P r cs.2.1.2.1 ∧ zk_H D r ty U.heap cs.2.1.2.2 ∧ zk_T D ty U.heap
theorem zk_Pc_blind {D : zD} {cl : List vw_C} {cs : zQ} {r : Nat → Int} {ty : Nat → Nat} : FrameBlind (zk_Pc D cl cs r ty) := fun a U g mk h => ⟨h.1, zk_kn.same (u := U) (U := U.calling g mk a) rfl h.2.1, h.2.2⟩
def zk_con (D : zD) (cl : List vw_C) (l : Launch) (y : MethodName) (ws : List Jvm.Cond) (rm : Room) (cs : zQ) : Prop := ∀ (r : Nat → Int) (ty : Nat → Nat), Met l y ws rm (zk_Pc D cl cs r ty) (fun _ st o t => zk_Qc D cs r ty st o t) cs.2.2.2.2.1 cs.2.2.2.2.2 (fun q => D.ba ≤ q)
def zk_la : Nat → List zV → List (Nat × zV)
  | _, [] => []
  | i, v :: l => (i, v) :: zk_la (if v.1 = 1 then i + 2 else i + 1) l
theorem zk_la_ok {r : Nat → Int} : ∀ {l : List zV} {i : Nat}, lv_args i (l.map (zk_c r)) = (zk_la i l).map (fun q => (q.1, zk_c r q.2))
  | [], _ => rfl
  | v :: l, i => by
    show (i, zk_c r v) :: lv_args (if (zk_c r v).category = 2 then i + 2 else i + 1) (l.map (zk_c r)) = (i, zk_c r v) :: (zk_la (if v.1 = 1 then i + 2 else i + 1) l).map _
    rw [zk_la_ok]
    by_cases h : v.1 = 1
    · rw [if_pos h, if_pos (zk_cat2 h)]
    · rw [if_neg h, if_neg (by rw [zk_cat1 h]; decide)]
def zk_ln (l : List zV) : Nat := (l.map (fun v => if v.1 = 1 then 2 else 1)).sum
theorem zk_ln_ok {r : Nat → Int} : ∀ {l : List zV}, (lg_sl (l.map (zk_c r))).length = zk_ln l
  | [] => rfl
  | v :: l => by
    have ih := zk_ln_ok (r := r) (l := l)
    have e : lg_sl (zk_c r v :: l.map (zk_c r)) = (if (zk_c r v).category = 2 then [Slot.val (zk_c r v), Slot.second] else [Slot.val (zk_c r v)]) ++ lg_sl (l.map (zk_c r)) := List.flatMap_cons
    have e2 : zk_ln (v :: l) = (if v.1 = 1 then 2 else 1) + zk_ln l := by unfold zk_ln; rw [List.map_cons, List.sum_cons]
    rw [List.map_cons, e, List.length_append, ih, e2]
    by_cases h : v.1 = 1
    · rw [if_pos h, if_pos (zk_cat2 h)]; rfl
    · rw [if_neg h, if_neg (by rw [zk_cat1 h]; decide)]; rfl
/-- a method's first state -/
def zk_A0 (cs : zQ) (M : Int) : zA := (zk_la 0 cs.2.1.1, [], cs.2.1.2.1, cs.2.1.2.2, (cs.1.1, ([], M), 0, 0))
section
variable {D : zD} {cl : List vw_C} {ft : Nat → Nat → FieldType} {PF : Nat → List (Nat × Nat)} {PB : Nat → List Nat} {SU : zSU} {l : Launch}
/-- a contract, out of the checker's run. hXT: calls, returns, texts -/
theorem zk_con_of {y : MethodName} {ws ws' : List Jvm.Cond} {rm : Room} {cs : zQ} {cc : ByteArray} {maxL fuel : Nat} {rt : Option FieldType} {own : String} {FX : Nat → Option (Nat × Nat)} {CX LX : Nat → Option Int} {NX : Nat → Option (Nat × Nat)} {NA : Nat → Option Nat} {oc : Nat} {ini : Bool} {FT : Nat → Option (Instr × Nat)} {AN : Nat → List zA} {FZ : Nat → List (Nat × Nat)} {LM : Nat → List (Nat × Nat × Int)} {UL : Nat → Nat → zA → List zA} {AT : Nat → Option Nat} {XT : (Nat → zA → Bool) → Nat → zA → Instr → Nat → Bool} {M : Int}
    (hQ : zk_fr D ∨ ((∀ pc, FZ pc = []) ∧ ∀ pc, AT pc = none)) (hy : plainFor y = true) (hw : ws = Cond.code y cc maxL rt :: ws') (hown : y.cls = own) (hcl : zk_clok D cl ft) (hSC : ∀ a n, ¬ D.SC a n) (hO : zk_stb D PF PB SU) (hFT : ∀ (pc : Nat) (q : Instr × Nat), FT pc = some q → decode cc pc = .ok q) (hoc : ini = true → own = zk_cn cl oc) (hini : ini = true → y.name = "<init>") (hlen : zk_ln cs.2.1.1 ≤ maxL)
    (hwok : ∀ (s : State) (args : Array Value), (∀ w ∈ ws, w.before args s = true) → zk_wok cl own FX CX LX NX NA s args)
    (hXT : ∀ (p : Program) (e : Env) (s : State) (m : MethodId) (args : Array Value) (below : List Frame) (meth : Method) (c : Code) (r : Nat → Int) (ty : Nat → Nat) (M : Int), p.tables.exec = Jvm.exec → c.code = cc → c.maxLocals = maxL → s.vm.findClass own = some m.cls → (∀ w ∈ ws, w.before args s = true) → zk_kn D cl s → meth.sig.returnType = rt → meth.locks = false → zk_XT p l e rm s m args below meth c (zk_MQ below D cs r ty args s) cc D (zk_E0 maxL cs r ty s.heap M) XT)
    (hUL : ∀ (r : Nat → Int) (ty : Nat → Nat) (H : Heap) (M : Int), zk_ULok D (zk_E0 maxL cs r ty H M) UL)
    (hAll : ∀ (n : Nat) (Bn : zA), Bn ∈ AN n → zk_exec cl ft D.TT PF PB SU FX CX LX NX NA oc ini maxL cs.1.1 rm.cells rm.slots cs.2.2.2.1.1 cs.2.2.2.1.2 FT AN FZ LM UL AT XT fuel n Bn = true ∧ zk_pos Bn.2.2.1 (Bn.2.2.2.2.2.1.1, Bn.2.2.2.2.2.1.2 + 1) = true)
    (h0 : zk_exec cl ft D.TT PF PB SU FX CX LX NX NA oc ini maxL cs.1.1 rm.cells rm.slots cs.2.2.2.1.1 cs.2.2.2.1.2 FT AN FZ LM UL AT XT fuel 0 (zk_A0 cs M) = true) : zk_con D cl l y ws rm cs := by
  intro r ty
  refine va_MetF (cc := cc) (maxL := maxL) (ret := rt) hy hw ?_
  intro p e s m args below meth c s₁ Bd hml hP
  obtain ⟨rfl, hk, hr0, hPP, hHH, hTT⟩ := hP
  have hx := Bd.exec
  have hb := Bd.bytes
  have hr := Bd.returns
  have hts := atoms_spec (ws := ws) Bd.pre
  have hfc : s.vm.findClass own = some m.cls := by rw [← hown]; exact findClass_of_methodNamed Bd.named
  have hlocks := Bd.notSynchronized
  have hwk := hwok s _ hts
  obtain ⟨k1, k2, k3, k4, k5, k6, k7⟩ := hwk
  have C : zk_ctx p rm s m (cs.2.1.1.map (zk_c r)).toArray meth c cc D cl ft PF PB SU own FX CX LX NX NA oc ini rm.cells rm.slots FT :=
    ⟨hx, hb, hfc, zk_env_of hk hcl k1, k2, k3, k4, k5, fun idx ci h => ⟨(k6 idx ci h).1, va_AO.use (hk.2.2.2.2 _ (k6 idx ci h).2)⟩, hoc, fun hi => by rw [← hini hi]; exact (name_of_methodNamed Bd.named Bd.method).1, k7, ⟨Nat.le_refl _, Nat.le_refl _⟩, hO, hFT⟩
  have hbody := zk_body_ok hQ (l := l) (e := e) (below := below) (Q := zk_MQ below D cs r ty (cs.2.1.1.map (zk_c r)).toArray s) C (E := zk_E0 maxL cs r ty s.heap M) hAll h0 (fun a n h => absurd h (hSC a n)) rfl rfl rfl rfl (fun M' => hXT p e s m _ below meth c r ty M' hx hb hml hfc hts hk hr hlocks) (fun M' => hUL r ty s.heap M')
  rw [lg_entry_eq]
  have hl := lv_entry (cs.2.1.1.map (zk_c r)) (n := maxL) (by rw [zk_ln_ok]; exact hlen)
  refine hbody r ty s.heap [] _ [] ⟨by rw [zk_la_ok] at hl; exact hl, rfl, hPP, hHH, hTT, ⟨Nat.le_refl _, fun _ _ h => h, fun _ _ _ => rfl, fun _ _ _ _ => rfl, fun _ _ _ _ _ => rfl, fun _ _ _ _ _ _ _ c0 c1 e0 e1 => by cases e0.symm.trans e1; rfl⟩, hr0, fun _ _ => rfl, rfl, fun q hq => by (cases hq), fun q hq => Or.inl ⟨q, hq, rfl⟩⟩
end
