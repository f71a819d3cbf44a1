/-! THE CHECKER, 17: new. -/
def zk_nA (q : Nat × List zV) (n : Nat) (S : List zV) (A : zA) : zA := (A.1, (2, A.2.2.2.2.1, 0) :: S, A.2.2.1, (A.2.2.2.1.1, A.2.2.2.1.2.1, A.2.2.2.1.2.2.1, (A.2.2.2.2.1, q) :: A.2.2.2.1.2.2.2.1, A.2.2.2.1.2.2.2.2), (A.2.2.2.2.1 + 1, A.2.2.2.2.2.1, A.2.2.2.2.2.2.1 + 1, A.2.2.2.2.2.2.2 + n))
def zk_tA (t n : Nat) (S : List zV) (A : zA) : zA := (A.1, (2, A.2.2.2.2.1, 0) :: S, A.2.2.1, ((A.2.2.2.2.1, t) :: A.2.2.2.1.1, A.2.2.2.1.2), (A.2.2.2.2.1 + 1, A.2.2.2.2.2.1, A.2.2.2.2.2.2.1 + 1, A.2.2.2.2.2.2.2 + n))
def zk_dvs (cl : List vw_C) (ft : Nat → Nat → FieldType) (ci : Nat) : List zV := (List.range (zk_nfl cl ci)).map (fun k => zk_dz (ft ci k))
def zk_new (cl : List vw_C) (ft : Nat → Nat → FieldType) (NX : Nat → Option (Nat × Nat)) (n0 rc rs : Nat) (K : Nat → zA → Bool) (pc idx : Nat) (A : zA) : Bool := match NX idx with
  | some q => zk_ok n0 A && (decide (A.2.2.2.2.2.2.1 + 1 ≤ rc ∧ A.2.2.2.2.2.2.2 + q.2 ≤ rs ∧ q.1 < 1000) && ((List.range (zk_nfl cl q.1)).all (fun k => zk_dok (ft q.1 k)) && K (pc + 3) (zk_nA (q.1, zk_dvs cl ft q.1) q.2 A.2.1 A)))
  | none => false
def zk_ak (t : ArrayType) : Nat := match t with
  | .int => 1 | .byte => 2 | .boolean => 3 | .long => 4 | _ => 0
/-- the zeros of a small array -/
def zk_nz0 (x t n k : Nat) : List (Nat × Nat × zV × zV) := if n ≤ 4 then (List.range n).map (fun (j : Nat) => (x, t, (0, 0, (j : Int)), if k = 4 then (1, 0, 0) else (0, 0, 0))) else []
def zk_tAe (t n k : Nat) (S : List zV) (A : zA) : zA := ((zk_tA t n S A).1, (zk_tA t n S A).2.1, (zk_tA t n S A).2.2.1, ((zk_tA t n S A).2.2.2.1.1, (zk_tA t n S A).2.2.2.1.2.1, zk_nz0 A.2.2.2.2.1 t n k ++ (zk_tA t n S A).2.2.2.1.2.2.1, (zk_tA t n S A).2.2.2.1.2.2.2), (zk_tA t n S A).2.2.2.2)
def zk_newa (TT : Nat → zS) (AT : Nat → Option Nat) (n0 rc rs : Nat) (K : Nat → zA → Bool) (pc : Nat) (at_ : ArrayType) (A : zA) : Bool := match A.2.1, AT pc with
  | v :: S, some t => decide (v = (0, 0, ((TT t).2.1 : Int)) ∧ (TT t).1 = zk_ak at_ ∧ zk_ak at_ ≠ 0 ∧ (TT t).2.1 * 8 ≤ 536870912 ∧ ((TT t).2.2.length = 1 ∨ (TT t).2.2.length = (TT t).2.1)) && (zk_ok n0 A && (decide (A.2.2.2.2.2.2.1 + 1 ≤ rc ∧ A.2.2.2.2.2.2.2 + (TT t).2.1 ≤ rs) && ((TT t).2.2.all (fun q => zk_cf A.2.2.1 A.2.2.2.1.1 (if (TT t).1 = 4 then (1, 0, 0) else (0, 0, 0)) q) && K (pc + 2) (zk_tAe t (TT t).2.1 (TT t).1 S A))))
  | _, _ => false
def zk_anew (NA : Nat → Option Nat) (n0 rc rs : Nat) (K : Nat → zA → Bool) (pc idx : Nat) (A : zA) : Bool := match A.2.1, NA idx with
  | v :: S, some ci => decide (v.1 = 0 ∧ v.2.1 = 0 ∧ 0 ≤ v.2.2 ∧ v.2.2 ≤ 1000) && (zk_ok n0 A && (decide (A.2.2.2.2.2.2.1 + 1 ≤ rc ∧ A.2.2.2.2.2.2.2 + v.2.2.toNat ≤ rs ∧ (ci = 0 ∨ ci = 2 ∨ ci = 3 ∨ ci = 4 ∨ ci = 9)) && K (pc + 3) (zk_nA (1010 + ci, List.replicate v.2.2.toNat (3, 0, 0)) v.2.2.toNat S A)))
  | _, _ => false
section
variable {p : Program} {l : Launch} {e : Env} {R : Room} {s : State} {m : MethodId} {args : Array Value} {below : List Frame} {meth : Method} {c : Code} {Q : State → Prop} {cc : ByteArray} {pc : Nat} {D : zD} {E : zE} {A : zA} {K : Nat → zA → Bool} {cl : List vw_C} {ft : Nat → Nat → FieldType} {own : String} {PF : Nat → List (Nat × Nat)} {PB : Nat → List Nat}
variable {r : Nat → Int} {ty : Nat → Nat} {H H' : Heap} {locs : List Loc} {ls : Array Slot} {st : List Value} {S : List zV}
theorem zk_szn {H : Heap} : (zk_u r A.2.2.2.2.1 (H.size : Int) A.2.2.2.2.1).toNat = H.size := by rw [zk_u_n]; omega
/-- a cell was made, and nothing is known of it yet but what it holds -/
theorem zk_I_nA (hO : zk_stable D PF PB) (hok : zk_ok E.2.1.1 A = true) (I : zk_I D E A r ty H locs ls st) (hs : H'.size = H.size + 1) (ho : ∀ b, b < H.size → H'[b]? = H[b]?) (hS : ∀ v ∈ S, v ∈ A.2.1) {q : Nat × List zV} {n : Nat} {cell : Cell} (hc : H'[H.size]? = some cell) (hvm : cell.vm = .none)
    (hq : ∀ r : Nat → Int, r 0 = 0 → if q.1 < 1000 then cell.cls = D.dC q.1 ∧ ∀ (k : Nat) (v : zV), q.2[k]? = some v → cell.slots[D.dI q.1 k]? = some (zk_c r v) else cell.cls = D.cA (q.1 - 1000) ∧ cell.slots.size = q.2.length ∧ ∀ (k : Nat) (v : zV), q.2[k]? = some v → cell.slots[k]? = some (zk_c r v)) : zk_I D E (zk_nA q n S A) (zk_u r A.2.2.2.2.1 (H.size : Int)) ty H' locs ls (.ref H.size :: S.map (zk_c r)) := by
  have I2 := zk_I_push hO hs ho I
  have hn := zk_I_new (r' := zk_u r A.2.2.2.2.1 (H.size : Int)) hok (fun y hy => zk_u_ne hy) I2
  have eS : S.map (zk_c (zk_u r A.2.2.2.2.1 (H.size : Int))) = S.map (zk_c r) := by
    apply List.map_congr_left
    intro v hv
    exact zk_c_new (zk_okS hok (hS v hv))
  have hz : ty H.size = 0 := by
    rcases Nat.eq_zero_or_pos (ty H.size) with z | z
    · exact z
    · exact absurd (zk_T_lt I.2.2.2.2.1 (a := H.size) (by omega)) (Nat.lt_irrefl _)
  have hold : ∀ q ∈ A.2.2.2.1.2.2.2.1, zk_u r A.2.2.2.2.1 (H.size : Int) q.1 = r q.1 ∧ (r q.1).toNat < H.size ∧ 0 ≤ r q.1 := by
    intro q hq
    have f4 : q.1 < A.2.2.2.2.1 := by
      have h := hok
      simp only [zk_ok, zk_fA, zk_fG, Bool.and_eq_true, List.all_eq_true] at h
      exact zk_blt (h.2.2.1.2.1.1.2 q hq).1
    obtain ⟨r1, -, -, cw, w1, -⟩ := I.2.2.2.1.2.2.2.1 q hq
    exact ⟨zk_u_ne f4, (Array.getElem?_eq_some_iff.mp w1).1, r1⟩
  obtain ⟨a1, a2, a3, a4, a5, a6, a7, a8, a9, a10, a11⟩ := hn
  obtain ⟨g1, g2, g3, g4, g5, g6, g7⟩ := a4
  refine ⟨a1, ?_, a3, ⟨g1, g2, g3, fun g hg => ?_, List.pairwise_cons.mpr ⟨fun g hg => ?_, g5⟩, g6, g7⟩, a5, a6, a7, a8, a9, a10, fun g hg => ?_⟩
  · show _ = ((2, A.2.2.2.2.1, 0) :: S).map _
    rw [List.map_cons, zk_c_n, eS]
    simp [zk_k]
  · rcases List.mem_cons.mp hg with rfl | hg
    · unfold zk_rw
      dsimp only
      rw [zk_szn]
      refine ⟨by rw [zk_u_n]; omega, by have := I.2.2.2.2.1.1; exact this, hz, cell, hc, hvm, hq _ a7⟩
    · exact g4 g hg
  · have := hold g hg
    dsimp only
    rw [zk_u_n, this.1]
    omega
  · rcases List.mem_cons.mp hg with rfl | hg
    · right
      dsimp only
      rw [zk_szn]
      exact I.2.2.2.2.2.1.1
    · exact a11 g hg
def zk_NX (cl : List vw_C) (NX : Nat → Option (Nat × Nat)) (own : String) (s : State) (args : Array Value) : Prop := ∀ (idx : Nat) (q : Nat × Nat), NX idx = some q → ∃ w : vw_C, cl[q.1]? = some w ∧ (Cond.classLink own idx w.1).before args s = true ∧ (Cond.instantiable w.1 q.2).before args s = true ∧ (Cond.initialized w.1).before args s = true
theorem zk_new_ok {n0 rc rs : Nat} {NX : Nat → Option (Nat × Nat)} (hx : p.tables.exec = Jvm.exec) (hb : c.code = cc) (hown : s.vm.findClass own = some m.cls) (hV : zk_env D cl ft s args) (hNX : zk_NX cl NX own s args) (hO : zk_stable D PF PB) (hn0 : n0 = E.2.1.1) (hR : rc ≤ R.cells ∧ rs ≤ R.slots) (hK : ∀ (n : Nat) (A : zA), K n A = true → zk_W p l e R s m args below meth c Q D E n A) {idx : Nat} (hd : decode cc pc = .ok (.new idx, 3)) (h : zk_new cl ft NX n0 rc rs K pc idx A = true) : zk_W p l e R s m args below meth c Q D E pc A := by
  unfold zk_new at h
  split at h
  rotate_left
  · cases h
  rename_i q hq
  simp only [Bool.and_eq_true, decide_eq_true_eq, List.all_eq_true] at h
  obtain ⟨hok, ⟨hc1, hc2, hc3⟩, hdk, h⟩ := h
  intro r ty H locs ls st I
  have h2 := I.2.1
  subst h2
  obtain ⟨w, w1, w2, w3, w4⟩ := hNX idx q hq
  obtain ⟨hKn, hl, hty, -, -⟩ := hV.1 _ w w1
  refine W.newc hx hb hown w2 w3 w4 rfl hd (Nat.le_trans hc1 hR.1) (Nat.le_trans hc2 hR.2) (fun cC kC k1 k2 k3 k4 => ?_)
  have ecC : cC = D.dC q.1 := Option.some.inj (k1.symm.trans hKn.2.1)
  have hpush : (H.push (blank cC kC))[H.size]? = some (blank cC kC) := by simp
  refine hK _ _ h _ ty _ locs ls _ (zk_I_nA (cell := blank cC kC) hO (hn0 ▸ hok) I (by simp [blank]) (fun b hb2 => by rw [Array.getElem?_push, if_neg (by omega)]) (fun _ z => z) hpush rfl (fun r h0 => ?_))
  rw [if_pos hc3]
  refine ⟨ecC, fun k v hk => ?_⟩
  have hb3 := u_born (o := H.size) (H := H.push (blank cC kC)) (ft q.1) (ws := u_ws w.1 w.2.1 w.2.2) (fun x hx => hl x hx) (fun x hx => hx) (ecC ▸ hKn) k2 hpush hty
  obtain ⟨cell, c1, c2, c3, c4⟩ := hb3
  cases hpush.symm.trans c1
  unfold zk_dvs at hk
  rw [List.getElem?_map] at hk
  have hn : zk_nfl cl q.1 = w.2.2 := by unfold zk_nfl; rw [w1]
  rw [hn] at hk hdk
  cases hg : (List.range w.2.2)[k]? with
  | none => rw [hg] at hk; cases hk
  | some k' =>
    rw [hg] at hk
    have hk' : k < w.2.2 ∧ k' = k := by
      obtain ⟨z1, z2⟩ := List.getElem?_eq_some_iff.mp hg
      simp only [List.length_range] at z1
      simp only [List.getElem_range] at z2
      exact ⟨z1, z2.symm⟩
    obtain ⟨hk1, rfl⟩ := hk'
    cases hk
    rw [c4 _ hk1]
    exact congrArg some (zk_dz_ok (hdk _ (List.mem_range.mpr hk1)) h0)
def zk_NA (cl : List vw_C) (NA : Nat → Option Nat) (own : String) (s : State) (args : Array Value) : Prop := ∀ (idx ci : Nat), NA idx = some ci → (Cond.classLink own idx (zk_cn cl ci)).before args s = true ∧ (Cond.arrayOver (.object (zk_cn cl ci))).before args s = true
theorem zk_anew_ok {n0 rc rs : Nat} {NA : Nat → Option Nat} (hx : p.tables.exec = Jvm.exec) (hb : c.code = cc) (hown : s.vm.findClass own = some m.cls) (hV : zk_env D cl ft s args) (hNA : zk_NA cl NA own s args) (hO : zk_stable D PF PB) (hn0 : n0 = E.2.1.1) (hR : rc ≤ R.cells ∧ rs ≤ R.slots) (hK : ∀ (n : Nat) (A : zA), K n A = true → zk_W p l e R s m args below meth c Q D E n A) {idx : Nat} (hd : decode cc pc = .ok (.anewarray idx, 3)) (h : zk_anew NA n0 rc rs K pc idx A = true) : zk_W p l e R s m args below meth c Q D E pc A := by
  unfold zk_anew at h
  split at h
  rotate_left
  · cases h
  rename_i v S ci hS hci
  simp only [Bool.and_eq_true, decide_eq_true_eq] at h
  obtain ⟨⟨v1, v2, v3, v4⟩, hok, ⟨hc1, hc2, hc3⟩, h⟩ := h
  intro r ty H locs ls st I
  have h2 := I.2.1
  subst h2
  have e1 : zk_n r v = v.2.2 := by unfold zk_n; rw [v2, I.2.2.2.2.2.2.1]; omega
  have e2 : (Int32.ofInt v.2.2).toNatClampNeg = v.2.2.toNat := by rw [Int32.toNatClampNeg_ofInt_of_le (by omega) (by omega)]
  rw [hS, List.map_cons, zk_e0 v1, e1]
  obtain ⟨w2, w3⟩ := hNA idx ci hci
  refine W.anew hx hb hown w2 w3 rfl hd rfl ?_ (by rw [e2]; omega) (Nat.le_trans hc1 hR.1) (by rw [e2]; exact Nat.le_trans hc2 hR.2) (fun cA kA comp k1 k2 k3 k4 => ?_)
  · intro hlt
    have := Int32.lt_iff_toInt_lt.mp hlt
    rw [zk_i32 (by omega) (by omega)] at this
    have e0 : (0 : Int32).toInt = 0 := by decide
    omega
  · rw [e2]
    obtain ⟨hm, hm2⟩ : 10 + ci ∈ [1, 2, 3, 4, 10, 12, 13, 14, 19] ∧ zk_et cl (10 + ci) = .object (zk_cn cl ci) := by
      rcases hc3 with z | z | z | z | z <;> subst z <;> exact ⟨by decide, rfl⟩
    obtain ⟨kA', comp', n1, n2, n3, n4⟩ := hV.2.1 _ hm
    rw [hm2] at n4
    have ecA : cA = D.cA (10 + ci) := Option.some.inj (k1.symm.trans n4)
    refine hK _ _ h _ ty _ locs ls _ (zk_I_nA (cell := { cls := cA, slots := Array.replicate v.2.2.toNat .null, vm := .none }) hO (hn0 ▸ hok) I (by simp) (fun b hb2 => by rw [Array.getElem?_push, if_neg (by omega)]) (fun u hu => by rw [hS]; simp [hu]) (by simp) rfl (fun r h0 => ?_))
    dsimp only
    rw [if_neg (by omega)]
    have e9 : 1010 + ci - 1000 = 10 + ci := by omega
    rw [e9]
    refine ⟨ecA, by simp, fun k u hk => ?_⟩
    rw [List.getElem?_replicate] at hk
    split at hk
    · cases hk
      rw [Array.getElem?_replicate, if_pos (by assumption)]
      rfl
    · cases hk
end
