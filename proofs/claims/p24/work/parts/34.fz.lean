/-! THE CHECKER, 18: arrays of numbers are made; a cell that is made gets its type. -/
section
variable {p : Program} {l : Launch} {e : Env} {R : Room} {s : State} {m : MethodId} {args : Array Value} {below : List Frame} {meth : Method} {c : Code} {Q : State → Prop} {cc : ByteArray} {pc : Nat} {D : zD} {E : zE} {A : zA} {K : Nat → zA → Bool} {cl : List vw_C} {ft : Nat → Nat → FieldType} {own : String} {PF : Nat → List (Nat × Nat)} {PB : Nat → List Nat}
variable {r : Nat → Int} {ty : Nat → Nat} {H H' : Heap} {locs : List Loc} {ls : Array Slot} {st : List Value} {S : List zV}
/-- a type may be given to any cell -/
def zk_fr (D : zD) : Prop := ∀ t a : Nat, (D.TT t).1 ≠ 9 → D.RO t a
theorem zk_newa_ok {n0 rc rs : Nat} {AT : Nat → Option Nat} (hQ : zk_fr D ∨ ∀ pc, AT pc = none) (hx : p.tables.exec = Jvm.exec) (hb : c.code = cc) (hV : zk_env D cl ft s args) (hAC : ∀ k : ArrayType, zk_ak k ≠ 0 → (Cond.arrayClass (newarray.typeOf k)).before args s = true) (hO : zk_stable D PF PB) (hn0 : n0 = E.2.1.1) (hR : rc ≤ R.cells ∧ rs ≤ R.slots) (hK : ∀ (n : Nat) (A : zA), K n A = true → zk_W p l e R s m args below meth c Q D E n A) {k : ArrayType} (hd : decode cc pc = .ok (.newarray k, 2)) (h : zk_newa D.TT AT n0 rc rs K pc k A = true) : zk_W p l e R s m args below meth c Q D E pc A := by
  unfold zk_newa at h
  split at h
  rotate_left
  · cases h
  rename_i v S t hS hAT
  simp only [Bool.and_eq_true, decide_eq_true_eq, List.all_eq_true] at h
  obtain ⟨⟨hv, hk, hk0, hby, hl1⟩, hok, ⟨hc1, hc2⟩, hcf, h⟩ := h
  intro r ty H locs ls st I
  have h2 := I.2.1
  subst h2
  have hok' : zk_ok E.2.1.1 A = true := hn0 ▸ hok
  have e1 : zk_n r v = ((D.TT t).2.1 : Int) := by rw [hv]; unfold zk_n; dsimp only; rw [I.2.2.2.2.2.2.1]; omega
  have e2 : (Int32.ofInt ((D.TT t).2.1 : Int)).toNatClampNeg = (D.TT t).2.1 := by rw [Int32.toNatClampNeg_ofInt_of_le (by omega) (by omega)]; omega
  rw [hS, List.map_cons, zk_e0 (by rw [hv]), e1]
  have hkk : (D.TT t).1 ∈ [1, 2, 3, 4, 10, 12, 13, 14, 19] ∧ (D.TT t).1 ≠ 0 ∧ (D.TT t).1 ≠ 9 ∧ zk_et cl (D.TT t).1 = newarray.typeOf k ∧ componentBytes (newarray.typeOf k) ≤ 8 ∧ defaultValue (newarray.typeOf k) = zk_c r (if (D.TT t).1 = 4 then (1, 0, 0) else (0, 0, 0)) := by
    rw [hk]
    have h0 := I.2.2.2.2.2.2.1
    cases k <;> simp [zk_ak, newarray.typeOf, zk_et, componentBytes, defaultValue, zk_c, zk_k, zk_n, h0] at hk0 ⊢
  obtain ⟨hm, k0, k9, hty, hcb, hdf⟩ := hkk
  refine W.newa hx hb (hAC k hk0) rfl hd rfl ?_ (by rw [e2]; exact Nat.le_trans (Nat.mul_le_mul_left _ hcb) hby) (Nat.le_trans hc1 hR.1) (by rw [e2]; exact Nat.le_trans hc2 hR.2) (fun cA kA comp k1 k2 k3 => ?_)
  · intro hlt
    have := Int32.lt_iff_toInt_lt.mp hlt
    rw [zk_i32 (by omega) (by omega)] at this
    have e0 : (0 : Int32).toInt = 0 := by decide
    omega
  rw [e2]
  obtain ⟨kA', comp', n1, n2, n3, n4⟩ := hV.2.1 _ hm
  rw [hty] at n4
  have ecA : cA = D.cA (D.TT t).1 := Option.some.inj (k1.symm.trans n4)
  have hs : (H.push { cls := cA, slots := Array.replicate (D.TT t).2.1 (defaultValue (newarray.typeOf k)), vm := .none }).size = H.size + 1 := by simp
  have ho : ∀ b, b < H.size → (H.push { cls := cA, slots := Array.replicate (D.TT t).2.1 (defaultValue (newarray.typeOf k)), vm := .none })[b]? = H[b]? := fun b hb2 => by rw [Array.getElem?_push, if_neg (by omega)]
  have hpush : (H.push { cls := cA, slots := Array.replicate (D.TT t).2.1 (defaultValue (newarray.typeOf k)), vm := .none })[H.size]? = some { cls := cA, slots := Array.replicate (D.TT t).2.1 (defaultValue (newarray.typeOf k)), vm := .none } := by simp
  generalize hHH : H.push { cls := cA, slots := Array.replicate (D.TT t).2.1 (defaultValue (newarray.typeOf k)), vm := .none } = H' at hs ho hpush
  have I2 := zk_I_push hO hs ho I
  have hn := zk_I_new (r' := zk_u r A.2.2.2.2.1 (H.size : Int)) hok' (fun y hy => zk_u_ne hy) I2
  have eS : S.map (zk_c (zk_u r A.2.2.2.2.1 (H.size : Int))) = S.map (zk_c r) := by
    apply List.map_congr_left
    intro v hv
    exact zk_c_new (zk_okS hok' (by rw [hS]; simp [hv]))
  have hz : ty H.size = 0 := by
    rcases Nat.eq_zero_or_pos (ty H.size) with z | z
    · exact z
    · exact absurd (zk_T_lt I.2.2.2.2.1 (a := H.size) (by omega)) (Nat.lt_irrefl _)
  have hold : ∀ q ∈ A.2.2.2.1.2.2.2.1, (zk_u r A.2.2.2.2.1 (H.size : Int) q.1).toNat ≠ H.size := by
    intro q hq
    have f4 : q.1 < A.2.2.2.2.1 := by
      have h := hok'
      simp only [zk_ok, zk_fA, zk_fG, Bool.and_eq_true, List.all_eq_true] at h
      exact zk_blt (h.2.2.1.2.1.1.2 q hq).1
    obtain ⟨r1, -, -, cw, w1, -⟩ := I.2.2.2.1.2.2.2.1 q hq
    rw [zk_u_ne f4]
    have := (Array.getElem?_eq_some_iff.mp w1).1
    omega
  have hrt := I.2.2.2.1.1
  have hP := I.2.2.1
  have hT' : zk_T D (zk_tu ty H.size t) H' := by
    have hRO : D.RO t H.size := by
      rcases hQ with z | z
      · exact z t _ k9
      · rw [z] at hAT; cases hAT
    refine zk_T_grow I2.2.2.2.2.1 hz ⟨I.2.2.2.2.1.1, hRO⟩ k9 ?_
    unfold zk_C
    rw [if_neg k0]
    refine ⟨_, hpush, ecA, rfl, by simp, fun j hj => ⟨defaultValue (newarray.typeOf k), by simp [hj], ?_⟩⟩
    refine zk_vt_mono (fun _ _ => zk_tu_keep hz) ?_
    rw [hdf]
    refine zk_cf_ok hP hrt (hcf _ ?_)
    unfold zk_el
    split
    · rename_i q hq
      rw [hq]; exact List.mem_singleton.mpr rfl
    · rename_i hl2
      have hjl : j < (D.TT t).2.2.length := by
        rcases hl1 with z | z
        · obtain ⟨q, hq⟩ := List.length_eq_one_iff.mp z
          exact absurd hq (hl2 q)
        · omega
      rw [List.getD_eq_getElem?_getD, List.getElem?_eq_getElem hjl]
      exact List.getElem_mem hjl
  refine hK _ _ h (zk_u r A.2.2.2.2.1 (H.size : Int)) (zk_tu ty H.size t) H' locs ls _ ?_
  obtain ⟨a1, a2, a3, a4, a5, a6, a7, a8, a9, a10, a11⟩ := hn
  obtain ⟨g1, g2, g2', g3⟩ := zk_H_grow hO a5 hT' hz hold a4
  refine ⟨a1, ?_, a3, ⟨fun q hq => ?_, g2, fun q hq => ?_, g3⟩, hT', zk_F_grow a6 hz (Or.inr I.2.2.2.2.2.1.1), a7, a8, a9, a10, a11⟩
  · show _ = ((2, A.2.2.2.2.1, 0) :: S).map _
    rw [List.map_cons, zk_c_n, eS]
    simp [zk_k]
  · rcases List.mem_cons.mp hq with rfl | hq
    · refine ⟨by rw [zk_u_n]; omega, ?_⟩
      rw [zk_szn]
      unfold zk_tu
      rw [if_pos rfl]
    · exact g1 q hq
  · rcases List.mem_append.mp hq with hq | hq
    · unfold zk_nz0 at hq
      split at hq
      · obtain ⟨j, hj, rfl⟩ := List.mem_map.mp hq
        have hj := List.mem_range.mp hj
        have e0 : ∀ z : Int, zk_n (zk_u r A.2.2.2.2.1 (H.size : Int)) (0, 0, z) = z := by
          intro z
          unfold zk_n
          dsimp only
          rw [a7]
          omega
        have e1 : zk_c (zk_u r A.2.2.2.2.1 (H.size : Int)) (if (D.TT t).1 = 4 then (1, 0, 0) else (0, 0, 0)) = zk_c r (if (D.TT t).1 = 4 then (1, 0, 0) else (0, 0, 0)) := by
          have h0 := I.2.2.2.2.2.2.1
          split
          · unfold zk_c zk_n
            dsimp only
            rw [a7, h0]
          · unfold zk_c zk_n
            dsimp only
            rw [a7, h0]
        refine ⟨?_, k0, ?_, _, by rw [zk_szn]; exact hpush, ?_⟩
        · rw [zk_szn]
          unfold zk_tu
          rw [if_pos rfl]
        · dsimp only
          rw [e0]
          omega
        · dsimp only
          rw [e0, Int.toNat_natCast, e1, ← hdf]
          simp [hj]
      · cases hq
    · exact g2' q hq
/-- a type for a cell that was being made -/
def zk_fzb (TT : Nat → zS) (q : Nat × List zV) (t : Nat) (A : zA) : Bool :=
  if q.1 < 1000 then decide ((TT t).1 = 0 ∧ (TT t).2.1 = q.1 ∧ (TT t).2.2.length ≤ q.2.length) && (List.range (TT t).2.2.length).all (fun k => match q.2[k]?, (TT t).2.2[k]? with | some v, some z => zk_cf A.2.2.1 A.2.2.2.1.1 v z | _, _ => false)
  else decide ((TT t).1 = q.1 - 1000 ∧ (TT t).1 ≠ 0 ∧ (TT t).1 ≠ 9 ∧ (TT t).2.1 = q.2.length) && (List.range q.2.length).all (fun k => match q.2[k]? with | some v => zk_cf A.2.2.1 A.2.2.2.1.1 v (zk_el (TT t).2.2 k) | none => false)
def zk_fzm (TT : Nat → zS) (x t : Nat) (q : Nat × List zV) : List (Nat × Nat × Nat × zV) := if q.1 < 1000 then (List.range (TT t).2.2.length).filterMap (fun k => (q.2[k]?).map (fun v => (x, q.1, k, v))) else []
def zk_fze (x t : Nat) (q : Nat × List zV) : List (Nat × Nat × zV × zV) := if q.1 < 1000 then [] else (List.range q.2.length).filterMap (fun (k : Nat) => (q.2[k]?).map (fun v => (x, t, (0, 0, (k : Int)), v)))
def zk_fz1 (TT : Nat → zS) (x t : Nat) (A : zA) : Option zA := match zk_rwl A.2.2.2.1.2.2.2.1 x with
  | none => none
  | some q => if zk_fzb TT q t A then some (A.1, A.2.1, A.2.2.1, ((x, t) :: A.2.2.2.1.1, zk_fzm TT x t q ++ A.2.2.2.1.2.1, zk_fze x t q ++ A.2.2.2.1.2.2.1, A.2.2.2.1.2.2.2.1.filter (fun g => !(g.1 == x)), A.2.2.2.1.2.2.2.2), A.2.2.2.2) else none
theorem zk_fz1_ok (hQ : zk_fr D) (hO : zk_stable D PF PB) (I : zk_I D E A r ty H locs ls st) {x t : Nat} {A' : zA} (h : zk_fz1 D.TT x t A = some A') : ∃ ty', zk_I D E A' r ty' H locs ls st ∧ A'.2.2.2.2 = A.2.2.2.2 := by
  unfold zk_fz1 at h
  split at h
  · cases h
  rename_i q hq
  split at h
  rotate_left
  · cases h
  rename_i hb
  cases h
  unfold zk_fzb at hb
  obtain ⟨a1, a2, a3, a4, a5, a6, a7, a8, a9, a10, a11⟩ := I
  obtain ⟨g1, g2, g3, g4, g5, g6, g7⟩ := a4
  obtain ⟨r1, r2, r3, cell, c1, c2, c3⟩ := g4 _ (zk_rwl_mem hq)
  dsimp only at r1 r2 r3 c1 c3
  have hsub : ∀ g ∈ A.2.2.2.1.2.2.2.1.filter (fun g => !(g.1 == x)), g ∈ A.2.2.2.1.2.2.2.1 ∧ (r g.1).toNat ≠ (r x).toNat := by
    intro g hg
    obtain ⟨h1, h2⟩ := List.mem_filter.mp hg
    refine ⟨h1, fun ez => ?_⟩
    have h0g := (g4 g h1).1
    have er : r g.1 = r x := by omega
    have hx1 := zk_rwl_mem hq
    have hne : g ≠ (x, q) := fun e => by rw [e] at h2; simp at h2
    obtain ⟨i, hi, ei⟩ := List.getElem_of_mem h1
    obtain ⟨j, hj, ej⟩ := List.getElem_of_mem hx1
    have hp := List.pairwise_iff_getElem.mp g5
    rcases Nat.lt_trichotomy i j with hlt | heq | hgt
    · have := hp i j hi hj hlt
      rw [ei, ej] at this
      exact this er
    · subst heq
      exact hne (ei.symm.trans ej)
    · have := hp j i hj hi hgt
      rw [ei, ej] at this
      exact this er.symm
  have h9 : (D.TT t).1 ≠ 9 := by
    split at hb
    · simp only [Bool.and_eq_true, decide_eq_true_eq] at hb
      rw [hb.1.1]; decide
    · simp only [Bool.and_eq_true, decide_eq_true_eq] at hb
      exact hb.1.2.2.1
  have hkeep : ∀ b u : Nat, ty b = u + 1 → zk_tu ty (r x).toNat t b = u + 1 := fun _ _ => zk_tu_keep r3
  have hC : zk_C D (zk_tu ty (r x).toNat t) H (r x).toNat (D.TT t) := by
    unfold zk_C
    split at hb
    · rename_i hlt
      simp only [Bool.and_eq_true, decide_eq_true_eq, List.all_eq_true] at hb
      obtain ⟨⟨t1, t2, t3⟩, hall⟩ := hb
      rw [if_pos hlt] at c3
      rw [if_pos t1]
      refine ⟨cell, c1, by rw [t2]; exact c3.1, c2, fun k z hk => ?_⟩
      have hkl := (List.getElem?_eq_some_iff.mp hk).1
      have hall' := hall k (List.mem_range.mpr hkl)
      rw [hk] at hall'
      split at hall'
      · rename_i v z' hv hz
        cases hz
        exact ⟨_, by rw [t2]; exact c3.2 k v hv, zk_vt_mono hkeep (zk_cf_ok a3 g1 hall')⟩
      · cases hall'
    · rename_i hlt
      simp only [Bool.and_eq_true, decide_eq_true_eq, List.all_eq_true] at hb
      obtain ⟨⟨t1, t2, t3, t4⟩, hall⟩ := hb
      rw [if_neg hlt] at c3
      rw [if_neg t2]
      refine ⟨cell, c1, by rw [t1]; exact c3.1, c2, by rw [t4]; exact c3.2.1, fun j hj => ?_⟩
      have hall' := hall j (List.mem_range.mpr (by omega))
      split at hall'
      · rename_i v hv
        exact ⟨_, c3.2.2 j v hv, zk_vt_mono hkeep (zk_cf_ok a3 g1 hall')⟩
      · cases hall'
  have hT' := zk_T_grow a5 r3 ⟨r2, hQ t _ h9⟩ h9 hC
  have hH := zk_H_grow (G := (A.2.2.2.1.1, A.2.2.2.1.2.1, A.2.2.2.1.2.2.1, A.2.2.2.1.2.2.2.1.filter (fun g => !(g.1 == x)), A.2.2.2.1.2.2.2.2)) hO a5 hT' r3 (fun q hq => (hsub q hq).2) ⟨g1, g2, g3, fun q hq => g4 q (hsub q hq).1, g5.filter _, g6, g7⟩
  obtain ⟨k1, k2, k2', k3⟩ := hH
  refine ⟨zk_tu ty (r x).toNat t, ⟨a1, a2, a3, ⟨fun g hg => ?_, fun g hg => ?_, fun g hg => ?_, k3⟩, hT', zk_F_grow a6 r3 (a11 _ (zk_rwl_mem hq)), a7, a8, a9, a10, fun g hg => a11 g (hsub g hg).1⟩, rfl⟩
  · rcases List.mem_cons.mp hg with rfl | hg
    · exact ⟨r1, by unfold zk_tu; rw [if_pos rfl]⟩
    · exact k1 g hg
  · rcases List.mem_append.mp hg with hg | hg
    · unfold zk_fzm at hg
      split at hg
      · rename_i hlt
        rw [if_pos hlt] at hb c3
        simp only [Bool.and_eq_true, decide_eq_true_eq, List.all_eq_true] at hb
        obtain ⟨⟨t1, t2, t3⟩, hall⟩ := hb
        obtain ⟨k, hk, hgk⟩ := List.mem_filterMap.mp hg
        cases hv : q.2[k]? with
        | none => rw [hv] at hgk; cases hgk
        | some v =>
          rw [hv] at hgk
          cases hgk
          refine ⟨⟨t, by unfold zk_tu; rw [if_pos rfl], t1, t2, List.mem_range.mp hk⟩, cell, c1, c3.2 k v hv⟩
      · cases hg
    · exact k2 g hg
  · rcases List.mem_append.mp hg with hg | hg
    · unfold zk_fze at hg
      split at hg
      · cases hg
      · rename_i hlt
        rw [if_neg hlt] at hb c3
        simp only [Bool.and_eq_true, decide_eq_true_eq] at hb
        obtain ⟨k, hk, hgk⟩ := List.mem_filterMap.mp hg
        cases hv : q.2[k]? with
        | none => rw [hv] at hgk; cases hgk
        | some v =>
          rw [hv] at hgk
          cases hgk
          have e0 : zk_n r (0, 0, (k : Int)) = (k : Int) := by unfold zk_n; dsimp only; omega
          refine ⟨by unfold zk_tu; rw [if_pos rfl], hb.1.2.1, by rw [e0]; omega, cell, c1, ?_⟩
          dsimp only
          rw [e0, Int.toNat_natCast]
          exact c3.2.2 k v hv
    · exact k2' g hg
def zk_frz (TT : Nat → zS) : List (Nat × Nat) → zA → Option zA
  | [], A => some A
  | q :: l, A => match zk_fz1 TT q.1 q.2 A with | none => none | some A' => zk_frz TT l A'
theorem zk_frz_ok (hO : zk_stable D PF PB) : ∀ {f : List (Nat × Nat)} {A A' : zA} {ty : Nat → Nat}, (zk_fr D ∨ f = []) → zk_I D E A r ty H locs ls st → zk_frz D.TT f A = some A' → ∃ ty', zk_I D E A' r ty' H locs ls st ∧ A'.2.2.2.2 = A.2.2.2.2
  | [], A, A', ty, _, I, h => by cases h; exact ⟨ty, I, rfl⟩
  | q :: f, A, A', ty, hQ, I, h => by
    have hQ : zk_fr D := by
      rcases hQ with z | z
      · exact z
      · cases z
    unfold zk_frz at h
    split at h
    · cases h
    · rename_i A1 h1
      obtain ⟨ty1, I1, e1⟩ := zk_fz1_ok hQ hO I h1
      obtain ⟨ty2, I2, e2⟩ := zk_frz_ok hO (Or.inl hQ) I1 h
      exact ⟨ty2, I2, e2.trans e1⟩
end
