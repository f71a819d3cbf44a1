/-- texts of a method: entries of texts with their types; the entries of length and charAt (0: none) -/
abbrev zTX : Type := List (Nat × Nat) × Nat × Nat
def zk_XTt (TT : Nat → zS) (n0 : Nat) (rm : Room) (TX : zTX) (K : Nat → zA → Bool) (pc : Nat) (A : zA) (i : Instr) (len : Nat) : Bool := match i, len with
  | .ldc x, 2 => (match zk_al TX.1 x with
    | some t => A.2.2.2.1.2.2.2.2.2.contains (0, []) && (zk_ok n0 A && K (pc + 2) (zk_rd 2 ((t : Int), 0) [] [] A.2.1 A))
    | none => false)
  | .invokevirtual x, 3 => decide (x ≠ 0 ∧ 5 ≤ rm.frames ∧ 97 ≤ rm.locals ∧ A.2.2.2.2.2.2.1 ≤ rm.cells ∧ A.2.2.2.2.2.2.2 ≤ rm.slots) && (A.2.2.2.1.2.2.2.2.2.contains (0, []) && (if Nat.beq x TX.2.1 then (match A.2.1 with
      | v :: S => decide (v.1 = 2 ∧ v.2.2 = 0 ∧ (S.map (fun v => if v.1 = 1 then 2 else 1)).sum ≤ 8) && (match zk_rtl A.2.2.2.1.1 v.2.1 with
        | some t => decide (t < 15 ∧ (TT t).1 = 9) && K (pc + 3) (zk_ss ((0, 0, ((zs_len.getD t 0 : Nat) : Int)) :: S) A)
        | none => false)
      | _ => false)
    else if Nat.beq x TX.2.2 then (match A.2.1 with
      | k :: v :: S => decide (k.1 = 0 ∧ k.2.1 = 0 ∧ 0 ≤ k.2.2 ∧ v.1 = 2 ∧ v.2.2 = 0 ∧ (S.map (fun v => if v.1 = 1 then 2 else 1)).sum ≤ 8) && (match zk_rtl A.2.2.2.1.1 v.2.1 with
        | some t => decide (t < 15 ∧ (TT t).1 = 9 ∧ k.2.2.toNat < zs_len.getD t 0) && K (pc + 3) (zk_ss ((0, 0, zs_ch t k.2.2.toNat) :: S) A)
        | none => false)
      | _ => false)
    else false))
  | _, _ => false
def zk_txok (own : String) (TX : zTX) : Prop := (∀ x t, zk_al TX.1 x = some t → ∃ q ∈ zk_str, q.1 = own ∧ q.2.1 = x ∧ q.2.2.2 = t) ∧ (TX.2.1 ≠ 0 → Cond.methodLink own TX.2.1 zs_lenm.y ∈ zw) ∧ (TX.2.2 ≠ 0 → Cond.methodLink own TX.2.2 zs_cat.y ∈ zw)
def zk_txb (own : String) (TX : zTX) (p : Nat × Nat) : Bool := TX.1.all (fun z => zk_str.any (fun q => decide (q.1 = own ∧ q.2.1 = z.1 ∧ q.2.2.2 = z.2))) && ((decide (TX.2.1 = 0) || zk_wb (Cond.methodLink own TX.2.1 zs_lenm.y) p.1) && (decide (TX.2.2 = 0) || zk_wb (Cond.methodLink own TX.2.2 zs_cat.y) p.2))
theorem zk_txb_ok {own : String} {TX : zTX} {p : Nat × Nat} (h : zk_txb own TX p = true) : zk_txok own TX := by
  simp only [zk_txb, Bool.and_eq_true, Bool.or_eq_true, decide_eq_true_eq, List.all_eq_true, List.any_eq_true] at h
  obtain ⟨h1, h2, h3⟩ := h
  refine ⟨fun x t hx => h1 _ (zk_al_mem hx), fun h => zk_wb_ok (h2.resolve_left h), fun h => zk_wb_ok (h3.resolve_left h)⟩
theorem zs_e1 : ∀ t : Fin 15, Int32.ofInt ((zs_len.getD t.val 0 : Nat) : Int) = Int32.ofNat (zs_len.getD t.val 0) := by decide +kernel
theorem zs_e2 : ∀ t : Fin 15, zs_len.getD t.val 0 ≤ 100 := by decide +kernel
theorem zs_e3 : ∀ (t : Fin 15) (k : Fin 100), k.val < zs_len.getD t.val 0 → (¬ Int32.ofNat k.val < 0) ∧ Int32.ofNat k.val < Int32.ofNat (zs_len.getD t.val 0) ∧ ((((zs_byt.getD t.val []).getD (Int32.ofNat k.val).toNatClampNeg 0) &&& 255).toUInt32 % 65536).toInt32 = Int32.ofInt (zs_ch t.val k.val) ∧ narrow .char (.int (Int32.ofInt (zs_ch t.val k.val))) = .int (Int32.ofInt (zs_ch t.val k.val)) ∧ Int32.ofInt ((k.val : Nat) : Int) = Int32.ofNat k.val := by decide +kernel
section
variable {p : Program} {l : Launch} {e : Env} {s : State} {m : MethodId} {args : Array Value} {below : List Frame} {meth : Method} {c : Code} {D : zD} {cl : List vw_C} {own : String} {Q : State → Prop} {E : zE}
theorem zk_XTt_ok {M0 : zM} {TX : zTX} {n0 : Nat} (hE : E.1 = M0.n) (hn0 : n0 = E.2.1.1) (hx : p.tables.exec = Jvm.exec) (hb : c.code = M0.b) (hml : c.maxLocals = M0.n) (hown : s.vm.findClass own = some m.cls) (hts : ∀ w ∈ zk_ws M0, w.before args s = true) (hk : zk_kn D cl s) (hT : zk_txok own TX) :
    zk_XT p l e M0.rm s m args below meth c Q M0.b D E (zk_XTt D.TT n0 M0.rm TX) := by
  intro K hK pc A i len hd h
  have hw : ∀ w ∈ zw, w.before args s = true := fun w h => hts w (List.mem_cons_of_mem _ h)
  obtain ⟨H0, adK, adV, hS0, hR, hro, hop⟩ := hk.2.2.2.1
  unfold zk_XTt at h
  split at h
  · rename_i x
    split at h
    rotate_left
    · cases h
    rename_i t ht
    simp only [Bool.and_eq_true, List.contains_iff_mem] at h
    obtain ⟨h1, h2, h3⟩ := h
    obtain ⟨q, hq, q1, q2, q3⟩ := hT.1 x t ht
    obtain ⟨r1, r2⟩ := hR q hq
    rw [q1, q2, q3] at r2
    rw [q3] at r1
    intro r ty H locs ls st I
    have hst := I.2.1
    have ho := (hop ty H (I.2.2.2.1.2.2.2.2.2.2 _ h1)).1 t r1
    subst hst
    refine va_ldcS hx hb hown r2 hd ?_
    exact hK _ _ h3 _ ty H locs ls _ (zk_I_rd (z := ((adK t : Nat) : Int)) (hn0 ▸ h2) I (fun _ z => z) (by rw [if_pos rfl]; exact ⟨by omega, by simpa using ho⟩) (fun q h => by cases h) (fun q h => by cases h))
  · rename_i x
    simp only [Bool.and_eq_true, List.contains_iff_mem, decide_eq_true_eq] at h
    obtain ⟨⟨hx0, hfr, hlo, hce, hsl⟩, h1, h⟩ := h
    have hgo : ∀ (r : Nat → Int) (ty : Nat → Nat) (H : Heap) (locs : List Loc) (ls : Array Slot) (st : List Value) (v : zV) (t : Nat), zk_I D E A r ty H locs ls st → (v.1 = 2 ∧ v.2.2 = 0) → zk_rtl A.2.2.2.1.1 v.2.1 = some t → t < 15 → (D.TT t).1 = 9 → zk_c r v = .ref (adK t) ∧ zs_S adK adV (fun q => D.ba ≤ q) s H := by
      intro r ty H locs ls st v t I hv ht hlt h9
      have g1 := I.2.2.2.1.1 _ (zk_rtl_mem ht)
      have g2 := I.2.2.2.2.1.2 _ _ g1.2
      rw [if_pos h9] at g2
      refine ⟨by rw [zk_ref hv, hro t _ hlt g2.1], (hop ty H (I.2.2.2.1.2.2.2.2.2.2 _ h1)).2 s hS0⟩
    have hsum : ∀ (r : Nat → Int) (S : List zV), (S.map (fun v => if v.1 = 1 then 2 else 1)).sum ≤ 8 → ((S.map (zk_c r)).map fun v => v.category).sum ≤ 8 := by
      intro r S hS
      have hq : ((S.map (zk_c r)).map fun v => v.category).sum = (S.map (fun v => if v.1 = 1 then 2 else 1)).sum := by
        rw [List.map_map]
        congr 1
        apply List.map_congr_left
        intro v _
        simp only [Function.comp]
        by_cases h : v.1 = 1
        · rw [if_pos h, zk_cat2 h]
        · rw [if_neg h, zk_cat1 h]
      rw [hq]; exact hS
    split at h
    · rename_i hxl
      have hxl := Nat.eq_of_beq_eq_true hxl
      split at h
      rotate_left
      · cases h
      rename_i v S hS
      simp only [Bool.and_eq_true, decide_eq_true_eq] at h
      obtain ⟨⟨hv1, hv2, hv3⟩, h⟩ := h
      split at h
      rotate_left
      · cases h
      rename_i t ht
      simp only [Bool.and_eq_true, decide_eq_true_eq] at h
      obtain ⟨⟨hlt, h9⟩, h⟩ := h
      intro r ty H locs ls st I
      obtain ⟨hr, hSS⟩ := hgo r ty H locs ls st v t I ⟨hv1, hv2⟩ ht hlt h9
      have hst := I.2.1
      rw [hS, List.map_cons, hr] at hst
      obtain ⟨cell, c1, c2, c3, -⟩ := (hSS.1.1 t hlt).1
      refine W.callX (W.runV (As := []) (rest := S.map (zk_c r)) (C := "java/lang/String") ⟨hx, hb, hml, hown, hts⟩ (zs_lenm_ok (l := l) (adK := adK) (adV := adV) (A := fun q => D.ba ≤ q) hlt) ⟨zs_B (n := 0) hts zs_w_c_lenm zs_w_n_S (by rw [hxl]; exact hT.2.1 (by rw [← hxl]; exact hx0)) ⟨rfl, rfl⟩ (by decide +kernel) ⟨by show 2 + 1 ≤ _; omega, by show 8 + (1 + 11) + 32 ≤ _; omega⟩, hw _ zs_w_i_lenm, hw _ zs_w_s_lenm⟩ ⟨zs_blind, ⟨cell, c1, c2, c3⟩, fun U hU hW => zs_at hSS U hU hW⟩ rfl rfl (by rw [← hE]; exact I.1.1) hst (by show 2 * 0 + _ ≤ 8; have := hsum r S hv3; omega) hd ⟨by omega, by omega⟩) (fun x h => h.elim) (fun v9 st9 t9 k1 k2 => ?_)
      obtain ⟨h3, h4⟩ := k2
      cases h3
      rw [h4, k1]
      have hq := hK _ _ h r ty H locs ls _ (zk_I_ss I)
      have e1 : zk_c r (0, 0, ((zs_len.getD t 0 : Nat) : Int)) = .int (Int32.ofNat (zs_len.getD t 0)) := by
        have := zs_e1 ⟨t, hlt⟩
        unfold zk_c zk_n
        dsimp only at this ⊢
        rw [I.2.2.2.2.2.2.1, Int.zero_add]
        show Value.int _ = _
        rw [this]
      rw [List.map_cons, e1] at hq
      exact hq
    · split at h
      rotate_left
      · cases h
      rename_i hxl
      have hxl := Nat.eq_of_beq_eq_true hxl
      split at h
      rotate_left
      · cases h
      rename_i k v S hS
      simp only [Bool.and_eq_true, decide_eq_true_eq] at h
      obtain ⟨⟨hk1, hk2, hk3, hv1, hv2, hv3⟩, h⟩ := h
      split at h
      rotate_left
      · cases h
      rename_i t ht
      simp only [Bool.and_eq_true, decide_eq_true_eq] at h
      obtain ⟨⟨hlt, h9, hkl⟩, h⟩ := h
      intro r ty H locs ls st I
      obtain ⟨hr, hSS⟩ := hgo r ty H locs ls st v t I ⟨hv1, hv2⟩ ht hlt h9
      have h82 := zs_e2 ⟨t, hlt⟩
      dsimp only at h82
      obtain ⟨z1, z2, z3, z4, z5⟩ := zs_e3 ⟨t, hlt⟩ ⟨k.2.2.toNat, by omega⟩ hkl
      dsimp only at z1 z2 z3 z4 z5
      have hkc : zk_c r k = .int (Int32.ofNat k.2.2.toNat) := by
        unfold zk_c zk_n
        rw [hk1, hk2, I.2.2.2.2.2.2.1, Int.zero_add]
        show Value.int _ = _
        rw [← z5]
        congr 2
        omega
      have hst := I.2.1
      rw [hS, List.map_cons, List.map_cons, hr, hkc] at hst
      obtain ⟨cell, c1, c2, c3, -⟩ := (hSS.1.1 t hlt).1
      refine W.callX (W.runV (As := [.int (Int32.ofNat k.2.2.toNat)]) (rest := S.map (zk_c r)) (C := "java/lang/String") ⟨hx, hb, hml, hown, hts⟩ (zs_cat_ok (l := l) (adK := adK) (adV := adV) (A := fun q => D.ba ≤ q) hlt hkl z1 z2 (vp_in_nI hkl (by omega)) z3 z4) ⟨zs_B (n := 1) hts zs_w_c_cat zs_w_n_S (by rw [hxl]; exact hT.2.2 (by rw [← hxl]; exact hx0)) ⟨rfl, rfl⟩ (by decide +kernel) ⟨by show 4 + 1 ≤ _; omega, by show 8 + (2 + 11) + 76 ≤ _; omega⟩, hw _ zs_w_i_cat, hw _ zs_w_s_cat⟩ ⟨zs_blind, ⟨cell, c1, c2, c3⟩, fun U hU hW => zs_at hSS U hU hW⟩ rfl rfl (by rw [← hE]; exact I.1.1) hst (by show 2 * 0 + _ ≤ 8; have := hsum r S hv3; omega) hd ⟨by omega, by omega⟩) (fun x h => h.elim) (fun v9 st9 t9 k1 k2 => ?_)
      obtain ⟨h3, h4⟩ := k2
      cases h3
      rw [h4, k1]
      have hq := hK _ _ h r ty H locs ls _ (zk_I_ss I)
      have e1 : zk_c r (0, 0, zs_ch t k.2.2.toNat) = .int (Int32.ofInt (zs_ch t k.2.2.toNat)) := by
        unfold zk_c zk_n
        dsimp only
        rw [I.2.2.2.2.2.2.1, Int.zero_add]
        rfl
      rw [List.map_cons, e1] at hq
      exact hq
  · cases h
end
/-- hints of a method: annotations, freezes, lemmas, types of new arrays, texts, first measure -/
abbrev zH : Type := List (Nat × List zA) × List (Nat × List (Nat × Nat)) × List (Nat × List (Nat × Nat × Int)) × List (Nat × Nat) × zTX × Int
def zk_XTb (TT : Nat → zS) (PF : Nat → List (Nat × Nat)) (PB : Nat → List Nat) (M : zM) (L : zL) (HX : List zX) (TX : zTX) : (Nat → zA → Bool) → Nat → zA → Instr → Nat → Bool := fun K pc A i len => zk_XTc TT PF M.cs.2.2.2.1.1 PB M.cs.2.2.2.1.2 M.rt M.rm M.cs L.2.2.2.2.2 HX K pc A i len || (zk_XTt TT M.cs.1.1 M.rm TX K pc A i len || zk_XTq M.cs.1.1 K pc A i len)
def zk_ex (cl : List vw_C) (ft : Nat → Nat → FieldType) (TT : Nat → zS) (PF : Nat → List (Nat × Nat)) (PB : Nat → List Nat) (SU : zSU) (L : zL) (oc : Nat) (ini : Bool) (M : zM) (FTl : List (Nat × List (Nat × Instr × Nat))) (h : zH) (UL : Nat → Nat → zA → List zA) (HX : List zX) (fuel : Nat) : Nat → zA → Bool :=
  zk_exec cl ft TT PF PB SU (zk_al L.1) (zk_al L.2.1) (zk_al L.2.2.1) (zk_al L.2.2.2.1) (zk_al L.2.2.2.2.1) oc ini M.n M.cs.1.1 M.rm.cells M.rm.slots M.cs.2.2.2.1.1 M.cs.2.2.2.1.2 (zk_bl FTl) (zk_ans h.1) (zk_fzs h.2.1) (zk_fzs h.2.2.1) UL (zk_al h.2.2.2.1) (zk_XTb TT PF PB M L HX h.2.2.2.2.1) fuel
def zk_run (cl : List vw_C) (ft : Nat → Nat → FieldType) (TT : Nat → zS) (PF : Nat → List (Nat × Nat)) (PB : Nat → List Nat) (SU : zSU) (L : zL) (oc : Nat) (ini : Bool) (M : zM) (FTl : List (Nat × List (Nat × Instr × Nat))) (h : zH) (UL : Nat → Nat → zA → List zA) (HX : List zX) (fuel : Nat) : Bool :=
  zk_ex cl ft TT PF PB SU L oc ini M FTl h UL HX fuel 0 (zk_A0 M.cs h.2.2.2.2.2) && h.1.all (fun q => q.2.all (fun B => zk_ex cl ft TT PF PB SU L oc ini M FTl h UL HX fuel q.1 B && zk_pos B.2.2.1 (B.2.2.2.2.2.1.1, B.2.2.2.2.2.1.2 + 1)))
def zk_idb (cl : List vw_C) (own : String) (oc : Nat) (ini : Bool) (M : zM) : Bool := plainFor M.y && (decide (M.y.cls = own) && ((!ini || (decide (own = zk_cn cl oc) && decide (M.y.name = "<init>"))) && decide (zk_ln M.cs.2.1.1 ≤ M.n)))
def zk_noUL : Nat → Nat → zA → List zA := fun _ _ A => [A]
theorem zk_noUL_ok {D : zD} {E : zE} : zk_ULok D E zk_noUL := fun _ A r _ _ _ _ _ I => ⟨A, List.mem_singleton.mpr rfl, r, I, rfl⟩
theorem zk_meth {D : zD} {cl : List vw_C} {ft : Nat → Nat → FieldType} {TT : Nat → zS} {PF : Nat → List (Nat × Nat)} {PB : Nat → List Nat} {SU : zSU} {l : Launch} {L : zL} {own : String} {oc : Nat} {ini : Bool} {M : zM} {FTl : List (Nat × List (Nat × Instr × Nat))} {h : zH} {UL : Nat → Nat → zA → List zA} {HX : List zX} {fuel : Nat}
    (hQ : zk_fr D ∨ (h.2.1 = [] ∧ h.2.2.2.1 = [])) (hD : zk_wd D cl ft TT PF PB SU UL) (hL : zk_pool cl own L) (hid : zk_idb cl own oc ini M = true) (hTX : zk_txok own h.2.2.2.2.1) (hFT : zk_ftb M.b FTl = true) (hC : ∀ x ∈ HX, zk_con D cl l x.2.2.2.y (zk_ws x.2.2.2) x.2.2.2.rm x.2.2.2.cs ∧ zk_hw cl own M.rm x) (hrun : zk_run cl ft TT PF PB SU L oc ini M FTl h UL HX fuel = true) : zk_con D cl l M.y (zk_ws M) M.rm M.cs := by
  obtain ⟨d1, d2, d3, hUL, hrc, d4⟩ := hD
  simp only [zk_idb, Bool.and_eq_true, decide_eq_true_eq, Bool.or_eq_true, Bool.not_eq_true'] at hid
  obtain ⟨i1, i2, i3, i4⟩ := hid
  simp only [zk_run, Bool.and_eq_true] at hrun
  obtain ⟨r1, r2⟩ := hrun
  unfold zk_ex at r1 r2
  subst d1
  refine zk_con_of (FX := zk_al L.1) (CX := zk_al L.2.1) (LX := zk_al L.2.2.1) (NX := zk_al L.2.2.2.1) (NA := zk_al L.2.2.2.2.1) (oc := oc) (ini := ini) (FT := zk_bl FTl) (AN := zk_ans h.1) (FZ := zk_fzs h.2.1) (LM := zk_fzs h.2.2.1) (UL := UL) (AT := zk_al h.2.2.2.1) (XT := zk_XTb D.TT PF PB M L HX h.2.2.2.2.1) (M := h.2.2.2.2.2) (fuel := fuel) (ft := ft) (PF := PF) (PB := PB) (SU := SU) (maxL := M.n) (rt := M.rt) (cc := M.b) (own := own) (hQ.imp_right (fun z => ⟨fun pc => by rw [z.1]; rfl, fun pc => by rw [z.2]; rfl⟩)) i1 rfl i2 d4 d2 d3 (zk_ftb_ok hFT) ?_ ?_ i4 ?_ ?_ (fun r ty H M => hUL _) ?_ r1
  · intro hi; rcases i3 with i3 | i3
    · rw [i3] at hi; cases hi
    · exact i3.1
  · intro hi; rcases i3 with i3 | i3
    · rw [i3] at hi; cases hi
    · exact i3.2
  · intro s args hw
    exact hL.1 s args (fun w h => hw w (List.mem_cons_of_mem _ h))
  · intro p e s m args below meth c r ty M' hx hb hml hown hts hk hr hlocks
    intro K hK pc A i len hd hh
    rcases Bool.or_eq_true _ _ ▸ hh with hh | hh
    · exact zk_XTc_ok hx hb hml hown hts hk hr hlocks d3.1 hL.2 hC K hK pc A i len hd hh
    · rcases Bool.or_eq_true _ _ ▸ hh with hh | hh
      · exact zk_XTt_ok rfl rfl hx hb hml hown hts hk hTX K hK pc A i len hd hh
      · exact zk_XTq_ok rfl hx hb hrc K hK pc A i len hd hh
  · intro n Bn hBn
    unfold zk_ans at hBn
    split at hBn
    · cases hBn
    · rename_i l' hl
      have h1 := List.all_eq_true.mp r2 _ (zk_al_mem hl)
      have h2 := List.all_eq_true.mp h1 _ hBn
      simp only [Bool.and_eq_true] at h2
      exact h2
def zk_noSU : zSU := fun _ _ => []
theorem zk_noSU_ok {D : zD} {E : zE} : zk_SUok D E zk_noSU := ⟨fun _ _ _ _ _ _ _ _ _ _ _ _ _ _ _ _ _ _ _ _ _ _ _ _ _ q h => (by cases h), fun _ _ _ _ _ _ _ _ _ _ _ _ _ _ _ _ _ _ _ _ _ _ _ _ _ _ _ q h => (by cases h)⟩
