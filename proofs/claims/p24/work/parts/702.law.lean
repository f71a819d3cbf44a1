/-! THE LAW, 3: the two worlds: what the constructors run in, and what the methods run in. -/
theorem zclok0 : ∀ (ci : Nat) (q : vw_C), zcl[ci]? = some q → (∀ k, k < q.2.2 → parseFieldDescriptor (q.2.1 k).2.2.1 = some (zft ci k)) ∧ (∀ a, a < q.2.2 → ∀ b, b < q.2.2 → a ≠ b → (q.2.1 a).2.1 ≠ (q.2.1 b).2.1) ∧ ∀ a, a < q.2.2 → (q.2.1 a).1 = q.1 := by
  intro ci q hq
  match ci, hq with
  | 0, hq => cases hq; exact ⟨tyX0_ok, nmX0, by decide +kernel⟩
  | 1, hq => cases hq; exact ⟨tyX2_ok, nmX2, by decide +kernel⟩
  | 2, hq => cases hq; exact ⟨tyX2_ok, nmX2, by decide +kernel⟩
  | 3, hq => cases hq; exact ⟨tyX3_ok, nmX3, by decide +kernel⟩
  | 4, hq => cases hq; exact ⟨tyX4_ok, nmX4, by decide +kernel⟩
  | 5, hq => cases hq; exact ⟨tyX5_ok, nmX5, by decide +kernel⟩
  | 6, hq => cases hq; exact ⟨tyX6_ok, nmX6, by decide +kernel⟩
  | 7, hq => cases hq; exact ⟨tyX7_ok, nmX7, by decide +kernel⟩
  | 8, hq => cases hq; exact ⟨tyX8_ok, nmX8, by decide +kernel⟩
  | 9, hq => cases hq; exact ⟨tyX9_ok, nmX9, by decide +kernel⟩
  | 10, hq => cases hq; exact ⟨tyX10_ok, nmX10, by decide +kernel⟩
  | 11, hq => cases hq; exact ⟨tyX11_ok, nmX11, by decide +kernel⟩
  | 12, hq => cases hq; exact ⟨tyX12_ok, nmX12, by decide +kernel⟩
  | k + 13, hq => simp [zcl] at hq
def zkin (S : zS) : Bool := (decide (S.1 = 0) || (decide (S.1 = 9) || decide (S.1 ∈ [1, 2, 3, 4, 10, 12, 13, 14, 19]))) && (decide (S.1 ≠ 0) || (match zcl[S.2.1]? with | some q => decide (S.2.2.length = q.2.2) | none => false))
theorem zkin_all {l : List zS} (h : l.all zkin = true) (t : Nat) : zkin (l.getD t (9, 0, [])) = true := by
  rw [List.getD_eq_getElem?_getD]
  cases e : l[t]? with
  | none => rfl
  | some S => exact List.all_eq_true.mp h S (List.mem_of_getElem? e)
theorem zclok_of {D : zD} (h : ∀ t, zkin (D.TT t) = true) : zk_clok D zcl zft := by
  refine ⟨zclok0, fun t h0 h9 => ?_, fun t h0 => ?_⟩
  · have := h t
    simp only [zkin, Bool.and_eq_true, Bool.or_eq_true, decide_eq_true_eq] at this
    exact (this.1.resolve_left h0).resolve_left h9
  · have := h t
    simp only [zkin, Bool.and_eq_true, Bool.or_eq_true, decide_eq_true_eq] at this
    have h2 := this.2.resolve_left (fun z => z h0)
    split at h2
    · rename_i q hq
      exact ⟨q, hq, by simpa using h2⟩
    · cases h2
theorem zkin2 : zTTl.all zkin = true := by decide +kernel
theorem zkin1 : zTT1l.all zkin = true := by decide +kernel
/-- the types of what was there before: the texts, and all else -/
def zty0 (ba : Nat) (adK : Nat → Nat) (a : Nat) : Nat := if a < ba then (match (List.range 15).find? (fun t => Nat.beq (adK t) a) with | some t => t + 1 | none => 16) else 0
theorem zty0_lt {ba : Nat} {adK : Nat → Nat} {a t : Nat} (h : zty0 ba adK a = t + 1) : a < ba ∧ t ≤ 15 ∧ (t < 15 → a = adK t) := by
  unfold zty0 at h
  split at h
  · rename_i hl
    refine ⟨hl, ?_⟩
    split at h
    · rename_i t' ht
      cases h
      have m1 := List.mem_range.mp (List.mem_of_find?_eq_some ht)
      have m2 := List.find?_some ht
      exact ⟨by omega, fun _ => (Nat.eq_of_beq_eq_true m2).symm⟩
    · cases h
      exact ⟨by omega, fun h => by omega⟩
  · cases h
theorem zty0_in {ba : Nat} {adK : Nat → Nat} {a : Nat} (h : a < ba) : ∃ t, zty0 ba adK a = t + 1 := by
  unfold zty0
  rw [if_pos h]
  split
  · exact ⟨_, rfl⟩
  · exact ⟨15, rfl⟩
theorem zty0_K {ba : Nat} {adK : Nat → Nat} {t : Nat} (ht : t < 15) (hl : adK t < ba) (hi : ∀ i j, i < 15 → j < 15 → adK i = adK j → i = j) : zty0 ba adK (adK t) = t + 1 := by
  unfold zty0
  rw [if_pos hl]
  split
  · rename_i t' e
    have m1 := List.mem_range.mp (List.mem_of_find?_eq_some e)
    have m2 := List.find?_some e
    have m2 := Nat.eq_of_beq_eq_true m2
    rw [hi t' t m1 ht m2]
  · rename_i e
    have := List.find?_eq_none.mp e t (List.mem_range.mpr ht)
    exact absurd (Nat.beq_refl _) this
/-- the further facts that don't speak of what is made -/
def zOP1 (s : State) (b : Nat) (adK : Nat → Nat) (j : Nat) (ty : Nat → Nat) (H : Heap) (vs : List Int) : Prop :=
  if j = 0 then vs = [] ∧ ∀ a, a < s.heap.size → ty a = zty0 s.heap.size adK a ∧ H[a]? = s.heap[a]?
  else if j = 60 then ∃ y a : Int, vs = [y, a] ∧ a = (y.natAbs : Int)
  else if j = 70 then ∃ i w : Int, vs = [i, w] ∧ ∃ cell : Cell, s.heap[b]? = some cell ∧ cell.slots[i.toNat]? = some (.int (Int32.ofInt w))
  else if 25 ≤ j ∧ j ≤ 28 then ∃ x y z : Int, vs = [x, y, z] ∧ zk_f (zk_ro j) (.int (Int32.ofInt x)) (.int (Int32.ofInt y)) = some (.int (Int32.ofInt z))
  else if 31 ≤ j ∧ j ≤ 47 then ∃ x y z : Int, vs = [x, y, z] ∧ zk_f (zk_rn j).1 (zk_k (zk_rn j).2.1 x) (zk_k (zk_rn j).2.2 y) = some (zk_k (zk_rn j).2.1 z)
  else if j = 51 then ∃ x z : Int, vs = [x, z] ∧ (Int32.ofInt x).toInt8.toInt32 = Int32.ofInt z
  else ∃ x y z : Int, vs = [x, y, z] ∧ zk_f j (.long (Int64.ofInt x)) (.long (Int64.ofInt y)) = some (.long (Int64.ofInt z))
def zOP2 (s : State) (b : Nat) (adK ua : Nat → Nat) (dI : Nat → Nat → Nat) (j : Nat) (ty : Nat → Nat) (H : Heap) (vs : List Int) : Prop := if 100 ≤ j then zty ua ty ∧ zPW ua dI ty j (zi H) vs else zOP1 s b adK j ty H vs
def zD1 (dC : Nat → ClassId) (dI : Nat → Nat → Nat) (cA : Nat → ClassId) (s : State) (b L : Nat) (adK : Nat → Nat) : zD := (dC, dI, cA, zTT1, s.heap.size, (fun t a => if t < 15 then a = adK t else True), (fun a n => a = b ∧ n = (L : Int)), zOP1 s b adK)
abbrev zD2 (dC : Nat → ClassId) (dI : Nat → Nat → Nat) (cA : Nat → ClassId) (s : State) (b L : Nat) (adK ua : Nat → Nat) : zD := zDw (zD1 dC dI cA s b L adK) ua (zOP2 s b adK ua dI)
section
variable {dC : Nat → ClassId} {dI : Nat → Nat → Nat} {cA : Nat → ClassId} {s : State} {b L : Nat} {adK ua : Nat → Nat} {D : zD}
theorem zrc_of (h : ∀ j, j < 100 → ∀ (ty : Nat → Nat) (H : Heap) (vs : List Int), D.OP j ty H vs ↔ zOP1 s b adK j ty H vs) : zk_rc D := by
  refine ⟨fun o ho ty H x y z => ?_, fun ty H y a => ?_, fun o ho ty H x y z => ?_, fun o ho ty H x y z => ?_, fun ty H x z => ?_⟩
  · simp only [List.mem_cons, List.not_mem_nil, or_false] at ho
    have hk : (∃ x' y' z' : Int, [x, y, z] = [x', y', z'] ∧ zk_f o (.long (Int64.ofInt x')) (.long (Int64.ofInt y')) = some (.long (Int64.ofInt z'))) ↔ zk_f o (.long (Int64.ofInt x)) (.long (Int64.ofInt y)) = some (.long (Int64.ofInt z)) := by
      refine ⟨fun ⟨x', y', z', e, hz⟩ => ?_, fun hz => ⟨x, y, z, rfl, hz⟩⟩
      cases e
      exact hz
    rw [h o (by omega)]
    unfold zOP1
    rw [if_neg (by omega), if_neg (by omega), if_neg (by omega), if_neg (by omega), if_neg (by omega), if_neg (by omega)]
    exact hk
  · rw [h 60 (by omega)]
    unfold zOP1
    rw [if_neg (by omega), if_pos rfl]
    refine ⟨fun ⟨y', a', e, hz⟩ => ?_, fun hz => ⟨y, a, rfl, hz⟩⟩
    cases e
    exact hz
  · simp only [List.mem_cons, List.not_mem_nil, or_false] at ho
    rw [h o (by omega)]
    unfold zOP1
    rw [if_neg (by omega), if_neg (by omega), if_neg (by omega), if_pos (by omega)]
    refine ⟨fun ⟨x', y', z', e, hz⟩ => ?_, fun hz => ⟨x, y, z, rfl, hz⟩⟩
    cases e
    exact hz
  · simp only [zk_nl, List.mem_cons, List.not_mem_nil, or_false] at ho
    rw [h o (by omega)]
    unfold zOP1
    rw [if_neg (by omega), if_neg (by omega), if_neg (by omega), if_neg (by omega), if_pos (by omega)]
    refine ⟨fun ⟨x', y', z', e, hz⟩ => ?_, fun hz => ⟨x, y, z, rfl, hz⟩⟩
    cases e
    exact hz
  · rw [h 51 (by omega)]
    unfold zOP1
    rw [if_neg (by omega), if_neg (by omega), if_neg (by omega), if_neg (by omega), if_neg (by omega), if_pos rfl]
    refine ⟨fun ⟨x', z', e, hz⟩ => ?_, fun hz => ⟨x, z, rfl, hz⟩⟩
    cases e
    exact hz
theorem zst_low {PF : List (Nat × Nat)} {PB : List Nat} {ty ty' : Nat → Nat} {H H' : Heap} {vs : List Int} {j : Nat} (hTT : ∀ t, t ≤ 15 → (D.TT t).1 ≠ 0) (hPB : j = 0 → ∀ t, t ≤ 15 → t ∈ PB) (hst : zk_st D PF PB ty H ty' H') (h : zOP1 s b adK j ty H vs) : zOP1 s b adK j ty' H' vs := by
  by_cases e : j = 0
  · subst e
    unfold zOP1 at h ⊢
    rw [if_pos rfl] at h ⊢
    refine ⟨h.1, fun a ha => ?_⟩
    obtain ⟨h1, h2⟩ := h.2 a ha
    obtain ⟨t, ht⟩ := zty0_in (adK := adK) ha
    rw [ht] at h1 ⊢
    have hl := (zty0_lt ht).2.1
    exact ⟨hst.1 a t h1, by rw [hst.2.1 a t h1 (hTT t hl) (hPB rfl t hl)]; exact h2⟩
  · unfold zOP1 at h ⊢
    rw [if_neg e] at h ⊢
    exact h
theorem zD1_stable : zk_stable (zD1 dC dI cA s b L adK) zPF1 zPB1 := by
  intro j ty ty' H H' vs hst hT hT' h
  exact zst_low (D := zD1 dC dI cA s b L adK) (by show ∀ t, t ≤ 15 → (zTT1 t).1 ≠ 0; intro t ht; have : ∀ t, t < 16 → (zTT1 t).1 ≠ 0 := by decide
                                                  exact this t (by omega)) (fun e t ht => by
    subst e
    have : ∀ t, t < 16 → t ∈ zPB1 0 := by decide
    exact this t (by omega)) hst h
theorem zD2_stable (hd : zk_d2 (zD2 dC dI cA s b L adK ua) ua) : zk_stable (zD2 dC dI cA s b L adK ua) zPF zPB := by
  intro j ty ty' H H' vs hst hT hT' h
  by_cases hj : 100 ≤ j
  · exact zPP_st hd rfl hj hst hT hT' h
  · have h : zOP2 s b adK ua dI j ty H vs := h
    show zOP2 s b adK ua dI j ty' H' vs
    unfold zOP2 at h ⊢
    rw [if_neg hj] at h ⊢
    exact zst_low (D := zD2 dC dI cA s b L adK ua) (by show ∀ t, t ≤ 15 → (zTT t).1 ≠ 0; intro t ht; have : ∀ t, t < 16 → (zTT t).1 ≠ 0 := by decide
                                                       exact this t (by omega)) (fun e t ht => by
      subst e
      have : ∀ t, t < 16 → t ∈ zPB 0 := by decide
      exact this t (by omega)) hst h
theorem zD1_rc : zk_rc (zD1 dC dI cA s b L adK) := zrc_of (s := s) (b := b) (adK := adK) (fun j hj ty H vs => Iff.rfl)
theorem zD2_rc : zk_rc (zD2 dC dI cA s b L adK ua) := zrc_of (s := s) (b := b) (adK := adK) (fun j hj ty H vs => by
  show zOP2 s b adK ua dI j ty H vs ↔ _
  unfold zOP2
  rw [if_neg (by omega)])
theorem zD1_wd : zWD1 (zsc (zD1 dC dI cA s b L adK)) := ⟨⟨rfl, fun _ _ h => h, ⟨zD1_stable (dC := dC) (dI := dI) (cA := cA) (s := s) (b := b) (L := L) (adK := adK), fun E => zk_noSU_ok⟩, fun E => zUL0_ok (D := zsc (zD1 dC dI cA s b L adK)) (zD1_rc (dC := dC) (dI := dI) (cA := cA) (s := s) (b := b) (L := L) (adK := adK)), zD1_rc (dC := dC) (dI := dI) (cA := cA) (s := s) (b := b) (L := L) (adK := adK), zclok_of (fun t => zkin_all zkin1 t)⟩, fun t a h => by
  show if t < 15 then _ else True
  split
  · rename_i ht
    have : ∀ t, t < 15 → (zTT1 t).1 = 9 := by decide
    exact absurd (this t ht) h
  · trivial⟩
theorem zD2_wd (hd : zk_d2 (zD2 dC dI cA s b L adK ua) ua) : zWD (zsc (zD2 dC dI cA s b L adK ua)) := ⟨rfl, fun _ _ h => h, ⟨zD2_stable hd, fun E => zr_SU_ok (D := zsc (zD2 dC dI cA s b L adK ua)) (zRS_ok hd)⟩, fun E => zUL_ok (D := zsc (zD2 dC dI cA s b L adK ua)) (zD2_rc (dC := dC) (dI := dI) (cA := cA) (s := s) (b := b) (L := L) (adK := adK) (ua := ua)) rfl hd, zD2_rc (dC := dC) (dI := dI) (cA := cA) (s := s) (b := b) (L := L) (adK := adK) (ua := ua), zclok_of (fun t => zkin_all zkin2 t)⟩
end
section
variable {dC : Nat → ClassId} {dI : Nat → Nat → Nat} {cA : Nat → ClassId} {s : State} {b L : Nat} {adK : Nat → Nat} {ty : Nat → Nat} {H : Heap} {x m : Nat}
theorem zap_of {D : zD} {args : Array Value} (hV : zk_env D zcl zft s args) : zapt D.dI := fun ci q hq a b ha hb hn => zk_apart hV hq ha hb hn
/-- the methods' world knows where its cells lie -/
theorem zD2_d2 (hT : zk_T (zD1 dC dI cA s b L adK) ty H) (hx : ty x = 43) (hm : ty m = 44) (hap : zapt dI) : zk_d2 (zD2 dC dI cA s b L adK (zua x m dI H)) (zua x m dI H) := by
  have hty : ∀ i ∈ zIds, ty (zua x m dI H i) = zUf i + 1 := zt_ids (D := zD1 dC dI cA s b L adK) hT rfl hx hm
  have hro : ∀ t a l, ¬ t < 15 → zid t = l → l ≠ [] → (zD2 dC dI cA s b L adK (zua x m dI H)).RO t a → a ∈ l.map (zua x m dI H) := by
    intro t a l h1 h2 h3 h
    have h : (if t < 15 then a = adK t else zid t = [] ∨ a ∈ (zid t).map (zua x m dI H)) := by
      have h' : (if t < 15 then (if t < 15 then a = adK t else True) else zid t = [] ∨ a ∈ (zid t).map (zua x m dI H)) := h
      rw [if_neg h1] at h' ⊢
      exact h'
    rw [if_neg h1, h2] at h
    exact h.resolve_left h3
  refine ⟨fun j hj ty H vs => ?_, fun t ht a h => ?_, ?_, fun t ht u hu e => ?_, fun t h => by rw [h]; decide, (show (zTT 33).1 = 0 by decide), (show (zTT 33).2.1 = 10 by decide), fun a h => ?_, fun ty' H' l h => ?_, rfl, fun a h => ?_, fun j hj ty' H' l h => ?_, fun j hj ty' H' l h => ?_, fun ty' H' l h => ?_, hap⟩
  · show zOP2 s b adK (zua x m dI _) dI j ty H vs ↔ _
    unfold zOP2
    rw [if_pos hj]
    exact Iff.rfl
  · have k : ∀ t ∈ zUq, ¬ t < 15 ∧ zid t = [t] := by decide
    have := hro t a [t] (k t ht).1 (k t ht).2 (by simp) h
    simpa using this
  · show ∀ t ∈ zUq, (zTT t).1 ≠ 9
    decide
  · have k : ∀ t ∈ zUa, t ∈ zIds := by decide
    have e1 := hty t (k t ht)
    rw [e, hty u (k u hu)] at e1
    exact zUf_inj t (k t ht) u (k u hu) (by omega)
  · have := hro 33 a [1000, 1001] (by decide) (by decide) (by simp) h
    simpa using this
  · have h : zOP2 s b adK (zua x m dI H) dI 26 ty' H' l := h
    unfold zOP2 at h
    rw [if_neg (by decide)] at h
    unfold zOP1 at h
    rw [if_neg (by decide), if_neg (by decide), if_neg (by decide), if_pos (by decide)] at h
    obtain ⟨a, b', c, e, h⟩ := h
    refine ⟨a, b', c, e, ?_⟩
    exact Value.int.inj (Option.some.inj h)
  · have := hro 37 a [1030, 1031] (by decide) (by decide) (by simp) h
    simpa using this
  · have h : zOP2 s b adK (zua x m dI H) dI j ty' H' l := h
    simp only [List.mem_cons, List.not_mem_nil, or_false] at hj
    unfold zOP2 at h
    rw [if_neg (by omega)] at h
    unfold zOP1 at h
    rw [if_neg (by omega), if_neg (by omega), if_neg (by omega)] at h
    rcases hj with rfl | rfl | rfl | rfl | rfl | rfl | rfl
    iterate 4
      · rw [if_neg (by decide), if_neg (by decide), if_neg (by decide)] at h
        obtain ⟨a, b', c, e, h⟩ := h
        exact ⟨a, b', c, e, Value.long.inj (Option.some.inj h)⟩
    iterate 3
      · rw [if_pos (by decide)] at h
        obtain ⟨a, b', c, e, h⟩ := h
        exact ⟨a, b', c, e, Value.int.inj (Option.some.inj h)⟩
  · have h : zOP2 s b adK (zua x m dI H) dI j ty' H' l := h
    simp only [zk_nl, List.mem_cons, List.not_mem_nil, or_false] at hj
    unfold zOP2 at h
    rw [if_neg (by omega)] at h
    unfold zOP1 at h
    rw [if_neg (by omega), if_neg (by omega), if_neg (by omega), if_neg (by omega), if_pos (by omega)] at h
    exact h
  · have h : zOP2 s b adK (zua x m dI H) dI 51 ty' H' l := h
    unfold zOP2 at h
    rw [if_neg (by decide)] at h
    unfold zOP1 at h
    rw [if_neg (by decide), if_neg (by decide), if_neg (by decide), if_neg (by decide), if_neg (by decide), if_pos rfl] at h
    exact h
theorem zln {D : zD} (hT : zk_T D ty H) (hTT : D.TT = zTT1) (hx : ty x = 43) (hm : ty m = 44) {q : Nat × Nat × Nat × Nat} (hq : q ∈ zUp) : zi H (zua x m D.dI H q.2.1) (zix D.dI q) = (zua x m D.dI H q.1 : Int) := by
  rw [zua_row q hq]
  exact (zt_row hT hTT hq (zt_ids hT hTT hx hm _ (zUp_own q hq).1)).2
/-- zeros -/
theorem zz_a {D : zD} {a t : Nat} (hT : zk_T D ty H) (hTT : D.TT = zTT1) (ha : ty a = t + 1) (h0 : (zTT1 t).1 ≠ 0) (h9 : (zTT1 t).1 ≠ 9) (hz : (zTT1 t).2.2 = [(0, [(0, 0)])]) (j : Nat) : zi H a j = 0 := by
  obtain ⟨cell, c1, c2, c3⟩ := zt_a hT hTT ha h0 h9
  by_cases hj : j < (zTT1 t).2.1
  · obtain ⟨y, y1, z, e1, i, hi, hv⟩ := c3 j hj
    rw [hz] at e1 hi hv
    have hi : i ∈ [((0 : Int), (0 : Int))] := hi
    have hv : (if (0 : Nat) = 2 then _ else _) := hv
    rw [List.mem_singleton.mp hi, if_neg (by decide)] at hv
    have : z = 0 := by
      have h1 := hv.1
      have h2 := hv.2
      dsimp only at h1 h2
      omega
    subst this
    rw [zi_at c1 y1, e1]
    rfl
  · unfold zi
    rw [c1]
    dsimp only
    rw [Array.getElem?_eq_none (by omega)]
theorem zz_f {D : zD} {a t k : Nat} (hT : zk_T D ty H) (hTT : D.TT = zTT1) (ha : ty a = t + 1) (h0 : (zTT1 t).1 = 0) (hz : (zTT1 t).2.2[k]? = some (0, [(0, 0)])) : zi H a (D.dI (zTT1 t).2.1 k) = 0 := by
  obtain ⟨cell, y, c1, c2, z, e1, i, hi, hv⟩ := zt_f hT hTT ha h0 hz
  rw [List.mem_singleton.mp hi, if_neg (by decide)] at hv
  have : z = 0 := by
    have h1 := hv.1
    have h2 := hv.2
    dsimp only at h1 h2
    omega
  subst this
  rw [zi_at c1 c2, e1]
  rfl
theorem zst0 (hT : zk_T (zD1 dC dI cA s b L adK) ty H) (hx : ty x = 43) (hm : ty m = 44) : zty (zua x m dI H) (zty2 (zua x m dI H) ty) := by
  intro q hq
  have k : ∀ q ∈ zUt, q.1 ∈ zIds ∧ zmu (zUf q.1) = q.2 ∧ (zid q.2 = [] ∨ q.1 ∈ zid q.2) := by decide
  obtain ⟨k1, k2, k3⟩ := k q hq
  have h := zt_ids (D := zD1 dC dI cA s b L adK) hT rfl hx hm q.1 k1
  have := zty2_to (ua := zua x m dI H) h (by
    rw [k2]
    rcases k3 with k3 | k3
    · exact Or.inl k3
    · exact Or.inr (List.mem_map.mpr ⟨q.1, k3, rfl⟩))
  rw [k2] at this
  exact this
/-- the facts at the start -/
theorem zstart (hT : zk_T (zD1 dC dI cA s b L adK) ty H) (hx : ty x = 43) (hm : ty m = 44) : ∀ j ∈ [100, 102, 109, 110, 132, 133, 150], (zD2 dC dI cA s b L adK (zua x m dI H)).OP j (zty2 (zua x m dI H) ty) H [] := by
  have hty : ∀ i ∈ zIds, ty (zua x m dI H i) = zUf i + 1 := zt_ids (D := zD1 dC dI cA s b L adK) hT rfl hx hm
  have hl : ∀ q ∈ zUp, zi H (zua x m dI H q.2.1) (zix dI q) = (zua x m dI H q.1 : Int) := fun q hq => zln (D := zD1 dC dI cA s b L adK) hT rfl hx hm hq
  have za : ∀ i ∈ zIds, (zTT1 (zUf i)).1 ≠ 0 → (zTT1 (zUf i)).1 ≠ 9 → (zTT1 (zUf i)).2.2 = [(0, [(0, 0)])] → ∀ j, zi H (zua x m dI H i) j = 0 := fun i hi h0 h9 hz j => zz_a (D := zD1 dC dI cA s b L adK) hT rfl (hty i hi) h0 h9 hz j
  have hz := zst0 hT hx hm
  have go : ∀ j, 100 ≤ j ∧ j < 300 → zPP (zua x m dI H) dI j (zi H) [] → (zD2 dC dI cA s b L adK (zua x m dI H)).OP j (zty2 (zua x m dI H) ty) H [] := by
    intro j hj h
    show zOP2 s b adK (zua x m dI H) dI j _ H []
    unfold zOP2
    rw [if_pos hj.1]
    refine ⟨hz, ?_⟩
    unfold zPW
    rw [if_neg (by omega)]
    exact h
  have h60 : zi H (zua x m dI H 43) (dI 12 60) = 0 := zz_f (D := zD1 dC dI cA s b L adK) (t := 43) (k := 60) hT rfl (hty 43 (by decide)) (by decide) (by decide)
  have z84 := za 84 (by decide) (by decide) (by decide) (by decide)
  have z112 := za 112 (by decide) (by decide) (by decide) (by decide)
  intro j hj
  simp only [List.mem_cons, List.not_mem_nil, or_false] at hj
  rcases hj with rfl | rfl | rfl | rfl | rfl | rfl | rfl
  · refine go _ (by decide) ⟨rfl, fun p hp => ?_⟩
    rcases hp with rfl | rfl
    · refine ⟨hl (1010, 1000, 10, 1) (by decide), hl (1020, 1000, 10, 3) (by decide), fun i _ h => ?_⟩
      rw [za 1010 (by decide) (by decide) (by decide) (by decide)] at h
      omega
    · refine ⟨hl (1011, 1001, 10, 1) (by decide), hl (1021, 1001, 10, 3) (by decide), fun i _ h => ?_⟩
      rw [za 1011 (by decide) (by decide) (by decide) (by decide)] at h
      omega
  · refine go _ (by decide) ⟨rfl, by rw [z84]; omega, fun i hi => ?_⟩
    rw [z84] at hi
    omega
  · exact go _ (by decide) ⟨rfl, trivial⟩
  · refine go _ (by decide) ⟨rfl, by rw [h60]; omega, fun c hc => ?_⟩
    rw [h60] at hc
    omega
  · refine go _ (by decide) ⟨rfl, by rw [z112]; omega, by rw [z112]; omega, ?_⟩
    rw [z112]
    exact zb_k_nil _ _
  · refine go _ (by decide) ⟨rfl, by rw [z112]; omega, by rw [z112]; omega, ?_⟩
    rw [z112]
    exact zb_k_nil _ _
  · refine go _ (by decide) ⟨rfl, fun p hp => ?_⟩
    rcases hp with rfl | rfl
    · refine ⟨hl (1040, 1030, 3, 3) (by decide), ?_⟩
      rw [show zi H (zua x m dI H (1030 + 0)) (dI 3 10) = 0 from zz_f (D := zD1 dC dI cA s b L adK) (t := 37) (k := 10) hT rfl (hty 1030 (by decide)) (by decide) (by decide)]
      exact ⟨0, zb_k_nil _ _, by omega⟩
    · refine ⟨hl (1041, 1031, 3, 3) (by decide), ?_⟩
      rw [show zi H (zua x m dI H (1030 + 1)) (dI 3 10) = 0 from zz_f (D := zD1 dC dI cA s b L adK) (t := 127) (k := 10) hT rfl (hty 1031 (by decide)) (by decide) (by decide)]
      exact ⟨0, zb_k_nil _ _, by omega⟩
end
