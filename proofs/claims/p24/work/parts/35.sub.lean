/-! THE CHECKER, 19: one state of the checker's within another, by a substitution of symbols. -/
abbrev zU : Type := List (Nat × Nat × Int)
def zk_sx : zU → Nat → Nat × Int
  | [], x => (x, 0)
  | q :: l, x => if q.1 = x then q.2 else zk_sx l x
def zk_cp (r : Nat → Int) (u : zU) : Nat → Int := fun x => r (zk_sx u x).1 + (zk_sx u x).2
def zk_va (u : zU) (v : zV) : zV := (v.1, (zk_sx u v.2.1).1, v.2.2 + (zk_sx u v.2.1).2)
theorem zk_n_va {r : Nat → Int} {u : zU} (v : zV) : zk_n r (zk_va u v) = zk_n (zk_cp r u) v := by unfold zk_n zk_va zk_cp; dsimp only; omega
theorem zk_c_va {r : Nat → Int} {u : zU} (v : zV) : zk_c r (zk_va u v) = zk_c (zk_cp r u) v := by unfold zk_c; rw [zk_n_va]; rfl
def zk_inP (u : zU) (P P' : zP) : Bool := P'.1.all (fun q => zk_inb P (zk_va u (0, q.1, 0)) q.2.1 q.2.2) && P'.2.1.all (fun q => zk_leb P (zk_va u (0, q.1, 0)) (zk_va u (0, q.2.1, 0)) q.2.2) && P'.2.2.1.isEmpty && P'.2.2.2.all (fun q => zk_nz P (zk_va u (0, q.1, -q.2)))
theorem zk_inP_ok {r : Nat → Int} {u : zU} {P P' : zP} (h : zk_P r P) (hi : zk_inP u P P' = true) : zk_P (zk_cp r u) P' := by
  simp only [zk_inP, Bool.and_eq_true, List.all_eq_true, List.isEmpty_iff] at hi
  obtain ⟨⟨⟨h1, h2⟩, h3⟩, h4⟩ := hi
  have e : ∀ x : Nat, zk_n r (zk_va u (0, x, 0)) = zk_cp r u x := fun x => by rw [zk_n_va]; unfold zk_n; dsimp only; omega
  refine ⟨fun q hq => ?_, fun q hq => ?_, fun q hq => ?_, fun q hq => ?_⟩
  · have := zk_inb_ok h (h1 q hq)
    rw [e] at this
    exact this
  · have := zk_leb_ok h (h2 q hq)
    rw [e, e] at this
    exact this
  · rw [h3] at hq; cases hq
  · have := zk_nz_ok h (h4 q hq)
    rw [zk_n_va] at this
    unfold zk_n at this
    dsimp only at this
    omega
def zk_nodup : List Nat → Bool
  | [] => true
  | x :: l => !(l.contains x) && zk_nodup l
/-- the same numbers, whatever their kinds -/
def zk_ope : List zV → List zV → Bool
  | [], [] => true
  | v :: l, w :: m => Nat.beq v.2.1 w.2.1 && (decide (v.2.2 = w.2.2) && zk_ope l m)
  | _, _ => false
theorem zk_ope_ok {r : Nat → Int} : ∀ {l m : List zV}, zk_ope l m = true → l.map (zk_n r) = m.map (zk_n r)
  | [], [], _ => rfl
  | [], _ :: _, h => by cases h
  | _ :: _, [], h => by cases h
  | v :: l, w :: m, h => by
    simp only [zk_ope, Bool.and_eq_true, decide_eq_true_eq] at h
    have e1 := Nat.eq_of_beq_eq_true h.1
    rw [List.map_cons, List.map_cons, zk_ope_ok h.2.2]
    unfold zk_n
    rw [e1, h.2.1]
def zk_inG (u : zU) (G G' : zG) : Bool :=
  G'.1.all (fun q => decide ((zk_sx u q.1).2 = 0) && (zk_rtl G.1 (zk_sx u q.1).1 == some q.2)) &&
  G'.2.1.all (fun q => decide ((zk_sx u q.1).2 = 0) && (zk_fml G.2.1 (zk_sx u q.1).1 q.2.1 q.2.2.1 == some (zk_va u q.2.2.2))) &&
  G'.2.2.1.all (fun q => decide ((zk_sx u q.1).2 = 0) && (zk_eml G.2.2.1 (zk_sx u q.1).1 q.2.1 (zk_va u q.2.2.1) == some (zk_va u q.2.2.2))) &&
  G'.2.2.2.1.all (fun q => decide ((zk_sx u q.1).2 = 0) && (zk_rwl G.2.2.2.1 (zk_sx u q.1).1 == some (q.2.1, q.2.2.map (zk_va u)))) &&
  zk_nodup (G'.2.2.2.1.map (fun q => (zk_sx u q.1).1)) &&
  G'.2.2.2.2.1.all (fun q => decide ((zk_sx u q.1).2 = 0) && (zk_find G.2.2.2.2.1 (zk_sx u q.1).1 == some (zk_va u q.2))) &&
  G'.2.2.2.2.2.all (fun q => G.2.2.2.2.2.any (fun o => Nat.beq o.1 q.1 && zk_ope o.2 (q.2.map (zk_va u))))
theorem zk_cp0 {r : Nat → Int} {u : zU} {x : Nat} (h : (zk_sx u x).2 = 0) : zk_cp r u x = r (zk_sx u x).1 := by unfold zk_cp; omega
theorem zk_nodup_ok {l : List Nat} (h : zk_nodup l = true) : l.Pairwise (fun x y => x ≠ y) := by
  induction l with
  | nil => exact List.Pairwise.nil
  | cons x l ih =>
    simp only [zk_nodup, Bool.and_eq_true, Bool.not_eq_true'] at h
    refine List.pairwise_cons.mpr ⟨fun y hy e => ?_, ih h.2⟩
    subst e
    rw [List.contains_iff_mem.mpr hy] at h
    cases h.1
theorem zk_pw {α : Type} {R : α → α → Prop} (hs : ∀ a b, R a b → R b a) {l : List α} (h : l.Pairwise R) {x y : α} (hx : x ∈ l) (hy : y ∈ l) (hn : x ≠ y) : R x y := by
  obtain ⟨i, hi, ei⟩ := List.getElem_of_mem hx
  obtain ⟨j, hj, ej⟩ := List.getElem_of_mem hy
  have hp := List.pairwise_iff_getElem.mp h
  rcases Nat.lt_trichotomy i j with q | q | q
  · have := hp i j hi hj q
    rw [ei, ej] at this; exact this
  · subst q
    exact absurd (ei.symm.trans ej) hn
  · have := hp j i hj hi q
    rw [ei, ej] at this; exact hs _ _ this
theorem zk_inG_ok {D : zD} {r : Nat → Int} {ty : Nat → Nat} {H : Heap} {u : zU} {G G' : zG} (h : zk_H D r ty H G) (hi : zk_inG u G G' = true) : zk_H D (zk_cp r u) ty H G' := by
  simp only [zk_inG, Bool.and_eq_true, List.all_eq_true, decide_eq_true_eq, beq_iff_eq, List.any_eq_true] at hi
  obtain ⟨⟨⟨⟨⟨⟨h1, h2⟩, h3⟩, h4⟩, h5⟩, h6⟩, h7⟩ := hi
  obtain ⟨g1, g2, g3, g4, g5, g6, g7⟩ := h
  refine ⟨fun q hq => ?_, fun q hq => ?_, fun q hq => ?_, fun q hq => ?_, ?_, fun q hq => ?_, fun q hq => ?_⟩
  · have := g1 _ (zk_rtl_mem (h1 q hq).2)
    unfold zk_rt at this ⊢
    rw [zk_cp0 (h1 q hq).1]; exact this
  · have := g2 _ (zk_fml_mem (h2 q hq).2)
    unfold zk_fm at this ⊢
    rw [zk_cp0 (h2 q hq).1, ← zk_c_va]; exact this
  · obtain ⟨j, hj, j1, j2⟩ := zk_eml_mem (h3 q hq).2
    have := g3 _ hj
    unfold zk_em at this ⊢
    have ej : zk_n r j = zk_n r (zk_va u q.2.2.1) := by unfold zk_n; rw [j1, j2]
    dsimp only at this
    rw [ej, zk_n_va, zk_c_va] at this
    rw [zk_cp0 (h3 q hq).1]; exact this
  · have g := g4 _ (zk_rwl_mem (h4 q hq).2)
    unfold zk_rw at g ⊢
    rw [zk_cp0 (h4 q hq).1]
    obtain ⟨k1, k2, k3, cell, k4, k5, k6⟩ := g
    refine ⟨k1, k2, k3, cell, k4, k5, ?_⟩
    dsimp only at k6
    split at k6
    · rename_i hc
      rw [if_pos hc]
      refine ⟨k6.1, fun k v hk => ?_⟩
      rw [← zk_c_va]
      exact k6.2 k _ (by rw [List.getElem?_map, hk]; rfl)
    · rename_i hc
      rw [if_neg hc]
      refine ⟨k6.1, by rw [k6.2.1, List.length_map], fun k v hk => ?_⟩
      rw [← zk_c_va]
      exact k6.2.2 k _ (by rw [List.getElem?_map, hk]; rfl)
  · have hnd := List.pairwise_map.mp (zk_nodup_ok h5)
    refine List.Pairwise.imp_of_mem ?_ hnd
    intro a b ha hb hab
    rw [zk_cp0 (h4 a ha).1, zk_cp0 (h4 b hb).1]
    exact zk_pw (R := fun x y : Nat × Nat × List zV => r x.1 ≠ r y.1) (fun _ _ z => z.symm) g5 (zk_rwl_mem (h4 a ha).2) (zk_rwl_mem (h4 b hb).2) (fun e => hab (by have := congrArg Prod.fst e; exact this))
  · have := g6 _ (zk_find_mem (h6 q hq).2)
    rw [zk_cp0 (h6 q hq).1, ← zk_n_va]; exact this
  · obtain ⟨o, ho, e0, e1⟩ := h7 q hq
    have := g7 _ ho
    rw [Nat.eq_of_beq_eq_true e0, zk_ope_ok e1] at this
    have e : (q.2.map (zk_va u)).map (zk_n r) = q.2.map (zk_n (zk_cp r u)) := by
      rw [List.map_map]
      apply List.map_congr_left
      intro v _
      exact zk_n_va v
    rw [e] at this
    exact this
/-- linear forms -/
def zk_li : Nat → Int → List (Nat × Int) → List (Nat × Int)
  | x, c, [] => [(x, c)]
  | x, c, q :: l => if q.1 = x then (if q.2 + c = 0 then l else (x, q.2 + c) :: l) else q :: zk_li x c l
def zk_lf (r : Nat → Int) (l : List (Nat × Int)) : Int := l.foldr (fun q z => q.2 * r q.1 + z) 0
theorem zk_li_ok {r : Nat → Int} {x : Nat} {c : Int} : ∀ {l : List (Nat × Int)}, zk_lf r (zk_li x c l) = c * r x + zk_lf r l
  | [] => by simp [zk_li, zk_lf]
  | q :: l => by
    unfold zk_li
    split
    · rename_i e
      have ed : (q.2 + c) * r x = q.2 * r x + c * r x := Int.add_mul ..
      split
      · rename_i e2
        show zk_lf r l = c * r x + (q.2 * r q.1 + zk_lf r l)
        rw [e]
        rw [e2, Int.zero_mul] at ed
        omega
      · show (q.2 + c) * r x + zk_lf r l = c * r x + (q.2 * r q.1 + zk_lf r l)
        rw [e]
        omega
    · show q.2 * r q.1 + zk_lf r (zk_li x c l) = c * r x + (q.2 * r q.1 + zk_lf r l)
      rw [zk_li_ok]
      omega
theorem zk_lin_lf {r : Nat → Int} {m : List (Nat × Int) × Int} : zk_lin r m = zk_lf r m.1 + m.2 := by
  obtain ⟨l, c⟩ := m
  unfold zk_lin zk_lf
  dsimp only
  induction l with
  | nil => simp
  | cons q l ih => rw [List.foldr_cons, List.foldr_cons, ih]; omega
/-- a lower bound of a linear form -/
def zk_lb (P : zP) : List (Nat × Int) → Option Int
  | [] => some 0
  | q :: l => match zk_iv P.1 q.1, zk_lb P l with
    | some i, some b => some ((if 0 ≤ q.2 then q.2 * i.1 else q.2 * i.2) + b)
    | _, _ => none
theorem zk_lb_ok {r : Nat → Int} {P : zP} (h : zk_P r P) : ∀ {l : List (Nat × Int)} {b : Int}, zk_lb P l = some b → b ≤ zk_lf r l
  | [], b, hb => by cases hb; simp [zk_lf]
  | q :: l, b, hb => by
    unfold zk_lb at hb
    split at hb
    · rename_i i b1 hi hb1
      cases hb
      have h1 := h.1 _ (zk_iv_mem hi)
      have h2 := zk_lb_ok h hb1
      show _ ≤ q.2 * r q.1 + zk_lf r l
      dsimp only at h1
      split
      · rename_i hc
        have : q.2 * i.1 ≤ q.2 * r q.1 := Int.mul_le_mul_of_nonneg_left h1.1 hc
        omega
      · rename_i hc
        have : q.2 * i.2 ≤ q.2 * r q.1 := Int.mul_le_mul_of_nonpos_left (by omega) h1.2
        omega
    · cases hb
/-- known: 1 ≤ m - m' , m' under u -/
def zk_mm (u : zU) (m m' : List (Nat × Int) × Int) : List (Nat × Int) × Int :=
  (m'.1.foldr (fun q l => zk_li (zk_sx u q.1).1 (-q.2) l) m.1, m'.1.foldr (fun q z => z - q.2 * (zk_sx u q.1).2) (m.2 - m'.2))
theorem zk_mm_ok {r : Nat → Int} {u : zU} {m m' : List (Nat × Int) × Int} : zk_lf r (zk_mm u m m').1 + (zk_mm u m m').2 = zk_lin r m - zk_lin (zk_cp r u) m' := by
  obtain ⟨l, c⟩ := m'
  rw [zk_lin_lf, zk_lin_lf]
  unfold zk_mm
  dsimp only
  induction l with
  | nil => simp [zk_lf]; omega
  | cons q l ih =>
    rw [List.foldr_cons, List.foldr_cons, zk_li_ok]
    have e : zk_lf (zk_cp r u) (q :: l) = q.2 * zk_cp r u q.1 + zk_lf (zk_cp r u) l := rfl
    rw [e]
    unfold zk_cp at ih ⊢
    have e2 : q.2 * (r (zk_sx u q.1).1 + (zk_sx u q.1).2) = q.2 * r (zk_sx u q.1).1 + q.2 * (zk_sx u q.1).2 := Int.mul_add ..
    rw [e2]
    have e3 : -q.2 * r (zk_sx u q.1).1 = -(q.2 * r (zk_sx u q.1).1) := Int.neg_mul ..
    rw [e3]
    omega
def zk_pos (P : zP) (m : List (Nat × Int) × Int) : Bool := (match zk_lb P m.1 with | some b => decide (1 ≤ b + m.2) | none => false) || (match m.1 with
  | [(x, c), (y, d)] => if d = -c ∧ 0 < c then P.2.1.any (fun q => q.1 = y && q.2.1 = x && decide (1 ≤ c * (-q.2.2) + m.2)) else if c = -d ∧ 0 < d then P.2.1.any (fun q => q.1 = x && q.2.1 = y && decide (1 ≤ d * (-q.2.2) + m.2)) else false
  | _ => false)
theorem zk_pos_ok {r : Nat → Int} {P : zP} (h : zk_P r P) {m : List (Nat × Int) × Int} (hb : zk_pos P m = true) : 1 ≤ zk_lf r m.1 + m.2 := by
  simp only [zk_pos, Bool.or_eq_true] at hb
  rcases hb with hb | hb
  · split at hb
    · rename_i b e
      have := zk_lb_ok h e
      simp only [decide_eq_true_eq] at hb
      omega
    · cases hb
  · split at hb
    · rename_i x c y d e
      rw [e]
      have e1 : zk_lf r [(x, c), (y, d)] = c * r x + (d * r y + 0) := rfl
      rw [e1]
      split at hb
      · rename_i hc
        simp only [List.any_eq_true, Bool.and_eq_true, decide_eq_true_eq] at hb
        obtain ⟨q, hq, ⟨q1, q2⟩, q3⟩ := hb
        have := h.2.1 q hq
        rw [q1, q2] at this
        have e2 : c * (-q.2.2) ≤ c * (r x - r y) := Int.mul_le_mul_of_nonneg_left (by omega) (by omega)
        have e3 : c * (r x - r y) = c * r x - c * r y := Int.mul_sub ..
        rw [hc.1, Int.neg_mul]
        omega
      · split at hb
        · rename_i hc
          simp only [List.any_eq_true, Bool.and_eq_true, decide_eq_true_eq] at hb
          obtain ⟨q, hq, ⟨q1, q2⟩, q3⟩ := hb
          have := h.2.1 q hq
          rw [q1, q2] at this
          have e2 : d * (-q.2.2) ≤ d * (r y - r x) := Int.mul_le_mul_of_nonneg_left (by omega) (by omega)
          have e3 : d * (r y - r x) = d * r y - d * r x := Int.mul_sub ..
          rw [hc.1, Int.neg_mul]
          omega
        · cases hb
    · cases hb
