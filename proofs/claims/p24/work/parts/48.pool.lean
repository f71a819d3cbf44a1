/-! THE CHECKER, 32: words by their places. -/
def zk_wb (w : Cond) (p : Nat) : Bool := (match lw_tbl[p]? with | some v => decide (v = w) | none => false) && goodWord w
theorem zk_wb_ok {w : Cond} {p : Nat} (h : zk_wb w p = true) : w ∈ zw := by
  simp only [zk_wb, Bool.and_eq_true] at h
  obtain ⟨h1, h2⟩ := h
  split at h1
  · rename_i v hv
    rw [of_decide_eq_true h1] at hv
    exact zw_in hv h2
  · cases h1
def zk_wsb : List Cond → List Nat → Bool
  | [], _ => true
  | w :: l, p :: ps => zk_wb w p && zk_wsb l ps
  | _ :: _, [] => false
theorem zk_wsb_ok : ∀ {l : List Cond} {ps : List Nat}, zk_wsb l ps = true → ∀ w ∈ l, w ∈ zw
  | [], _, _, w, h => by cases h
  | v :: l, [], h, w, hw => by cases h
  | v :: l, p :: ps, h, w, hw => by
    simp only [zk_wsb, Bool.and_eq_true] at h
    rcases List.mem_cons.mp hw with e | e
    · rw [e]; exact zk_wb_ok h.1
    · exact zk_wsb_ok h.2 w e
/-- two lists side by side -/
def zk_z {α β : Type} (f : α → β → Bool) : List α → List β → Bool
  | [], _ => true
  | a :: l, b :: m => f a b && zk_z f l m
  | _ :: _, [] => false
theorem zk_z_ok {α β : Type} {f : α → β → Bool} : ∀ {l : List α} {m : List β}, zk_z f l m = true → ∀ a ∈ l, ∃ b, f a b = true
  | [], _, _, a, h => by cases h
  | v :: l, [], h, a, ha => by cases h
  | v :: l, p :: ps, h, a, ha => by
    simp only [zk_z, Bool.and_eq_true] at h
    rcases List.mem_cons.mp ha with e | e
    · exact ⟨p, by rw [e]; exact h.1⟩
    · exact zk_z_ok h.2 a e
abbrev zLP : Type := List Nat × List Nat × List Nat × List (Nat × Nat × Nat) × List (Nat × Nat) × Nat
def zk_fb (cl : List vw_C) (own : String) (q : Nat × Nat × Nat) (p : Nat) : Bool := match cl[q.2.1]? with
  | some w => Nat.blt q.2.2 w.2.2 && zk_wb (Cond.fieldLink own q.1 (w.2.1 q.2.2).1 (w.2.1 q.2.2).2.1 (w.2.1 q.2.2).2.2.1) p
  | none => false
def zk_nb (cl : List vw_C) (own : String) (q : Nat × Nat × Nat) (p : Nat × Nat × Nat) : Bool := match cl[q.2.1]? with
  | some w => zk_wb (Cond.classLink own q.1 w.1) p.1 && (zk_wb (Cond.instantiable w.1 q.2.2) p.2.1 && zk_wb (Cond.initialized w.1) p.2.2)
  | none => false
def zk_poolb (cl : List vw_C) (own : String) (L : zL) (P : zLP) (oi : Nat × Nat) : Bool :=
  zk_z (zk_fb cl own) L.1 P.1 && (zk_z (fun q p => zk_wb (Cond.constant own q.1 (Int32.ofInt q.2)) p) L.2.1 P.2.1 && (zk_z (fun q p => zk_wb (Cond.constantLong own q.1 (Int64.ofInt q.2)) p) L.2.2.1 P.2.2.1 && (zk_z (zk_nb cl own) L.2.2.2.1 P.2.2.2.1 && (zk_z (fun q (p : Nat × Nat) => zk_wb (Cond.classLink own q.1 (zk_cn cl q.2)) p.1 && decide (zk_cn cl q.2 ∈ zk_aos)) L.2.2.2.2.1 P.2.2.2.2.1 &&
  (match L.2.2.2.2.2 with | none => true | some x => zk_wb (Cond.methodLink own x Lib.objectInit) P.2.2.2.2.2 && (zk_wb (Cond.instanceMethod Lib.objectInit) oi.1 && zk_wb (Cond.code Lib.objectInit ⟨#[0xb1]⟩ 1 none) oi.2))))))
theorem zk_poolb_ok {cl : List vw_C} {own : String} {L : zL} {P : zLP} {oi : Nat × Nat} (hlay : ∀ (ci : Nat) (q : vw_C), cl[ci]? = some q → ∀ w ∈ u_ws q.1 q.2.1 q.2.2, w ∈ zw) (hac : ∀ k : ArrayType, zk_ak k ≠ 0 → Cond.arrayClass (newarray.typeOf k) ∈ zw) (h : zk_poolb cl own L P oi = true) : zk_pool cl own L := by
  simp only [zk_poolb, Bool.and_eq_true] at h
  obtain ⟨h1, h2, h3, h4, h5, h6⟩ := h
  refine ⟨fun s args hw => ⟨fun ci q hq w h => hw w (hlay ci q hq w h), fun idx f hf => ?_, fun i k hk => ?_, fun i k hk => ?_, fun idx q hq => ?_, fun idx ci hq => ?_, fun k hk => hw _ (hac k hk)⟩, fun x hx => ?_⟩
  · obtain ⟨p, hp⟩ := zk_z_ok h1 _ (zk_al_mem hf)
    unfold zk_fb at hp
    split at hp
    · rename_i w hw'
      simp only [Bool.and_eq_true] at hp
      exact ⟨w, hw', zk_blt hp.1, hw _ (zk_wb_ok hp.2)⟩
    · cases hp
  · obtain ⟨p, hp⟩ := zk_z_ok h2 _ (zk_al_mem hk)
    exact hw _ (zk_wb_ok hp)
  · obtain ⟨p, hp⟩ := zk_z_ok h3 _ (zk_al_mem hk)
    exact hw _ (zk_wb_ok hp)
  · obtain ⟨p, hp⟩ := zk_z_ok h4 _ (zk_al_mem hq)
    unfold zk_nb at hp
    split at hp
    · rename_i w hw'
      simp only [Bool.and_eq_true] at hp
      exact ⟨w, hw', hw _ (zk_wb_ok hp.1), hw _ (zk_wb_ok hp.2.1), hw _ (zk_wb_ok hp.2.2)⟩
    · cases hp
  · obtain ⟨p, hp⟩ := zk_z_ok h5 _ (zk_al_mem hq)
    simp only [Bool.and_eq_true] at hp
    exact ⟨hw _ (zk_wb_ok hp.1), of_decide_eq_true hp.2⟩
  · rw [hx] at h6
    simp only [Bool.and_eq_true] at h6
    exact ⟨zk_wb_ok h6.1, zk_wb_ok h6.2.1, zk_wb_ok h6.2.2⟩
/-- a hint's words: places of code, initialized, link, static or instanceMethod, selects -/
def zk_hwb (cl : List vw_C) (own : String) (R : Room) (h : zX) (P : Nat × Nat × Nat × Nat × Nat) : Bool :=
  zk_wb (Cond.code h.2.2.2.y h.2.2.2.b h.2.2.2.n h.2.2.2.rt) P.1 && (zk_wb (Cond.initialized h.2.2.2.y.cls) P.2.1 && (decide (h.2.2.2.rm.cells = h.2.2.2.cs.2.2.2.2.1 ∧ h.2.2.2.rm.slots = h.2.2.2.cs.2.2.2.2.2 ∧ h.2.2.2.rm.frames + 1 ≤ R.frames ∧ 8 + (h.2.2.2.n + 11) + h.2.2.2.rm.locals ≤ R.locals) &&
  (decide (h.2.2.2.y.cls ≠ "java/lang/invoke/MethodHandle" ∧ h.2.2.2.y.cls ≠ "java/lang/invoke/VarHandle") && (decide ((parseMethodDescriptor h.2.2.2.y.desc).map (fun d => d.parameters.length) = some (if h.2.1 ≤ 1 then h.2.2.2.cs.2.1.1.length else h.2.2.2.cs.2.1.1.length - 1)) &&
  (if h.2.1 = 0 then zk_wb (Cond.methodLink own h.1 h.2.2.2.y) P.2.2.1 && zk_wb (Cond.static h.2.2.2.y) P.2.2.2.1
   else if h.2.1 = 1 then decide ((own, h.1, h.2.2.2.y, "BothLists") ∈ zk_nst) && zk_wb (Cond.static h.2.2.2.y) P.2.2.2.1
   else if h.2.1 = 2 then zk_wb (Cond.methodLink own h.1 h.2.2.2.y) P.2.2.1 && (zk_wb (Cond.instanceMethod h.2.2.2.y) P.2.2.2.1 && (match cl[h.2.2.1]? with | some q => zk_wb (Cond.selects q.1 h.2.2.2.y h.2.2.2.y) P.2.2.2.2 | none => false))
   else zk_wb (Cond.methodLink own h.1 h.2.2.2.y) P.2.2.1 && (zk_wb (Cond.instanceMethod h.2.2.2.y) P.2.2.2.1 && (decide (h.2.2.2.y.name = "<init>" ∧ h.2.2.2.rt = none) && (cl[h.2.2.1]?).isSome)))))))
theorem zk_hwb_ok {cl : List vw_C} {own : String} {R : Room} {h : zX} {P : Nat × Nat × Nat × Nat × Nat} (hb : zk_hwb cl own R h P = true) : zk_hw cl own R h := by
  simp only [zk_hwb, Bool.and_eq_true] at hb
  obtain ⟨h1, h2, h3, h4, h5, h6⟩ := hb
  refine ⟨zk_wb_ok h1, zk_wb_ok h2, of_decide_eq_true h3, of_decide_eq_true h4, of_decide_eq_true h5, ?_⟩
  split
  · rename_i e
    rw [if_pos e] at h6
    simp only [Bool.and_eq_true] at h6
    exact ⟨zk_wb_ok h6.1, zk_wb_ok h6.2⟩
  · rename_i e
    rw [if_neg e] at h6
    split
    · rename_i e1
      rw [if_pos e1] at h6
      simp only [Bool.and_eq_true] at h6
      exact ⟨⟨_, of_decide_eq_true h6.1⟩, zk_wb_ok h6.2⟩
    · rename_i e1
      rw [if_neg e1] at h6
      split
      · rename_i e2
        rw [if_pos e2] at h6
        simp only [Bool.and_eq_true] at h6
        obtain ⟨a1, a2, a3⟩ := h6
        split at a3
        · rename_i q hq
          exact ⟨zk_wb_ok a1, zk_wb_ok a2, q, hq, zk_wb_ok a3⟩
        · cases a3
      · rename_i e2
        rw [if_neg e2] at h6
        simp only [Bool.and_eq_true] at h6
        obtain ⟨a1, a2, a3, a4⟩ := h6
        have a3 := of_decide_eq_true a3
        exact ⟨zk_wb_ok a1, zk_wb_ok a2, a3.1, a3.2, Option.isSome_iff_exists.mp a4⟩
def zk_hwsb (cl : List vw_C) (own : String) (R : Room) : List zX → List (Nat × Nat × Nat × Nat × Nat) → Bool := zk_z (zk_hwb cl own R)
theorem zk_hcs {D : zD} {cl : List vw_C} {l : Launch} {own : String} {R : Room} {HX : List zX} {ps : List (Nat × Nat × Nat × Nat × Nat)} (hc : ∀ x ∈ HX, zk_con D cl l x.2.2.2.y (zk_ws x.2.2.2) x.2.2.2.rm x.2.2.2.cs) (hw : zk_hwsb cl own R HX ps = true) : ∀ x ∈ HX, zk_con D cl l x.2.2.2.y (zk_ws x.2.2.2) x.2.2.2.rm x.2.2.2.cs ∧ zk_hw cl own R x := fun x hx => by
  obtain ⟨p, hp⟩ := zk_z_ok hw x hx
  exact ⟨hc x hx, zk_hwb_ok hp⟩
