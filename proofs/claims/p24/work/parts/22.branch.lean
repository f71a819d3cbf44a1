/-! THE CHECKER, 7: branches. -/
def zk_cd (c : ClassFile.Cond) (a b : Int) : Prop := match c with
  | .eq => a = b | .ne => a ≠ b | .lt => a < b | .ge => b ≤ a | .gt => b < a | .le => a ≤ b
def zk_mc (c : ClassFile.Cond) (a b : Int32) : Prop := match c with
  | .eq => a = b | .ne => ¬ a = b | .lt => a < b | .ge => b ≤ a | .gt => b < a | .le => a ≤ b
def zk_ng (c : ClassFile.Cond) : ClassFile.Cond := match c with
  | .eq => .ne | .ne => .eq | .lt => .ge | .ge => .lt | .gt => .le | .le => .gt
theorem zk_cd_ng {c : ClassFile.Cond} {a b : Int} (h : ¬ zk_cd c a b) : zk_cd (zk_ng c) a b := by
  cases c <;> simp only [zk_cd, zk_ng] at * <;> omega
theorem zk_mc_cd {c : ClassFile.Cond} {a b : Int} (ha : -2147483648 ≤ a ∧ a ≤ 2147483647) (hb : -2147483648 ≤ b ∧ b ≤ 2147483647) : zk_mc c (Int32.ofInt a) (Int32.ofInt b) ↔ zk_cd c a b := by
  have e1 := zk_i32 ha.1 ha.2
  have e2 := zk_i32 hb.1 hb.2
  cases c <;> simp only [zk_mc, zk_cd, ← Int32.toInt_inj, Int32.lt_iff_toInt_lt, Int32.le_iff_toInt_le, e1, e2, ne_eq]
def zk_as (c : ClassFile.Cond) (P : zP) (v w : zV) : Option zP := match c with
  | .eq => zk_eq P v w | .ne => zk_ne P v w | .lt => zk_le P v w (-1) | .ge => zk_le P w v 0 | .gt => zk_le P w v (-1) | .le => zk_le P v w 0
theorem zk_as_ok {r : Nat → Int} {P : zP} (h : zk_P r P) {c : ClassFile.Cond} {v w : zV} (hc : zk_cd c (zk_n r v) (zk_n r w)) : ∃ P', zk_as c P v w = some P' ∧ zk_P r P' := by
  cases c <;> simp only [zk_cd] at hc <;> simp only [zk_as]
  · exact zk_eq_ok h hc
  · exact zk_ne_ok h hc
  · exact zk_le_ok h (by omega)
  · exact zk_le_ok h (by omega)
  · exact zk_le_ok h (by omega)
  · exact zk_le_ok h (by omega)
def zk_cm : List (Nat × zV × zV) → Nat → Option (zV × zV)
  | [], _ => none
  | q :: l, x => if q.1 = x then some q.2 else zk_cm l x
theorem zk_cm_mem : ∀ {l : List (Nat × zV × zV)} {x : Nat} {q : zV × zV}, zk_cm l x = some q → (x, q) ∈ l
  | [], _, _, h => by simp [zk_cm] at h
  | y :: l, x, q, h => by
    unfold zk_cm at h
    split at h
    · rename_i h1
      cases h
      rw [← h1]
      exact List.mem_cons_self
    · exact List.mem_cons_of_mem _ (zk_cm_mem h)
/-- taken: c of v and w; what lcmp compared, too -/
def zk_asm (c : ClassFile.Cond) (P : zP) (v w : zV) : Option zP := match zk_as c P v w with
  | none => none
  | some P1 => if w.2.1 = 0 ∧ w.2.2 = 0 ∧ v.2.2 = 0 then (match zk_cm P.2.2.1 v.2.1 with
      | none => some P1
      | some q => zk_as c P1 q.1 q.2) else some P1
theorem zk_asm_ok {r : Nat → Int} {P : zP} (h : zk_P r P) (h0 : r 0 = 0) {c : ClassFile.Cond} {v w : zV} (hc : zk_cd c (zk_n r v) (zk_n r w)) : ∃ P', zk_asm c P v w = some P' ∧ zk_P r P' := by
  unfold zk_asm
  obtain ⟨P1, e1, h1⟩ := zk_as_ok h hc
  rw [e1]
  dsimp only
  split
  · rename_i hz
    split
    · exact ⟨P1, rfl, h1⟩
    · rename_i q hq
      refine zk_as_ok h1 ?_
      have g := h.2.2.1 _ (zk_cm_mem hq)
      unfold zk_sg at g
      dsimp only at g
      have e2 : zk_n r v = r v.2.1 := by unfold zk_n; omega
      have e3 : zk_n r w = 0 := by unfold zk_n; rw [hz.1, h0]; omega
      rw [e2, e3] at hc
      cases c <;> simp only [zk_cd] at hc ⊢ <;> omega
  · exact ⟨P1, rfl, h1⟩
def zk_sp (P : zP) (S : List zV) (A : zA) : zA := (A.1, S, P, A.2.2.2)
/-- a branch: K at the target where c can hold, K behind where it can fail -/
def zk_br (K : Nat → zA → Bool) (c : ClassFile.Cond) (v w : zV) (S : List zV) (tgt nx : Nat) (A : zA) : Bool :=
  if v.1 = 0 ∧ w.1 = 0 then
    (if zk_inb A.2.2.1 v (-2147483648) 2147483647 && zk_inb A.2.2.1 w (-2147483648) 2147483647 then
      (match zk_asm c A.2.2.1 v w with | none => true | some P => K tgt (zk_sp P S A)) && (match zk_asm (zk_ng c) A.2.2.1 v w with | none => true | some P => K nx (zk_sp P S A))
    else K tgt (zk_sp A.2.2.1 S A) && K nx (zk_sp A.2.2.1 S A))
  else false
section
variable {p : Program} {l : Launch} {e : Env} {R : Room} {s : State} {m : MethodId} {args : Array Value} {below : List Frame} {meth : Method} {c : Code} {Q : State → Prop} {cc : ByteArray} {pc : Nat} {D : zD} {E : zE} {A : zA} {K : Nat → zA → Bool}
theorem zk_I_sp {r : Nat → Int} {ty : Nat → Nat} {H : Heap} {locs : List Loc} {ls : Array Slot} {st : List Value} {P : zP} {S : List zV} (h : zk_I D E A r ty H locs ls st) (hP : zk_P r P) : zk_I D E (zk_sp P S A) r ty H locs ls (S.map (zk_c r)) := by
  obtain ⟨h1, h2, h3, h4⟩ := h
  exact ⟨h1, rfl, hP, h4⟩
theorem zk_row_br (hK : ∀ (n : Nat) (A : zA), K n A = true → zk_W p l e R s m args below meth c Q D E n A) {cd : ClassFile.Cond} {v w : zV} {S : List zV} {tgt nx : Nat} (hb : zk_br K cd v w S tgt nx A = true)
    (row : ∀ {H : Heap} {locs : List Loc} {cells slots : Nat} {ls : Array Slot} {r : Nat → Int} {x y : Int32}, r 0 = 0 → zk_c r v = .int x → zk_c r w = .int y → (zk_mc cd x y → W p l e R s m args below meth c H locs cells slots Q (F0 m tgt ls (S.map (zk_c r)))) → (¬ zk_mc cd x y → W p l e R s m args below meth c H locs cells slots Q (F0 m nx ls (S.map (zk_c r)))) → W p l e R s m args below meth c H locs cells slots Q (F0 m pc ls (A.2.1.map (zk_c r)))) : zk_W p l e R s m args below meth c Q D E pc A := by
  intro r ty H locs ls st h
  have h2 := h.2.1
  subst h2
  unfold zk_br at hb
  split at hb
  rotate_left
  · cases hb
  rename_i ht
  have hP := h.2.2.1
  have h0 := h.2.2.2.2.2.2.1
  have ev : zk_c r v = .int (Int32.ofInt (zk_n r v)) := by unfold zk_c; rw [ht.1]; rfl
  have ew : zk_c r w = .int (Int32.ofInt (zk_n r w)) := by unfold zk_c; rw [ht.2]; rfl
  split at hb
  · rename_i hin
    simp only [Bool.and_eq_true] at hin hb
    have i1 := zk_inb_ok hP hin.1
    have i2 := zk_inb_ok hP hin.2
    refine row h0 ev ew (fun hc => ?_) (fun hc => ?_)
    · obtain ⟨P1, e1, g1⟩ := zk_asm_ok hP h0 ((zk_mc_cd i1 i2).mp hc)
      have hb1 := hb.1
      rw [e1] at hb1
      exact hK _ _ hb1 r ty H locs ls _ (zk_I_sp h g1)
    · obtain ⟨P1, e1, g1⟩ := zk_asm_ok hP h0 (zk_cd_ng (fun q => hc ((zk_mc_cd i1 i2).mpr q)))
      have hb1 := hb.2
      rw [e1] at hb1
      exact hK _ _ hb1 r ty H locs ls _ (zk_I_sp h g1)
  · simp only [Bool.and_eq_true] at hb
    exact row h0 ev ew (fun _ => hK _ _ hb.1 r ty H locs ls _ (zk_I_sp h hP)) (fun _ => hK _ _ hb.2 r ty H locs ls _ (zk_I_sp h hP))
/-- a switch over a row of numbers -/
def zk_swl (K : Nat → zA → Bool) (v : zV) (S : List zV) (pc : Nat) (lo : Int) (A : zA) : List Int → Bool
  | [] => true
  | o :: l => decide (0 ≤ (pc : Int) + o) && (match zk_eq A.2.2.1 v (0, 0, lo) with | none => true | some P => K ((pc : Int) + o).toNat (zk_sp P S A)) && zk_swl K v S pc (lo + 1) A l
def zk_sw (K : Nat → zA → Bool) (v : zV) (S : List zV) (pc : Nat) (d lo hi : Int) (offs : Array Int) (A : zA) : Bool :=
  decide (v.1 = 0) && zk_inb A.2.2.1 v (-2147483648) 2147483647 && decide (0 ≤ (pc : Int) + d) && decide (hi - lo + 1 = offs.size) &&
  (match zk_le A.2.2.1 v (0, 0, lo) (-1) with | none => true | some P => K ((pc : Int) + d).toNat (zk_sp P S A)) && (match zk_le A.2.2.1 (0, 0, hi) v (-1) with | none => true | some P => K ((pc : Int) + d).toNat (zk_sp P S A)) && zk_swl K v S pc lo A offs.toList
theorem zk_swl_ok {v : zV} {S : List zV} : ∀ {l : List Int} {lo : Int}, zk_swl K v S pc lo A l = true → ∀ (j : Nat) (o : Int), l[j]? = some o → 0 ≤ (pc : Int) + o ∧ ∀ r : Nat → Int, zk_P r A.2.2.1 → r 0 = 0 → zk_n r v = lo + j → ∃ P, zk_P r P ∧ K ((pc : Int) + o).toNat (zk_sp P S A) = true
  | [], _, _, j, o, ho => by simp at ho
  | x :: l, lo, h, 0, o, ho => by
    simp only [zk_swl, Bool.and_eq_true, decide_eq_true_eq] at h
    simp only [List.getElem?_cons_zero, Option.some.injEq] at ho
    subst ho
    refine ⟨h.1.1, fun r hP h0 hv => ?_⟩
    obtain ⟨P1, e1, g1⟩ := zk_eq_ok hP (v := v) (w := (0, 0, lo)) (by rw [hv]; unfold zk_n; dsimp only; rw [h0]; omega)
    have h2 := h.1.2
    rw [e1] at h2
    exact ⟨P1, g1, h2⟩
  | x :: l, lo, h, j + 1, o, ho => by
    simp only [zk_swl, Bool.and_eq_true] at h
    simp only [List.getElem?_cons_succ] at ho
    obtain ⟨g1, g2⟩ := zk_swl_ok h.2 j o ho
    exact ⟨g1, fun r hP h0 hv => g2 r hP h0 (by rw [hv]; omega)⟩
theorem zk_row_sw (hx : p.tables.exec = Jvm.exec) (hb : c.code = cc) (hK : ∀ (n : Nat) (A : zA), K n A = true → zk_W p l e R s m args below meth c Q D E n A) {v : zV} {S : List zV} {d lo hi : Int} {offs : Array Int} {len : Nat} (hS : A.2.1 = v :: S) (hd : decode cc pc = .ok (.tableswitch d lo hi offs, len)) (hs : zk_sw K v S pc d lo hi offs A = true) : zk_W p l e R s m args below meth c Q D E pc A := by
  intro r ty H locs ls st h
  have h2 := h.2.1
  subst h2
  simp only [zk_sw, Bool.and_eq_true, decide_eq_true_eq] at hs
  obtain ⟨⟨⟨⟨⟨⟨ht, hin⟩, hd0⟩, hsz⟩, k1⟩, k2⟩, k3⟩ := hs
  have hP := h.2.2.1
  have h0 := h.2.2.2.2.2.2.1
  have i1 := zk_inb_ok hP hin
  have ev : zk_c r v = .int (Int32.ofInt (zk_n r v)) := by unfold zk_c; rw [ht]; rfl
  have ei := zk_i32 i1.1 i1.2
  rw [hS, List.map_cons, ev]
  by_cases c1 : zk_n r v < lo
  · refine lv_tableOut hx hb hd (by rw [ei]; exact Or.inl c1) (Int.toNat_of_nonneg hd0).symm ?_
    obtain ⟨P1, e1, g1⟩ := zk_le_ok hP (v := v) (w := (0, 0, lo)) (c := -1) (by unfold zk_n at c1 ⊢; dsimp only; rw [h0]; omega)
    rw [e1] at k1
    exact hK _ _ k1 r ty H locs ls _ (zk_I_sp h g1)
  · by_cases c2 : hi < zk_n r v
    · refine lv_tableOut hx hb hd (by rw [ei]; exact Or.inr c2) (Int.toNat_of_nonneg hd0).symm ?_
      obtain ⟨P1, e1, g1⟩ := zk_le_ok hP (v := (0, 0, hi)) (w := v) (c := -1) (by unfold zk_n at c2 ⊢; dsimp only; rw [h0]; omega)
      rw [e1] at k2
      exact hK _ _ k2 r ty H locs ls _ (zk_I_sp h g1)
    · have hlt : (zk_n r v - lo).toNat < offs.toList.length := by rw [Array.length_toList]; omega
      obtain ⟨o, ho⟩ : ∃ o, offs.toList[(zk_n r v - lo).toNat]? = some o := ⟨_, List.getElem?_eq_getElem hlt⟩
      obtain ⟨g1, g2⟩ := zk_swl_ok k3 _ o ho
      obtain ⟨P1, g3, g4⟩ := g2 r hP h0 (by omega)
      refine lv_tableIn hx hb hd (by rw [ei]; exact c1) (by rw [ei]; exact c2) (off := o) (by rw [ei, ← Array.getElem?_toList]; exact ho) (Int.toNat_of_nonneg g1).symm ?_
      exact hK _ _ g4 r ty H locs ls _ (zk_I_sp h g3)
end
