section
variable {p : Program} {l : Launch} {e : Env} {R : Room} {s : State} {m : MethodId} {args : Array Value} {below : List Frame} {meth : Method} {c : Code} {Q : State → Prop} {cc : ByteArray} {pc : Nat} {D : zD} {E : zE} {A : zA} {K : Nat → zA → Bool} {cl : List vw_C} {ft : Nat → Nat → FieldType} {own : String} {FX : Nat → Option (Nat × Nat)} {PF : Nat → List (Nat × Nat)} {PB : Nat → List Nat}
/-- the machine writes field f of a cell of its class -/
theorem zk_putf (hx : p.tables.exec = Jvm.exec) (hb : c.code = cc) (hown : s.vm.findClass own = some m.cls) (hV : zk_env D cl ft s args) (hFX : zk_FX cl FX own s args) {idx oc : Nat} {ini : Bool} (hoc : ini = true → own = zk_cn cl oc) (hini : ini = true → meth.name = "<init>") {f : Nat × Nat} (hf : FX idx = some f) (hfin : (!zk_fin cl f || (ini && decide (f.1 = oc))) = true) {H : Heap} {locs : List Loc} {cells slots a : Nat} {ls : Array Slot} {rest : List Value} {x : Value} {cell : Cell} (hc : H[a]? = some cell) (hcl : cell.cls = D.dC f.1) (hvm : cell.vm = .none) {y : Value} (hs : cell.slots[D.dI f.1 f.2]? = some y) (hn : narrow (ft f.1 f.2) x = x ∧ fits (ft f.1 f.2) x = true) (hd : decode cc pc = .ok (.putfield idx, 3))
    (k : ∀ H' : Heap, H'[a]? = some (cell.setSlot (D.dI f.1 f.2) x) → H'.size = H.size → (∀ q, q ≠ a → H'[q]? = H[q]?) → W p l e R s m args below meth c H' (locs ++ [⟨a, D.dI f.1 f.2⟩]) cells slots Q (F0 m (pc + 3) ls rest)) : W p l e R s m args below meth c H locs cells slots Q (F0 m pc ls (x :: .ref a :: rest)) := by
  obtain ⟨q, h1, h2, h3⟩ := hFX idx f hf
  obtain ⟨⟨hS, hfc, kC, hkC, hkind⟩, hl, hty, hnm, hdc⟩ := hV.1 f.1 q h1
  obtain ⟨cf, kf, fi, fd, hi, hsl⟩ := hS f.2 h2
  have hlay := hl _ (u_in_lay h2)
  have hst := (u_facts hfc hkC (u_lays (fun w hw => hl w hw) (fun w hw => hw) h2) hi).1
  have hlt : fd.slot < cell.slots.size := by rw [hsl]; exact (Array.getElem?_eq_some_iff.mp hs).1
  have hfe : zk_fin cl f = (q.2.1 f.2).2.2.2 := by unfold zk_fin; rw [h1]
  unfold u_lay at hlay
  rw [hfe] at hfin
  split at hlay
  · rename_i hF
    rw [hF] at hfin
    simp only [Bool.not_true, Bool.false_or, Bool.and_eq_true, decide_eq_true_eq] at hfin
    have hcf : m.cls = cf := by
      obtain ⟨_, _, c', _, _, _, -, -, hf', -, -, -, hown2, -⟩ := Cond.laysFinal_spec hlay
      have e1 : c' = cf := by have := hi.symm.trans hf'; simp at this; exact this.1.symm
      have e2 : (q.2.1 f.2).1 = own := by
        rw [hdc f.2 h2, hoc hfin.1, ← hfin.2]
        unfold zk_cn
        rw [h1]
      rw [e2] at hown2
      rw [← e1]; exact Option.some.inj (hown.symm.trans hown2)
    have h6 := u_fits hfc hkC hkind (Or.inr hlay) hi (hty f.2 h2) hn.1 hn.2
    refine W.putFinK hx hb hown h3 hi hst hcf (hini hfin.1) (by rw [hcl]; exact h6) hc hvm hlt rfl rfl hd fun H' e1 e2 e3 => ?_
    rw [hsl] at e1 ⊢
    exact k H' e1 e2 e3
  · have h6 := u_store hfc hkC hkind hlay hi (hty f.2 h2) hn.1 hn.2
    refine W.putK hx hb (f := fd) ⟨hown, h3, ⟨_, _, _, hi⟩, hst⟩ (by rw [hcl]; exact h6) hc hvm hlt rfl rfl hd fun H' e1 e2 e3 => ?_
    rw [hsl] at e1 ⊢
    exact k H' e1 e2 e3
theorem zk_rws_mem {x : Nat} {vs : List zV} : ∀ {l : List (Nat × Nat × List zV)} {q : Nat × Nat × List zV}, q ∈ zk_rws l x vs → (q.1 ≠ x ∧ q ∈ l) ∨ (∃ o, zk_rwl l x = some o ∧ q = (x, o.1, vs)) ∨ q ∈ l.tail
  | [], _, h => by cases h
  | y :: l, q, h => by
    unfold zk_rws at h
    split at h
    · rename_i e
      rcases List.mem_cons.mp h with rfl | h
      · refine Or.inr (Or.inl ⟨y.2, by unfold zk_rwl; rw [if_pos e], by rw [e]⟩)
      · exact Or.inr (Or.inr h)
    · rename_i e
      rcases List.mem_cons.mp h with rfl | h
      · exact Or.inl ⟨e, List.mem_cons_self⟩
      · rcases zk_rws_mem h with ⟨h1, h2⟩ | ⟨o, h1, h2⟩ | h1
        · exact Or.inl ⟨h1, List.mem_cons_of_mem _ h2⟩
        · exact Or.inr (Or.inl ⟨o, by unfold zk_rwl; rw [if_neg e]; exact h1, h2⟩)
        · exact Or.inr (Or.inr (List.mem_of_mem_tail h1))
/-- the cells being made, one of them written: all others are others -/
theorem zk_rws_ok {r : Nat → Int} {x : Nat} {vs : List zV} {Pr Pr' : Nat × Nat × List zV → Prop} : ∀ {l : List (Nat × Nat × List zV)}, l.Pairwise (fun x y => r x.1 ≠ r y.1) → (∀ q ∈ l, Pr q) → (∀ q, Pr q → r q.1 ≠ r x → Pr' q) → (∀ o, zk_rwl l x = some o → Pr' (x, o.1, vs)) → zk_rwl l x ≠ none → (∀ q ∈ zk_rws l x vs, Pr' q) ∧ (zk_rws l x vs).Pairwise (fun x y => r x.1 ≠ r y.1)
  | [], _, _, _, _, hn => by simp [zk_rwl] at hn
  | y :: l, hp, h, hk, hx, hn => by
    unfold zk_rws
    unfold zk_rwl at hx hn
    obtain ⟨p1, p2⟩ := List.pairwise_cons.mp hp
    split
    · rename_i e1
      rw [if_pos e1] at hx
      refine ⟨fun q hq => ?_, List.pairwise_cons.mpr ⟨fun b hb => p1 b hb, p2⟩⟩
      rcases List.mem_cons.mp hq with rfl | hq
      · have := hx _ rfl
        rw [e1]; exact this
      · refine hk q (h q (List.mem_cons_of_mem _ hq)) ?_
        rw [← e1]
        exact (p1 q hq).symm
    · rename_i e1
      rw [if_neg e1] at hx hn
      obtain ⟨g1, g2⟩ := zk_rws_ok p2 (fun q hq => h q (List.mem_cons_of_mem _ hq)) hk hx hn
      obtain ⟨o, ho⟩ := Option.ne_none_iff_exists'.mp hn
      have hxm := zk_rwl_mem ho
      refine ⟨fun q hq => ?_, List.pairwise_cons.mpr ⟨fun b hb => ?_, g2⟩⟩
      · rcases List.mem_cons.mp hq with rfl | hq
        · exact hk _ (h _ List.mem_cons_self) (p1 _ hxm)
        · exact g1 q hq
      · rcases zk_rws_mem hb with ⟨-, h2⟩ | ⟨o', -, h2⟩ | h1
        · exact p1 b h2
        · rw [h2]; show r y.1 ≠ r x; exact p1 (x, o) hxm
        · exact p1 b (List.mem_of_mem_tail h1)
theorem zk_put_ok {oc : Nat} {ini : Bool} (hx : p.tables.exec = Jvm.exec) (hb : c.code = cc) (hown : s.vm.findClass own = some m.cls) (hV : zk_env D cl ft s args) (hFX : zk_FX cl FX own s args) (hoc : ini = true → own = zk_cn cl oc) (hini : ini = true → meth.name = "<init>") {SU : zSU} (hO : zk_stb D PF PB SU) {F : List (Nat × Nat)} (hF : F = E.2.2.1.1) (hK : ∀ (n : Nat) (A : zA), K n A = true → zk_W p l e R s m args below meth c Q D E n A) {idx : Nat} (hd : decode cc pc = .ok (.putfield idx, 3)) (h : zk_put cl ft D.TT FX PF SU F oc ini K pc idx A = true) : zk_W p l e R s m args below meth c Q D E pc A := by
  unfold zk_put at h
  split at h
  rotate_left
  · cases h
  rename_i w v S f hS hf
  simp only [Bool.and_eq_true, decide_eq_true_eq] at h
  obtain ⟨hv, hnf, h⟩ := h
  intro r ty H locs ls st I
  have h2 := I.2.1
  subst h2
  rw [hS, List.map_cons, List.map_cons, zk_ref hv]
  have hnr := zk_nf_ok (r := r) I.2.2.1 hnf
  obtain ⟨g1, g2, g3, g4, g5, g6, g7⟩ := I.2.2.2.1
  obtain ⟨qc, hqc, hkc, -⟩ := hFX idx f hf
  split at h
  · rename_i q hq
    simp only [Bool.and_eq_true, decide_eq_true_eq] at h
    obtain ⟨⟨hc1, hc2, hc3, hc4⟩, hfin, h⟩ := h
    obtain ⟨r1, r2, r3, cell, c1, c2, c3⟩ := g4 _ (zk_rwl_mem hq)
    rw [if_pos hc2] at c3
    dsimp only at c3 r1 r2 r3 c1
    obtain ⟨u, hu⟩ : ∃ u, q.2[f.2]? = some u := ⟨_, List.getElem?_eq_getElem hc3⟩
    have c4 := c3.2 _ _ hu
    rw [hc1] at c4 c3
    refine zk_putf hx hb hown hV hFX hoc hini hf hfin c1 c3.1 c2 c4 hnr hd (fun H' e1 e2 e3 => ?_)
    refine hK _ _ h r ty H' _ ls _ ?_
    obtain ⟨a1, a2, a3, a4, a5, a6, a7, a8, a9, a10, a11⟩ := I
    have hne : ∀ b : Nat, ty b ≠ 0 → b ≠ (r v.2.1).toNat := fun b hb e => hb (by rw [e]; exact r3)
    have hT : zk_T D ty H' := by
      refine ⟨by rw [e2]; exact a5.1, fun b t hb => ?_⟩
      have gg := a5.2 b t hb
      unfold zk_C at gg ⊢
      rw [e3 b (hne b (by omega))]
      exact gg
    have hst : ∀ j, zk_st D (PF j) (PB j) ty H ty H' := fun j => by
      refine ⟨fun _ _ q => q, fun b t hb _ _ => e3 b (hne b (by omega)), fun b t hb _ k _ _ c0 c1 q0 q1 => ?_⟩
      rw [e3 b (hne b (by omega))] at q1
      cases q0.symm.trans q1
      rfl
    have hraw := zk_rws_ok (r := r) (x := v.2.1) (vs := q.2.set f.2 w) (Pr := zk_rw D r ty H) (Pr' := zk_rw D r ty H') g5 g4 (fun q' hq' hn' => by
      obtain ⟨d1, d2, d3, cw, d4, d5⟩ := hq'
      refine ⟨d1, d2, d3, cw, ?_, d5⟩
      rw [e3 _ (by omega)]
      exact d4) (fun o ho => by
      cases hq.symm.trans ho
      refine ⟨r1, r2, r3, _, e1, c2, ?_⟩
      rw [if_pos hc2]
      dsimp only
      rw [hc1]
      refine ⟨c3.1, fun k u' hk => ?_⟩
      by_cases ek : k = f.2
      · subst ek
        rw [List.getElem?_set_self hc3] at hk
        cases hk
        unfold Cell.setSlot
        rw [Array.getElem?_setIfInBounds, if_pos rfl, if_pos (Array.getElem?_eq_some_iff.mp c4).1]
      · rw [List.getElem?_set_ne (fun e => ek e.symm)] at hk
        have hkl : k < qc.2.2 := by
          have e5 := (List.getElem?_eq_some_iff.mp hk).1
          unfold zk_nfl at hc4
          rw [hqc] at hc4
          dsimp only at hc4
          omega
        rw [slot_ne _ _ (fun z => zk_apart hV hqc hkc hkl (fun e => ek e.symm) z)]
        exact c3.2 k u' hk) (by rw [hq]; simp)
    refine ⟨a1, rfl, a3, ⟨g1, fun g hg => ?_, fun g hg => ?_, hraw.1, hraw.2, g6, fun g hg => hO.1 _ _ _ _ _ _ (hst _) a5 hT (g7 g hg)⟩, hT, ?_, a7, a8, a9, fun g hg => ?_, ?_⟩
    · obtain ⟨⟨t, t1, t2⟩, cw, w1, w2⟩ := g2 g hg
      exact ⟨⟨t, t1, t2⟩, cw, by rw [e3 _ (hne _ (by omega))]; exact w1, w2⟩
    · obtain ⟨u1, u2, u3, cw, w1, w2⟩ := g3 g hg
      exact ⟨u1, u2, u3, cw, by rw [e3 _ (hne _ (by omega))]; exact w1, w2⟩
    · obtain ⟨f1, f2, f3, f4, f5, f6⟩ := a6
      refine ⟨by rw [e2]; exact f1, f2, f3, fun b hb hz hu => ?_, fun b t hb h0 hB => ?_, fun b t hb h0 k hk1 hk2 c0 c1 q0 q1 => ?_⟩
      · by_cases e9 : b = (r v.2.1).toNat
        · exfalso
          rcases a11 _ (zk_rwl_mem hq) with z | z
          · exact hu (by rw [e9]; exact z)
          · dsimp only at z
            omega
        · rw [e3 b e9]; exact f4 b hb hz hu
      · rw [e3 b (hne b (by have := f2 b t hb; omega))]; exact f5 b t hb h0 hB
      · rw [e3 b (hne b (by have := f2 b t hb; omega))] at q1
        exact f6 b t hb h0 k hk1 hk2 c0 c1 q0 q1
    · rcases List.mem_append.mp hg with hg | hg
      · exact a10 g hg
      · rw [List.mem_singleton.mp hg]; exact r2
    · exact (zk_rws_ok (r := r) (x := v.2.1) (vs := q.2.set f.2 w) (Pr := fun q => E.2.2.2.1.1 (r q.1).toNat ∨ E.2.2.2.1.2.2.size ≤ (r q.1).toNat) (Pr' := fun q => E.2.2.2.1.1 (r q.1).toNat ∨ E.2.2.2.1.2.2.size ≤ (r q.1).toNat) g5 a11 (fun _ z _ => z) (fun o ho => by have z := a11 (v.2.1, o) (zk_rwl_mem ho); exact z) (by rw [hq]; simp)).1
  · split at h
    rotate_left
    · cases h
    rename_i t ht
    simp only [Bool.and_eq_true, decide_eq_true_eq, Bool.not_eq_true', List.contains_iff_mem] at h
    obtain ⟨⟨t2, t3⟩, hfin, hFm, h⟩ := h
    split at h
    rotate_left
    · cases h
    rename_i q hq
    simp only [Bool.and_eq_true] at h
    obtain ⟨hcf, h⟩ := h
    obtain ⟨p1, t1⟩ := g1 _ (zk_rtl_mem ht)
    dsimp only at p1 t1
    have hT := I.2.2.2.2.1.2 _ _ t1
    rw [if_neg (by rw [t2]; decide)] at hT
    have hC := hT.2
    unfold zk_C at hC
    rw [if_pos t2] at hC
    obtain ⟨cell, d1, d2, d3, d4⟩ := hC
    obtain ⟨x, x1, -⟩ := d4 _ _ hq
    have hkl : f.2 < (D.TT t).2.2.length := (List.getElem?_eq_some_iff.mp hq).1
    obtain ⟨q9, hq9, hl9⟩ := hV.2.2.2 t t2
    rw [t3] at d2 x1
    refine zk_putf hx hb hown hV hFX hoc hini hf (by rw [hfin]; rfl) d1 d2 d3 x1 hnr hd (fun H' e1 e2 e3 => ?_)
    refine hK _ _ h r ty H' _ ls _ ?_
    have e1' : H'[(r v.2.1).toNat]? = some (cell.setSlot (D.dI (D.TT t).2.1 f.2) (zk_c r w)) := by rw [t3]; exact e1
    have hslot : ∀ k : Nat, k < (D.TT t).2.2.length → k ≠ f.2 → (cell.setSlot (D.dI (D.TT t).2.1 f.2) (zk_c r w)).slots[D.dI (D.TT t).2.1 k]? = cell.slots[D.dI (D.TT t).2.1 k]? := fun k hk hne =>
      slot_ne _ _ (zk_apart hV hq9 (by rw [← hl9]; exact hkl) (by rw [← hl9]; exact hk) (fun z => hne z.symm))
    have hself : (cell.setSlot (D.dI (D.TT t).2.1 f.2) (zk_c r w)).slots[D.dI (D.TT t).2.1 f.2]? = some (zk_c r w) := by
      unfold Cell.setSlot
      rw [Array.getElem?_setIfInBounds, if_pos rfl, if_pos (by rw [t3]; exact (Array.getElem?_eq_some_iff.mp x1).1)]
    refine zk_I_upd I e2 e3 t1 (by rw [t2]; decide) d1 e1' ?_ (fun z => absurd t2 z) (fun _ k hk1 hk2 => ?_) (fun g hg => ?_) (fun g hg => zk_em_keepO e3 t1 t2 (g3 g hg)) (fun hT' g hg => ?_) (fun g hg => ?_)
    · unfold zk_C
      rw [if_pos t2]
      refine ⟨_, e1', by rw [t3]; exact d2, d3, fun k q' hk => ?_⟩
      by_cases ek : k = f.2
      · subst ek
        cases hq.symm.trans hk
        exact ⟨_, hself, zk_cf_ok I.2.2.1 g1 hcf⟩
      · rw [hslot k (List.getElem?_eq_some_iff.mp hk).1 ek]
        obtain ⟨x', y1, y2⟩ := d4 k q' hk
        exact ⟨x', y1, y2⟩
    · refine hslot k hk1 (fun ek => ?_)
      subst ek
      exact hk2 (by rw [← hF]; exact hFm)
    · rcases List.mem_cons.mp hg with rfl | hg
      · exact ⟨⟨t, t1, t2, t3, hkl⟩, _, e1', by rw [← t3]; exact hself⟩
      · obtain ⟨hg1, hg2⟩ := List.mem_filter.mp hg
        by_cases hz : g.2.1 = (D.TT t).2.1 ∧ g.2.2.1 = f.2
        · rw [t3] at hz
          simp only [hz.1, hz.2, BEq.rfl, Bool.and_self, Bool.not_true, Bool.false_or] at hg2
          unfold zk_ot at hg2
          split at hg2
          · rename_i u hu
            obtain ⟨w1, w2⟩ := g2 g hg1
            refine ⟨w1, ?_⟩
            obtain ⟨cw, w3, w4⟩ := w2
            refine ⟨cw, ?_, w4⟩
            rw [e3 _ (fun e => ?_)]
            · exact w3
            · have k1 := (g1 _ (zk_rtl_mem hu)).2
              dsimp only at k1
              rw [e] at k1
              have : u = t := by omega
              simp [this] at hg2
          · cases hg2
        · exact zk_fm_keep hV I.2.2.2.2.1 e3 t1 t2 d1 hkl e1' (g2 g hg1) hz
    · rcases List.mem_append.mp hg with hg | hg
      · exact (hO.2 E).1 f A r ty H H' locs ls _ w v S cell t I hS hv t1 ⟨t2, t3, hkl⟩ d1 e1 ⟨x, x1⟩ e2 e3 hT' g hg
      · obtain ⟨hg1, hg2⟩ := List.mem_filter.mp hg
        refine hO.1 _ _ _ _ _ _ ?_ I.2.2.2.2.1 hT' (g7 g hg1)
        refine zk_st_upd e3 t1 (fun z => absurd t2 z) d1 e1' (fun _ k hk1 hk2 => hslot k hk1 (fun ek => ?_))
        subst ek
        rw [List.contains_iff_mem.mpr hk2] at hg2
        cases hg2
    · rcases List.mem_append.mp hg with hg | hg
      · exact I.2.2.2.2.2.2.2.2.2.1 g hg
      · rw [List.mem_singleton.mp hg]; exact hT.1.1
end
