/-! THE CHECKER, 21: what a callee's end says, in the caller's symbols: entry symbols below m0 by u, the others from nx on. -/
def zk_px (u : zU) (m0 nx : Nat) (x : Nat) : Nat × Int := if x < m0 then zk_sx u x else (nx + (x - m0), 0)
def zk_pv (u : zU) (m0 nx : Nat) (v : zV) : zV := (v.1, (zk_px u m0 nx v.2.1).1, v.2.2 + (zk_px u m0 nx v.2.1).2)
def zk_pi (u : zU) (m0 nx : Nat) : List (Nat × Int × Int) → zP → Option zP
  | [], P => some P
  | q :: l, P => if q.1 < m0 then (match zk_le P (0, 0, q.2.1) (zk_pv u m0 nx (0, q.1, 0)) 0 with
      | none => none
      | some P1 => (match zk_le P1 (zk_pv u m0 nx (0, q.1, 0)) (0, 0, q.2.2) 0 with | none => none | some P2 => zk_pi u m0 nx l P2))
    else zk_pi u m0 nx l ((nx + (q.1 - m0), q.2.1, q.2.2) :: P.1, P.2)
def zk_pd (u : zU) (m0 nx : Nat) : List (Nat × Nat × Int) → zP → Option zP
  | [], P => some P
  | q :: l, P => match zk_le P (zk_pv u m0 nx (0, q.1, 0)) (zk_pv u m0 nx (0, q.2.1, 0)) q.2.2 with | none => none | some P1 => zk_pd u m0 nx l P1
def zk_pP (u : zU) (m0 nx : Nat) (c P : zP) : Option zP := match zk_pi u m0 nx c.1 P with
  | none => none
  | some P1 => (match zk_pd u m0 nx c.2.1 P1 with
    | none => none
    | some P2 => some (P2.1, P2.2.1, P2.2.2.1, c.2.2.2.map (fun q => ((zk_px u m0 nx q.1).1, q.2 - (zk_px u m0 nx q.1).2)) ++ P2.2.2.2))
def zk_pk (u : zU) (m0 nx : Nat) (xs : List Nat) (g : zG) : Bool := g.1.all (fun q => decide ((zk_px u m0 nx q.1).2 = 0)) && g.2.1.all (fun q => decide ((zk_px u m0 nx q.1).2 = 0)) && g.2.2.1.all (fun q => decide ((zk_px u m0 nx q.1).2 = 0)) && g.2.2.2.1.all (fun q => decide ((zk_px u m0 nx q.1).2 = 0) && xs.contains (zk_px u m0 nx q.1).1) && zk_nodup (g.2.2.2.1.map (fun q => (zk_px u m0 nx q.1).1)) && g.2.2.2.2.1.isEmpty
def zk_pG (u : zU) (m0 nx : Nat) (g G : zG) : zG :=
  (g.1.map (fun q => ((zk_px u m0 nx q.1).1, q.2)) ++ G.1, g.2.1.map (fun q => ((zk_px u m0 nx q.1).1, q.2.1, q.2.2.1, zk_pv u m0 nx q.2.2.2)) ++ G.2.1, g.2.2.1.map (fun q => ((zk_px u m0 nx q.1).1, q.2.1, zk_pv u m0 nx q.2.2.1, zk_pv u m0 nx q.2.2.2)) ++ G.2.2.1,
   g.2.2.2.1.map (fun q => ((zk_px u m0 nx q.1).1, q.2.1, q.2.2.map (zk_pv u m0 nx))) ++ G.2.2.2.1, G.2.2.2.2.1, g.2.2.2.2.2.map (fun q => (q.1, q.2.map (zk_pv u m0 nx))) ++ G.2.2.2.2.2)
section
variable {D : zD} {E : zE} {A : zA} {r r1 : Nat → Int} {ty : Nat → Nat} {H : Heap} {u : zU} {m0 nx : Nat}
theorem zk_n_pv (hr : ∀ x, r (zk_px u m0 nx x).1 + (zk_px u m0 nx x).2 = r1 x) (v : zV) : zk_n r (zk_pv u m0 nx v) = zk_n r1 v := by
  unfold zk_n zk_pv; dsimp only; rw [← hr v.2.1]; omega
theorem zk_c_pv (hr : ∀ x, r (zk_px u m0 nx x).1 + (zk_px u m0 nx x).2 = r1 x) (v : zV) : zk_c r (zk_pv u m0 nx v) = zk_c r1 v := by
  unfold zk_c; rw [zk_n_pv hr]; rfl
theorem zk_pi_ok (hr : ∀ x, r (zk_px u m0 nx x).1 + (zk_px u m0 nx x).2 = r1 x) (h0 : r 0 = 0) : ∀ {l : List (Nat × Int × Int)} {P : zP}, zk_P r P → (∀ q ∈ l, q.2.1 ≤ r1 q.1 ∧ r1 q.1 ≤ q.2.2) → ∃ P', zk_pi u m0 nx l P = some P' ∧ zk_P r P'
  | [], P, hP, _ => ⟨P, rfl, hP⟩
  | q :: l, P, hP, h => by
    have hq := h q List.mem_cons_self
    have hn : zk_n r (zk_pv u m0 nx (0, q.1, 0)) = r1 q.1 := by rw [zk_n_pv hr]; unfold zk_n; dsimp only; omega
    have hc : ∀ k : Int, zk_n r (0, 0, k) = k := fun k => by unfold zk_n; dsimp only; rw [h0]; omega
    unfold zk_pi
    split
    · obtain ⟨P1, e1, h1⟩ := zk_le_ok hP (v := (0, 0, q.2.1)) (w := zk_pv u m0 nx (0, q.1, 0)) (c := 0) (by rw [hn, hc]; omega)
      rw [e1]
      obtain ⟨P2, e2, h2⟩ := zk_le_ok h1 (v := zk_pv u m0 nx (0, q.1, 0)) (w := (0, 0, q.2.2)) (c := 0) (by rw [hn, hc]; omega)
      dsimp only
      rw [e2]
      exact zk_pi_ok hr h0 h2 (fun z hz => h z (List.mem_cons_of_mem _ hz))
    · rename_i hm
      refine zk_pi_ok hr h0 ⟨fun z hz => ?_, hP.2⟩ (fun z hz => h z (List.mem_cons_of_mem _ hz))
      rcases List.mem_cons.mp hz with rfl | hz
      · have := hr q.1
        unfold zk_px at this
        rw [if_neg hm] at this
        dsimp only at this ⊢
        omega
      · exact hP.1 z hz
theorem zk_pd_ok (hr : ∀ x, r (zk_px u m0 nx x).1 + (zk_px u m0 nx x).2 = r1 x) : ∀ {l : List (Nat × Nat × Int)} {P : zP}, zk_P r P → (∀ q ∈ l, r1 q.1 ≤ r1 q.2.1 + q.2.2) → ∃ P', zk_pd u m0 nx l P = some P' ∧ zk_P r P'
  | [], P, h, _ => ⟨P, rfl, h⟩
  | q :: l, P, h, hl => by
    unfold zk_pd
    obtain ⟨P1, e1, h1⟩ := zk_le_ok h (v := zk_pv u m0 nx (0, q.1, 0)) (w := zk_pv u m0 nx (0, q.2.1, 0)) (c := q.2.2) (by
      rw [zk_n_pv hr, zk_n_pv hr]
      have := hl q List.mem_cons_self
      unfold zk_n
      dsimp only
      omega)
    rw [e1]
    exact zk_pd_ok hr h1 (fun q' hq => hl q' (List.mem_cons_of_mem _ hq))
theorem zk_pP_ok (hr : ∀ x, r (zk_px u m0 nx x).1 + (zk_px u m0 nx x).2 = r1 x) (h0 : r 0 = 0) {c P : zP} (hP : zk_P r P) (hc : zk_P r1 c) : ∃ P', zk_pP u m0 nx c P = some P' ∧ zk_P r P' := by
  obtain ⟨P1, e1, h1⟩ := zk_pi_ok (u := u) (m0 := m0) (nx := nx) hr h0 hP hc.1
  obtain ⟨P2, e2, h2⟩ := zk_pd_ok (u := u) (m0 := m0) (nx := nx) hr h1 hc.2.1
  unfold zk_pP
  rw [e1]
  dsimp only
  rw [e2]
  refine ⟨_, rfl, h2.1, h2.2.1, h2.2.2.1, fun q hq => ?_⟩
  rcases List.mem_append.mp hq with hq | hq
  · obtain ⟨z, hz, rfl⟩ := List.mem_map.mp hq
    have a := hc.2.2.2 z hz
    have b := hr z.1
    dsimp only
    omega
  · exact h2.2.2.2 q hq
theorem zk_pG_ok (hr : ∀ x, r (zk_px u m0 nx x).1 + (zk_px u m0 nx x).2 = r1 x) {xs : List Nat} {g G : zG} (hk : zk_pk u m0 nx xs g = true) (hG : zk_H D r ty H G) (hg : zk_H D r1 ty H g) (hx : ∀ q ∈ G.2.2.2.1, ∀ x ∈ xs, r q.1 ≠ r x) (hxx : ∀ x ∈ xs, ∀ y ∈ xs, x ≠ y → r x ≠ r y) : zk_H D r ty H (zk_pG u m0 nx g G) := by
  simp only [zk_pk, Bool.and_eq_true, List.all_eq_true, decide_eq_true_eq, List.contains_iff_mem] at hk
  obtain ⟨⟨⟨⟨⟨k1, k2⟩, k3⟩, k4⟩, k5⟩, k6⟩ := hk
  obtain ⟨G1, G2, G3, G4, G5, G6, G7⟩ := hG
  obtain ⟨g1, g2, g3, g4, g5, g6, g7⟩ := hg
  have he : ∀ {x : Nat}, (zk_px u m0 nx x).2 = 0 → r (zk_px u m0 nx x).1 = r1 x := fun {x} h => by have := hr x; omega
  refine ⟨fun q hq => ?_, fun q hq => ?_, fun q hq => ?_, fun q hq => ?_, ?_, G6, fun q hq => ?_⟩
  · rcases List.mem_append.mp hq with hq | hq
    · obtain ⟨z, hz, rfl⟩ := List.mem_map.mp hq
      have := g1 z hz
      unfold zk_rt at this ⊢
      dsimp only
      rw [he (k1 z hz)]; exact this
    · exact G1 q hq
  · rcases List.mem_append.mp hq with hq | hq
    · obtain ⟨z, hz, rfl⟩ := List.mem_map.mp hq
      have := g2 z hz
      unfold zk_fm at this ⊢
      dsimp only
      rw [he (k2 z hz), zk_c_pv hr]; exact this
    · exact G2 q hq
  · rcases List.mem_append.mp hq with hq | hq
    · obtain ⟨z, hz, rfl⟩ := List.mem_map.mp hq
      have := g3 z hz
      unfold zk_em at this ⊢
      dsimp only
      rw [he (k3 z hz), zk_c_pv hr, zk_n_pv hr]; exact this
    · exact G3 q hq
  · rcases List.mem_append.mp hq with hq | hq
    · obtain ⟨z, hz, rfl⟩ := List.mem_map.mp hq
      obtain ⟨a1, a2, a3, cell, a4, a5, a6⟩ := g4 z hz
      unfold zk_rw
      dsimp only
      rw [he (k4 z hz).1]
      refine ⟨a1, a2, a3, cell, a4, a5, ?_⟩
      split at a6
      · rename_i hc
        rw [if_pos hc]
        refine ⟨a6.1, fun k v hk => ?_⟩
        rw [List.getElem?_map] at hk
        cases hv : z.2.2[k]? with
        | none => rw [hv] at hk; cases hk
        | some w =>
          rw [hv] at hk
          cases hk
          rw [zk_c_pv hr]
          exact a6.2 k w hv
      · rename_i hc
        rw [if_neg hc]
        refine ⟨a6.1, by rw [a6.2.1, List.length_map], fun k v hk => ?_⟩
        rw [List.getElem?_map] at hk
        cases hv : z.2.2[k]? with
        | none => rw [hv] at hk; cases hk
        | some w =>
          rw [hv] at hk
          cases hk
          rw [zk_c_pv hr]
          exact a6.2.2 k w hv
    · exact G4 q hq
  · refine List.pairwise_append.mpr ⟨?_, G5, fun a ha b hb => ?_⟩
    · have hnd := List.pairwise_map.mp (zk_nodup_ok k5)
      rw [List.pairwise_map]
      refine List.Pairwise.imp_of_mem ?_ hnd
      intro a b ha hb hab
      exact hxx _ (k4 a ha).2 _ (k4 b hb).2 hab
    · obtain ⟨z, hz, rfl⟩ := List.mem_map.mp ha
      exact (hx b hb _ (k4 z hz).2).symm
  · rcases List.mem_append.mp hq with hq | hq
    · obtain ⟨z, hz, rfl⟩ := List.mem_map.mp hq
      have := g7 z hz
      dsimp only
      have e : (z.2.map (zk_pv u m0 nx)).map (zk_n r) = z.2.map (zk_n r1) := by
        rw [List.map_map]
        apply List.map_congr_left
        intro v _
        exact zk_n_pv hr v
      rw [e]; exact this
    · exact G7 q hq
end
