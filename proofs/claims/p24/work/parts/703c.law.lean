/-! THE LAW, 4: what is known at the start, put together. -/
theorem zs_n7 : ∀ i, i < 15 → zs_len.getD i 0 < 2 ^ 31 := by decide
theorem zs_n8 : Cond.eq (.static "java/lang/String" "COMPACT_STRINGS" "Z") (.int 1) ∈ flatC (Jvm.Cond.and given_1 narrow_1) := by decide +kernel
theorem zs_n9 : Cond.isRef (.static "jdk/internal/util/Preconditions" "SIOOBE_FORMATTER" "Ljava/util/function/BiFunction;") ∈ flatC (Jvm.Cond.and given_1 narrow_1) := by decide +kernel
theorem zs_sr : ∀ q ∈ zk_str, ∃ i : Nat, lw_tbl[i]? = some (Cond.stringRef q.1 q.2.1 q.2.2.1) := by
  intro q hq
  simp only [zk_str, List.mem_cons, List.not_mem_nil, or_false] at hq
  rcases hq with rfl | rfl | rfl | rfl | rfl | rfl | rfl | rfl | rfl | rfl | rfl | rfl | rfl | rfl | rfl
  · exact ⟨555, by decide +kernel⟩
  · exact ⟨632, by decide +kernel⟩
  · exact ⟨637, by decide +kernel⟩
  · exact ⟨646, by decide +kernel⟩
  · exact ⟨742, by decide +kernel⟩
  · exact ⟨743, by decide +kernel⟩
  · exact ⟨748, by decide +kernel⟩
  · exact ⟨749, by decide +kernel⟩
  · exact ⟨750, by decide +kernel⟩
  · exact ⟨751, by decide +kernel⟩
  · exact ⟨752, by decide +kernel⟩
  · exact ⟨753, by decide +kernel⟩
  · exact ⟨754, by decide +kernel⟩
  · exact ⟨755, by decide +kernel⟩
  · exact ⟨1406, by decide +kernel⟩
theorem zs_stx : ∀ i, i < 15 → ∀ q, zk_str[i]? = some q → q.2.2.2 = i := by decide +kernel
theorem zk_nst_in : ∀ q ∈ zk_nst, ∃ i : Nat, lw_tbl[i]? = some (Cond.methodLinkNest q.1 q.2.1 q.2.2.1 q.2.2.2) := by
  intro q hq
  simp only [zk_nst, List.mem_cons, List.not_mem_nil, or_false] at hq
  rcases hq with rfl | rfl | rfl
  · exact ⟨691, by decide +kernel⟩
  · exact ⟨876, by decide +kernel⟩
  · exact ⟨984, by decide +kernel⟩
theorem zk_aos_in : ∀ C ∈ zk_aos, ∃ i : Nat, lw_tbl[i]? = some (Cond.arrayOver (.object C)) := by
  intro C hC
  simp only [zk_aos, List.mem_cons, List.not_mem_nil, or_false] at hC
  rcases hC with rfl | rfl | rfl | rfl | rfl
  · exact ⟨203, by decide +kernel⟩
  · exact ⟨278, by decide +kernel⟩
  · exact ⟨310, by decide +kernel⟩
  · exact ⟨407, by decide +kernel⟩
  · exact ⟨427, by decide +kernel⟩
section
variable {s : State} {args : Array Value}
theorem lw_cls (hts : ∀ w ∈ lw_tbl, w.before args s = true) (hw : ∀ w ∈ zw, w.before args s = true) : ∀ ci : Nat, ∃ p : ClassId × (Nat → Nat), ∀ q : vw_C, zcl[ci]? = some q → u_Kn s q.1 q.2.1 q.2.2 p.1 p.2
  | 0 => by
    obtain ⟨cC, iS, h⟩ := u_known (ws := zw) (C := RX0) (T := TX0) (N := 7) (n := 7) hw (zlay 0 _ rfl) (hts _ (List.mem_of_getElem? (i := 428) (by decide +kernel)))
    exact ⟨(cC, iS), fun q hq => by cases hq; exact h⟩
  | 1 => by
    obtain ⟨cC, iS, h⟩ := u_known (ws := zw) (C := RX2) (T := TX2) (N := 5) (n := 5) hw (zlay 1 _ rfl) (hts _ (List.mem_of_getElem? (i := 311) (by decide +kernel)))
    exact ⟨(cC, iS), fun q hq => by cases hq; exact h⟩
  | 2 => by
    obtain ⟨cC, iS, h⟩ := u_known (ws := zw) (C := RX2) (T := TX2) (N := 5) (n := 5) hw (zlay 2 _ rfl) (hts _ (List.mem_of_getElem? (i := 311) (by decide +kernel)))
    exact ⟨(cC, iS), fun q hq => by cases hq; exact h⟩
  | 3 => by
    obtain ⟨cC, iS, h⟩ := u_known (ws := zw) (C := RX3) (T := TX3) (N := 14) (n := 14) hw (zlay 3 _ rfl) (hts _ (List.mem_of_getElem? (i := 304) (by decide +kernel)))
    exact ⟨(cC, iS), fun q hq => by cases hq; exact h⟩
  | 4 => by
    obtain ⟨cC, iS, h⟩ := u_known (ws := zw) (C := RX4) (T := TX4) (N := 7) (n := 7) hw (zlay 4 _ rfl) (hts _ (List.mem_of_getElem? (i := 204) (by decide +kernel)))
    exact ⟨(cC, iS), fun q hq => by cases hq; exact h⟩
  | 5 => by
    obtain ⟨cC, iS, h⟩ := u_known (ws := zw) (C := RX5) (T := TX5) (N := 4) (n := 4) hw (zlay 5 _ rfl) (hts _ (List.mem_of_getElem? (i := 302) (by decide +kernel)))
    exact ⟨(cC, iS), fun q hq => by cases hq; exact h⟩
  | 6 => by
    obtain ⟨cC, iS, h⟩ := u_known (ws := zw) (C := RX6) (T := TX6) (N := 7) (n := 7) hw (zlay 6 _ rfl) (hts _ (List.mem_of_getElem? (i := 139) (by decide +kernel)))
    exact ⟨(cC, iS), fun q hq => by cases hq; exact h⟩
  | 7 => by
    obtain ⟨cC, iS, h⟩ := u_known (ws := zw) (C := RX7) (T := TX7) (N := 5) (n := 5) hw (zlay 7 _ rfl) (hts _ (List.mem_of_getElem? (i := 171) (by decide +kernel)))
    exact ⟨(cC, iS), fun q hq => by cases hq; exact h⟩
  | 8 => by
    obtain ⟨cC, iS, h⟩ := u_known (ws := zw) (C := RX8) (T := TX8) (N := 8) (n := 8) hw (zlay 8 _ rfl) (hts _ (List.mem_of_getElem? (i := 102) (by decide +kernel)))
    exact ⟨(cC, iS), fun q hq => by cases hq; exact h⟩
  | 9 => by
    obtain ⟨cC, iS, h⟩ := u_known (ws := zw) (C := RX9) (T := TX9) (N := 5) (n := 5) hw (zlay 9 _ rfl) (hts _ (List.mem_of_getElem? (i := 279) (by decide +kernel)))
    exact ⟨(cC, iS), fun q hq => by cases hq; exact h⟩
  | 10 => by
    obtain ⟨cC, iS, h⟩ := u_known (ws := zw) (C := RX10) (T := TX10) (N := 7) (n := 7) hw (zlay 10 _ rfl) (hts _ (List.mem_of_getElem? (i := 244) (by decide +kernel)))
    exact ⟨(cC, iS), fun q hq => by cases hq; exact h⟩
  | 11 => by
    obtain ⟨cC, iS, h⟩ := u_known (ws := zw) (C := RX11) (T := TX11) (N := 16) (n := 16) hw (zlay 11 _ rfl) (hts _ (List.mem_of_getElem? (i := 94) (by decide +kernel)))
    exact ⟨(cC, iS), fun q hq => by cases hq; exact h⟩
  | 12 => by
    obtain ⟨cC, iS, h⟩ := u_known (ws := zw) (C := RX12) (T := TX12) (N := 73) (n := 73) hw (zlay 12 _ rfl) (hts _ (List.mem_of_getElem? (i := 1140) (by decide +kernel)))
    exact ⟨(cC, iS), fun q hq => by cases hq; exact h⟩
  | ci + 13 => ⟨(0, fun _ => 0), fun q hq => by simp [zcl] at hq⟩
theorem lw_ao {C : String} (h : (Cond.arrayOver (.object C)).before args s = true) : ∃ (c : ClassId) (kA : Class) (comp : ClassId), s.vm.classes[c]? = some kA ∧ kA.kind = .array comp (.object C) ∧ s.vm.findClass C = some comp ∧ s.vm.findClass ("[" ++ (FieldType.object C).toString) = some c := by
  obtain ⟨comp, c, k, h1, h2, h3, h4, h5⟩ := Cond.arrayOver_spec h
  exact ⟨c, k, comp, h3, h4, h1, h5⟩
theorem lw_arr (hts : ∀ w ∈ lw_tbl, w.before args s = true) (hw : ∀ w ∈ zw, w.before args s = true) : ∀ k : Nat, ∃ c : ClassId, k ∈ [1, 2, 3, 4, 10, 12, 13, 14, 19] → ∃ (kA : Class) (comp : ClassId), s.vm.classes[c]? = some kA ∧ kA.kind = .array comp (zk_et zcl k) ∧ (10 ≤ k → s.vm.findClass (zk_cn zcl (k - 10)) = some comp) ∧ s.vm.findClass ("[" ++ (zk_et zcl k).toString) = some c := by
  intro k
  by_cases hk : k ∈ [1, 2, 3, 4, 10, 12, 13, 14, 19]
  rotate_left
  · exact ⟨0, fun h => absurd h hk⟩
  have pr : ∀ (t : ArrayType) (k : Nat), zk_ak t ≠ 0 → k < 10 → zk_et zcl k = newarray.typeOf t → ∃ c : ClassId, k ∈ [1, 2, 3, 4, 10, 12, 13, 14, 19] → ∃ (kA : Class) (comp : ClassId), s.vm.classes[c]? = some kA ∧ kA.kind = .array comp (zk_et zcl k) ∧ (10 ≤ k → s.vm.findClass (zk_cn zcl (k - 10)) = some comp) ∧ s.vm.findClass ("[" ++ (zk_et zcl k).toString) = some c := by
    intro t k h1 h2 h3
    obtain ⟨cA, kA, comp, g1, g2, g3⟩ := Cond.arrayClass_spec (hw _ (zac t h1))
    rw [h3]
    exact ⟨cA, fun _ => ⟨kA, comp, g2, g3, fun h => by omega, g1⟩⟩
  have ob : ∀ (k : Nat) (C : String), 10 ≤ k → zk_et zcl k = .object C → zk_cn zcl (k - 10) = C → C ∈ zk_aos → ∃ c : ClassId, k ∈ [1, 2, 3, 4, 10, 12, 13, 14, 19] → ∃ (kA : Class) (comp : ClassId), s.vm.classes[c]? = some kA ∧ kA.kind = .array comp (zk_et zcl k) ∧ (10 ≤ k → s.vm.findClass (zk_cn zcl (k - 10)) = some comp) ∧ s.vm.findClass ("[" ++ (zk_et zcl k).toString) = some c := by
    intro k C h1 h2 h3 h4
    obtain ⟨i, hi⟩ := zk_aos_in C h4
    obtain ⟨c, kA, comp, g1, g2, g3, g4⟩ := lw_ao (hts _ (List.mem_of_getElem? hi))
    rw [h2, h3]
    exact ⟨c, fun _ => ⟨kA, comp, g1, g2, fun _ => g3, g4⟩⟩
  simp only [List.mem_cons, List.not_mem_nil, or_false] at hk
  rcases hk with rfl | rfl | rfl | rfl | rfl | rfl | rfl | rfl | rfl
  · exact pr .int 1 (by decide) (by decide) rfl
  · exact pr .byte 2 (by decide) (by decide) rfl
  · exact pr .boolean 3 (by decide) (by decide) rfl
  · exact pr .long 4 (by decide) (by decide) rfl
  · exact ob 10 RX0 (by decide) rfl rfl (by decide)
  · exact ob 12 RX2 (by decide) rfl rfl (by decide)
  · exact ob 13 RX3 (by decide) rfl rfl (by decide)
  · exact ob 14 RX4 (by decide) rfl rfl (by decide)
  · exact ob 19 RX9 (by decide) rfl rfl (by decide)
theorem lw_txt (hts : ∀ w ∈ lw_tbl, w.before args s = true) (hgv : (Jvm.Cond.and given_1 narrow_1).before args s = true) : ∃ adK adV : Nat → Nat, zs_S adK adV (fun q => s.heap.size ≤ q) s s.heap ∧ ∀ q ∈ zk_str, q.2.2.2 < 15 ∧ vk_R q.1 q.2.1 q.2.2.1 (adK q.2.2.2) s := by
  have hs := flat_of_before _ hgv
  have hA : ∀ a : Nat, a < s.heap.size → ¬ (fun q => s.heap.size ≤ q) a := fun a h => Nat.not_le.mpr h
  obtain ⟨adK, adV, h1, h2⟩ := vk_Sof (args := args) (s := s) (N := 15) (tm := zs_tm) (len := zs_len) (byt := zs_byt) (A := fun q => s.heap.size ≤ q) zs_n7 (fun i hi => hs _ (zs_n1 i hi)) (fun i hi => hs _ (zs_n2 i hi)) (fun i hi => hs _ (zs_n3 i hi)) (fun i hi => hs _ (zs_n4 i hi)) (fun i hi j hj => hs _ (zs_n5 i hi j hj)) (fun i j hi hj hn => (zs_n6 i hi j hj hn).imp (fun z => hs _ z) (fun z => hs _ z)) hA
  refine ⟨adK, adV, ⟨h1, va_Zof (hts _ (List.mem_of_getElem? (i := 569) (by decide +kernel))) (hts _ (List.mem_of_getElem? (i := 87) (by decide +kernel))) (va_eqt (hs _ zs_n8)) hA, va_Zqof (hts _ (List.mem_of_getElem? (i := 585) (by decide +kernel))) (hts _ (List.mem_of_getElem? (i := 89) (by decide +kernel))) (hs _ zs_n9) hA⟩, fun q hq => ?_⟩
  obtain ⟨i, hi⟩ := List.getElem?_of_mem hq
  have hl : i < 15 := (List.getElem?_eq_some_iff.mp hi).1
  have e := zs_stx i hl q hi
  rw [e]
  obtain ⟨k, hk⟩ := zs_sr q hq
  refine ⟨hl, vk_R.of (hts _ (List.mem_of_getElem? hk)) ?_⟩
  have := h2 i hl
  unfold zs_tm at this
  rw [hi] at this
  exact this
/-- what a world knows at the start -/
theorem zkn_of {D : zD} {adK adV : Nat → Nat} (hts : ∀ w ∈ lw_tbl, w.before args s = true) (hc : ∀ (ci : Nat) (q : vw_C), zcl[ci]? = some q → u_Kn s q.1 q.2.1 q.2.2 (D.dC ci) (D.dI ci)) (ha : ∀ k : Nat, k ∈ [1, 2, 3, 4, 10, 12, 13, 14, 19] → ∃ (kA : Class) (comp : ClassId), s.vm.classes[D.cA k]? = some kA ∧ kA.kind = .array comp (zk_et zcl k) ∧ (10 ≤ k → s.vm.findClass (zk_cn zcl (k - 10)) = some comp) ∧ s.vm.findClass ("[" ++ (zk_et zcl k).toString) = some (D.cA k))
    (hS : zs_S adK adV (fun q => s.heap.size ≤ q) s s.heap) (hR : ∀ q ∈ zk_str, q.2.2.2 < 15 ∧ vk_R q.1 q.2.1 q.2.2.1 (adK q.2.2.2) s) (hba : D.ba = s.heap.size) (hro : ∀ t a, t < 15 → D.RO t a → a = adK t) {b : Nat} (hop : ∀ (ty : Nat → Nat) (H : Heap), D.OP 0 ty H [] → zOP1 s b adK 0 ty H []) : zk_kn D zcl s := by
  refine ⟨hc, ha, fun q hq => ?_, ⟨s.heap, adK, adV, by rw [hba]; exact hS, hR, hro, fun ty H h => ?_⟩, fun C hC => ?_⟩
  · obtain ⟨i, hi⟩ := zk_nst_in q hq
    exact va_Nw.of rfl (hts _ (List.mem_of_getElem? hi))
  · have h := hop ty H h
    unfold zOP1 at h
    rw [if_pos rfl] at h
    have hK : ∀ t, t < 15 → adK t < s.heap.size := fun t ht => by
      obtain ⟨cell, c1, -⟩ := (hS.1.1 t ht).1
      exact (Array.getElem?_eq_some_iff.mp c1).1
    refine ⟨fun t ht => ?_, fun U' h' => ?_⟩
    · rw [(h.2 _ (hK t ht)).1]
      exact zty0_K ht (hK t ht) hS.1.2
    · have hq : ∀ a : Nat, a < s.heap.size → ¬ (fun q => D.ba ≤ q) a → H[a]? = s.heap[a]? := fun a ha _ => (h.2 a ha).2
      exact ⟨h'.1.kept hq, h'.2.1.kept hq, h'.2.2.kept hq⟩
  · obtain ⟨i, hi⟩ := zk_aos_in C hC
    exact va_AO.of (hts _ (List.mem_of_getElem? hi))
end
