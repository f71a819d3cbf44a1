/-! THE LAW, 6: from its start to its end. -/
section
variable {p : Program} {l : Launch} {e : Env} {s : State} {m : MethodId} {b L : Nat} {below : List Frame} {meth : Method} {c : Code} {D : zD}
theorem lw_ctx {PF : Nat → List (Nat × Nat)} {PB : Nat → List Nat} {SU : zSU} (hx : p.tables.exec = Jvm.exec) (hb : c.code = code) (hown : s.vm.findClass R_law = some m.cls) (hw : ∀ w ∈ zw, w.before #[Value.ref b] s = true) (hk : zk_kn D zcl s) (hcl : zk_clok D zcl zft) (hO : zk_stb D PF PB SU) : zk_ctx p room_1 s m #[Value.ref b] meth c code D zcl zft PF PB SU R_law (zk_al zLL.1) (zk_al zLL.2.1) (zk_al zLL.2.2.1) (zk_al zLL.2.2.2.1) (zk_al zLL.2.2.2.2.1) 0 false 600000 7302250 (zk_bl ftL_law) := by
  obtain ⟨k1, k2, k3, k4, k5, k6, k7⟩ := poolL.1 s #[Value.ref b] hw
  exact ⟨hx, hb, hown, zk_env_of hk hcl k1, k2, k3, k4, k5, fun idx ci h => ⟨(k6 idx ci h).1, va_AO.use (hk.2.2.2.2 _ (k6 idx ci h).2)⟩, fun h => (by cases h), fun h => (by cases h), k7, ⟨Nat.le_refl _, Nat.le_refl _⟩, hO, zk_ftb_ok ftL_law_ok⟩
theorem lw_SC {E : zE} {xs : Nat → Int32} (hX : va_X b L xs s s.heap) (hL : L ≤ 3072) (hD : ∀ a n, D.SC a n → a = b ∧ n = (L : Int)) {t : Nat} (ht : E.2.2.2.1.2.1 b = t + 1) (h0 : (D.TT t).1 ≠ 0) (hB : t ∉ E.2.2.1.2) (hH : E.2.2.2.1.2.2[b]? = s.heap[b]?) : zk_SC D E s := by
  intro a n h
  obtain ⟨e1, e2⟩ := hD a n h
  subst e1
  obtain ⟨scr, h1, h2, h3, h4, h5⟩ := hX
  refine ⟨scr, h1, h2, h3, by rw [h4, e2], by omega, fun j hj => ⟨xs j, h5 j (by omega)⟩, fun H ty _ hF => ?_⟩
  rw [hF.2.2.2.2.1 a t ht h0 hB, hH]
  exact h1
theorem lw_70 {adK : Nat → Nat} (hop : ∀ (ty : Nat → Nat) (H : Heap) (vs : List Int), D.OP 70 ty H vs ↔ zOP1 s b adK 70 ty H vs) (hD : ∀ a n, D.SC a n → a = b ∧ n = (L : Int)) : zk_70 D s := by
  intro ty H a n i w h
  obtain ⟨e1, e2⟩ := hD a n h
  subst e1
  rw [hop]
  unfold zOP1
  rw [if_neg (by decide), if_neg (by decide), if_pos rfl]
  refine ⟨fun ⟨i', w', e3, hz⟩ => ?_, fun hz => ⟨i, w, rfl, hz⟩⟩
  cases e3
  exact hz
/-- the law, behind the constructors -/
theorem lw_W2 {E : zE} (hTT : D.TT = zTT) (C : zk_ctx p room_1 s m #[Value.ref b] meth c code D zcl zft zPF zPB zSUf R_law (zk_al zLL.1) (zk_al zLL.2.1) (zk_al zLL.2.2.1) (zk_al zLL.2.2.2.1) (zk_al zLL.2.2.2.2.1) 0 false 600000 7302250 (zk_bl ftL_law)) (hSC : zk_SC D E s) (hE : E.1 = 4) (hn0 : lwn = E.2.1.1) (hF : lwF2 = E.2.2.1.1) (hB : lwB2 = E.2.2.1.2) (hX : ∀ M, zk_XT p l e room_1 s m #[Value.ref b] below meth c (lw_Z below #[Value.ref b] s) code D (zk_sE E M) (zk_XTL zTT zPF lwF2 zPB lwB2 lwn lwX2)) (hU : ∀ M, zk_ULok D (zk_sE E M) zULf) : zk_W p l e room_1 s m #[Value.ref b] below meth c (lw_Z below #[Value.ref b] s) D E 16 lwA2 := by
  have h0 : zk_exec zcl zft D.TT zPF zPB zSUf (zk_al zLL.1) (zk_al zLL.2.1) (zk_al zLL.2.2.1) (zk_al zLL.2.2.2.1) (zk_al zLL.2.2.2.2.1) 0 false 4 lwn 600000 7302250 lwF2 lwB2 (zk_bl ftL_law) (zk_ans lwAN2) (fun _ => []) (zk_fzs lwLM) zULf (fun _ => none) (zk_XTL zTT zPF lwF2 zPB lwB2 lwn lwX2) lwfu 16 lwA2 = true := by
    rw [hTT]
    exact lw_e2
  have hAll : ∀ (n : Nat) (Bn : zA), Bn ∈ zk_ans lwAN2 n → zk_exec zcl zft D.TT zPF zPB zSUf (zk_al zLL.1) (zk_al zLL.2.1) (zk_al zLL.2.2.1) (zk_al zLL.2.2.2.1) (zk_al zLL.2.2.2.2.1) 0 false 4 lwn 600000 7302250 lwF2 lwB2 (zk_bl ftL_law) (zk_ans lwAN2) (fun _ => []) (zk_fzs lwLM) zULf (fun _ => none) (zk_XTL zTT zPF lwF2 zPB lwB2 lwn lwX2) lwfu n Bn = true ∧ zk_pos Bn.2.2.1 (Bn.2.2.2.2.2.1.1, Bn.2.2.2.2.2.1.2 + 1) = true := by
    rw [hTT]
    intro n Bn hBn
    unfold zk_ans at hBn
    split at hBn
    · cases hBn
    · rename_i l' hl
      have h1 := List.all_eq_true.mp lw_e2b _ (zk_al_mem hl)
      have h2 := List.all_eq_true.mp h1 _ hBn
      simp only [Bool.and_eq_true] at h2
      exact h2
  refine zk_exec_ok (Or.inr ⟨fun _ => rfl, fun _ => rfl⟩) C hSC hE hn0 hF hB (by have := hX E.2.2.2.2; exact this) (by have := hU E.2.2.2.2; exact this) (fun M hM n' B' hB' => ?_) lwfu 16 lwA2 h0
  exact zk_ann_ok (Or.inr ⟨fun _ => rfl, fun _ => rfl⟩) C hAll (M.toNat + 1) (zk_sE E M) hSC hE hn0 hF hB (fun M' => hX M') (fun M' => hU M') (by show M < ((M.toNat + 1 : Nat) : Int); omega) n' B' hB'
theorem zmu_low : ∀ t, t ≤ 15 → zmu t = t ∧ zid t = [] := by
  intro t ht
  have : ∀ t, t < 16 → zmu t = t ∧ zid t = [] := by decide
  exact this t (by omega)
theorem lw_zc {H : Heap} {r : Nat → Int} {a k x : Nat} {cell : Cell} (h : H[a]? = some cell) (h1 : cell.slots[k]? = some (zk_c r (2, x, 0))) : zc H a k = (r x).toNat := by
  unfold zc zi
  rw [h]
  dsimp only
  rw [h1]
  show (((r x + 0).toNat : Nat) : Int).toNat = (r x).toNat
  rw [Int.add_zero, Int.toNat_natCast]
def lwnf : Nat → Nat → Nat := fun t k => (if t = 31 then 47 else if t = 130 then 137 else if t = 131 then 142 else 147) + k
def lwnfP (t : Nat) : Prop := (zTT1 t).1 = 0 ∧ (zTT1 t).2.1 = 4 ∧ ∀ k, k < 5 → (zTT1 t).2.2[k]? = some (2, [(((lwnf t k : Nat) : Int), 0)])
theorem lwnf_0 : lwnfP 31 := ⟨by decide, by decide, by decide⟩
theorem lwnf_1 : lwnfP 130 := ⟨by decide, by decide, by decide⟩
theorem lwnf_2 : lwnfP 131 := ⟨by decide, by decide, by decide⟩
theorem lwnf_3 : lwnfP 132 := ⟨by decide, by decide, by decide⟩
/-- a field of an object, in the world of the constructors -/
theorem lw_fd {D : zD} (hTT : D.TT = zTT1) {ty : Nat → Nat} {H : Heap} (hT : zk_T D ty H) {a t k u : Nat} (ha : ty a = t + 1) (h0 : (zTT1 t).1 = 0) (hk : (zTT1 t).2.2[k]? = some (2, [((u : Int), 0)])) : ty (zi H a (D.dI (zTT1 t).2.1 k)).toNat = u + 1 := by
  have g := hT.2 a t ha
  rw [hTT, if_neg (by rw [h0]; decide)] at g
  have g := g.2
  unfold zk_C at g
  rw [if_pos h0] at g
  obtain ⟨cell, hc, -, -, g⟩ := g
  obtain ⟨y, hy, z, e1, i, hi, hw⟩ := g k _ hk
  rw [List.mem_singleton.mp hi, if_pos rfl] at hw
  have e2 : zi H a (D.dI (zTT1 t).2.1 k) = ((z.toNat : Nat) : Int) := by
    unfold zi
    rw [hc]
    dsimp only
    rw [hy, e1]
    rfl
  rw [e2, Int.toNat_natCast]
  simpa using hw.2
theorem lw_df {D : zD} (hTT : D.TT = zTT1) {ty : Nat → Nat} {H : Heap} (hT : zk_T D ty H) {x y : Int} {t u : Nat} (hx : ty x.toNat = t + 1) (hy : ty y.toNat = u + 1) (htu : t ≠ u) (ht : lwnfP t) (hu : lwnfP u) (hn : ∀ k, k < 5 → lwnf t k ≠ lwnf u k) : x.toNat ≠ y.toNat ∧ (zi H x.toNat (D.dI 4 0)).toNat ≠ (zi H y.toNat (D.dI 4 0)).toNat ∧ (zi H x.toNat (D.dI 4 1)).toNat ≠ (zi H y.toNat (D.dI 4 1)).toNat ∧ (zi H x.toNat (D.dI 4 2)).toNat ≠ (zi H y.toNat (D.dI 4 2)).toNat ∧ (zi H x.toNat (D.dI 4 3)).toNat ≠ (zi H y.toNat (D.dI 4 3)).toNat ∧ (zi H x.toNat (D.dI 4 4)).toNat ≠ (zi H y.toNat (D.dI 4 4)).toNat := by
  have f : ∀ k, k < 5 → (zi H x.toNat (D.dI 4 k)).toNat ≠ (zi H y.toNat (D.dI 4 k)).toNat := by
    intro k hk z
    have a := lw_fd hTT hT hx ht.1 (ht.2.2 k hk)
    have b := lw_fd hTT hT hy hu.1 (hu.2.2 k hk)
    rw [ht.2.1] at a
    rw [hu.2.1] at b
    rw [z] at a
    exact hn k hk (by omega)
  exact ⟨fun z => htu (by rw [z] at hx; omega), f 0 (by decide), f 1 (by decide), f 2 (by decide), f 3 (by decide), f 4 (by decide)⟩
/-- the change of worlds -/
theorem lw_sw {E : zE} {dC : Nat → ClassId} {dI : Nat → Nat → Nat} {cA : Nat → ClassId} {adK adV : Nat → Nat} {xs : Nat → Int32} (hx : p.tables.exec = Jvm.exec) (hb : c.code = code) (hml : c.maxLocals = 4) (hown : s.vm.findClass R_law = some m.cls) (hts : ∀ w ∈ lw_tbl, w.before #[Value.ref b] s = true) (hw : ∀ w ∈ zw, w.before #[Value.ref b] s = true) (hr : meth.sig.returnType = ret) (hlocks : meth.locks = false) (hX : va_X b L xs s s.heap) (hL : L ≤ 3072) (hbl : b < s.heap.size)
    (hc : ∀ (ci : Nat) (q : vw_C), zcl[ci]? = some q → u_Kn s q.1 q.2.1 q.2.2 (dC ci) (dI ci)) (ha : ∀ k : Nat, k ∈ [1, 2, 3, 4, 10, 12, 13, 14, 19] → ∃ (kA : Class) (comp : ClassId), s.vm.classes[cA k]? = some kA ∧ kA.kind = .array comp (zk_et zcl k) ∧ (10 ≤ k → s.vm.findClass (zk_cn zcl (k - 10)) = some comp) ∧ s.vm.findClass ("[" ++ (zk_et zcl k).toString) = some (cA k))
    (hS : zs_S adK adV (fun q => s.heap.size ≤ q) s s.heap) (hR : ∀ q ∈ zk_str, q.2.2.2 < 15 ∧ vk_R q.1 q.2.1 q.2.2.1 (adK q.2.2.2) s) (hap : zapt dI) (hE : E.1 = 4) : zk_W p l e room_1 s m #[Value.ref b] below meth c (lw_Z below #[Value.ref b] s) (zD1 dC dI cA s b L adK) E 16 lwA1 := by
  intro r ty H locs ls st I
  obtain ⟨i1, i2, i3, ⟨g1, g2, g3, g4, g5, g6, g7⟩, i5, i6, i7, i8, i9, i10, i11⟩ := I
  have t3 := g1 (3, 42) (show (3, 42) ∈ lwrt1 by decide)
  have t4 := g1 (4, 43) (show (4, 43) ∈ lwrt1 by decide)
  have o0 := g7 (0, []) List.mem_cons_self
  have hxt : ty (r 3).toNat = 43 := t3.2
  have hmt : ty (r 4).toNat = 44 := t4.2
  have o0 : zOP1 s b adK 0 ty H [] := o0
  have hd := zD2_d2 i5 hxt hmt hap
  have hstart := zstart i5 hxt hmt
  have hT2 := zsw_T (OP2 := zOP2 s b adK (zua (r 3).toNat (r 4).toNat dI H) dI) i5 rfl hxt hmt
  have hT2 : zk_T (zD2 dC dI cA s b L adK (zua (r 3).toNat (r 4).toNat dI H)) (zty2 (zua (r 3).toNat (r 4).toNat dI H) ty) H := hT2
  have u42 : zua (r 3).toNat (r 4).toNat dI H 42 = (r 3).toNat := rfl
  have u43 : zua (r 3).toNat (r 4).toNat dI H 43 = (r 4).toNat := rfl
  have urow : ∀ v ∈ zUp, zua (r 3).toNat (r 4).toNat dI H v.1 = zc H (zua (r 3).toNat (r 4).toNat dI H v.2.1) (zix dI v) := zua_row
  generalize hua : zua (r 3).toNat (r 4).toNat dI H = ua at hd hstart hT2 u42 u43 urow
  have y3 : zty2 ua ty (r 3).toNat = 43 := zty2_to (t := 42) hxt (Or.inr (List.mem_map.mpr ⟨42, by decide, u42⟩))
  have y4 : zty2 ua ty (r 4).toNat = 44 := zty2_to (t := 43) hmt (Or.inr (List.mem_map.mpr ⟨43, by decide, u43⟩))
  have hk2 : zk_kn (zD2 dC dI cA s b L adK ua) zcl s := by
    refine zkn_of (b := b) (adK := adK) (adV := adV) hts hc ha hS hR rfl (fun t a ht h => ?_) (fun ty' H' h => ?_)
    · have h : (if t < 15 then (if t < 15 then a = adK t else True) else zid t = [] ∨ a ∈ (zid t).map ua) := h
      rw [if_pos ht, if_pos ht] at h
      exact h
    · have h : zOP2 s b adK ua dI 0 ty' H' [] := h
      unfold zOP2 at h
      rw [if_neg (by decide)] at h
      exact h
  have hlow : ∀ a, a < s.heap.size → zty2 ua ty a = zty0 s.heap.size adK a := by
    intro a ha
    unfold zOP1 at o0
    rw [if_pos rfl] at o0
    have h1 := (o0.2 a ha).1
    obtain ⟨t, ht⟩ := zty0_in (adK := adK) ha
    rw [ht] at h1 ⊢
    have k := zmu_low t (zty0_lt ht).2.1
    have := zty2_to (ua := ua) h1 (Or.inl (by rw [k.1]; exact k.2))
    rw [k.1] at this
    exact this
  have hold : ∀ a, a < s.heap.size → H[a]? = s.heap[a]? := by
    intro a ha
    unfold zOP1 at o0
    rw [if_pos rfl] at o0
    exact (o0.2 a ha).2
  have op0 : (zD2 dC dI cA s b L adK ua).OP 0 (zty2 ua ty) H [] := by
    show zOP2 s b adK ua dI 0 _ H []
    unfold zOP2
    rw [if_neg (by decide)]
    unfold zOP1
    rw [if_pos rfl]
    exact ⟨rfl, fun a ha => ⟨hlow a ha, hold a ha⟩⟩
  let E2 : zE := (4, (lwn, r), (lwF2, lwB2), ((fun _ => False), zty2 ua ty, H), lwtop)
  have hcl : zk_clok (zD2 dC dI cA s b L adK ua) zcl zft := zclok_of (fun t => zkin_all zkin2 t)
  have hwd := zD2_wd hd
  have hstb : zk_stb (zD2 dC dI cA s b L adK ua) zPF zPB zSUf := ⟨zD2_stable hd, fun E => zr_SU_ok (D := zD2 dC dI cA s b L adK ua) (zRS_ok hd)⟩
  have hSCd : ∀ a n, (zD2 dC dI cA s b L adK ua).SC a n → a = b ∧ n = (L : Int) := fun a n h => h
  obtain ⟨t, ht⟩ := zty0_in (adK := adK) hbl
  have hlt := (zty0_lt ht).2.1
  have hSC : zk_SC (zD2 dC dI cA s b L adK ua) E2 s := by
    refine lw_SC (t := t) hX hL hSCd ?_ ?_ ?_ (hold b hbl)
    · show zty2 ua ty b = t + 1
      rw [hlow b hbl, ht]
    · have : ∀ t, t < 16 → (zTT t).1 ≠ 0 := by decide
      exact this t (by omega)
    · have : ∀ t, t < 16 → t ∉ lwB2 := by decide
      exact this t (by omega)
  have h70 : zk_70 (zD2 dC dI cA s b L adK ua) s := lw_70 (adK := adK) (fun ty' H' vs => by
    show zOP2 s b adK ua dI 70 ty' H' vs ↔ _
    unfold zOP2
    rw [if_neg (by decide)]) hSCd
  have W2 := lw_W2 (e := e) (l := l) (below := below) (D := zD2 dC dI cA s b L adK ua) (E := E2) rfl (lw_ctx hx hb hown hw hk2 hcl hstb) hSC rfl rfl rfl rfl (fun M => zk_XTL_ok (D := zD2 dC dI cA s b L adK ua) hx hb hml hown hw hk2 hr hlocks (zD2_stable hd) rfl rfl rfl rfl hSC h70 rfl (lwX2_all hwd)) (fun M => zUL_ok (D := zD2 dC dI cA s b L adK ua) zD2_rc rfl hd)
  have hrt : ∀ q ∈ lwrt, zk_rt r (zty2 ua ty) q := by
    intro q hq
    have k := lwrt_ok q hq
    rcases k with rfl | rfl | ⟨w, hw1, k1, k2, k3⟩
    · exact ⟨t3.1, y3⟩
    · exact ⟨t4.1, y4⟩
    · have h := g1 w hw1
      unfold zk_rt at h
      rw [k1] at h
      have hz : zid (zmu w.2) = [] ∨ (r q.1).toNat ∈ (zid (zmu w.2)).map ua := by
        rw [k2]
        rcases k3 with k3 | k3
        · exact Or.inl k3
        · obtain ⟨v, hv, v1, k3⟩ := k3
          refine Or.inr (List.mem_map.mpr ⟨v.1, v1, ?_⟩)
          rw [urow v hv]
          rcases k3 with ⟨k4, k5⟩ | ⟨k4, k5⟩
          · obtain ⟨⟨z1, z2, z3, z4, z5, z6⟩, hz, e1, e2, e3, e4, e5, e6, e7⟩ := k5
            dsimp only at e1 e2 e3 e4 e5 e6
            subst e1 e2 e3 e4 e5 e6
            obtain ⟨cell, c1, c2⟩ := (g2 _ hz).2
            have c3 : zc H (r 3).toNat (dI v.2.2.1 v.2.2.2) = (r q.1).toNat := lw_zc (x := q.1) c1 c2
            rw [k4, u42, ← c3]
            unfold zix
            rw [if_neg e7]
          · obtain ⟨⟨z1, z2, z3, z4, z5, z6⟩, hz, e1, e2, e3, e4, e5, e6, e7⟩ := k5
            dsimp only at e1 e2 e3 e4 e5 e6
            subst e1 e2 e3 e4 e5 e6
            obtain ⟨cell, c1, c2⟩ := (g2 _ hz).2
            have c3 : zc H (r 4).toNat (dI v.2.2.1 v.2.2.2) = (r q.1).toNat := lw_zc (x := q.1) c1 c2
            rw [k4, u43, ← c3]
            unfold zix
            rw [if_neg e7]
      have := zty2_to (ua := ua) h.2 hz
      rw [k2] at this
      exact ⟨h.1, this⟩
  refine W2 r (zty2 ua ty) H locs ls st ⟨?_, i2, i3, ⟨hrt, ?_, ?_, ?_, List.Pairwise.nil, g6, ?_⟩, hT2, ⟨Nat.le_refl _, fun _ _ h => h, fun _ _ _ => rfl, fun _ _ _ _ => rfl, fun _ _ _ _ _ => rfl, fun _ _ _ _ _ _ _ c0 c1 e0 e1 => by cases e0.symm.trans e1; rfl⟩, i7, fun _ _ => rfl, ?_, i10, ?_⟩
  · rw [hE] at i1
    exact i1
  · intro q hq
    obtain ⟨w, hwm, w1, w2, w3, w4⟩ := lwfm_ok q hq
    have h := hrt w hwm
    refine ⟨⟨w.2, ?_, w2, w3, w4⟩, (g2 q hq).2⟩
    rw [← w1]
    exact h.2
  · intro q hq
    obtain ⟨w, hwm, k1, k2, k3⟩ := lwem_ok q hq
    obtain ⟨h1, h2, h3⟩ := g3 q hq
    have h := (hrt w hwm).2
    rw [k1, k2] at h
    exact ⟨h, k3, h3⟩
  · intro q hq
    cases hq
  · intro q hq
    have hq : q ∈ ([((0 : Nat), ([] : List zV)), (100, []), (102, []), (109, []), (110, []), (132, []), (133, []), (150, [])] : List (Nat × List zV)) ++ lwopx := hq
    rcases List.mem_append.mp hq with hq | hq
    rotate_left
    · rcases List.mem_append.mp (show q ∈ lwne.map (fun q => ((259 : Nat), ([(2, q.1, 0), (2, q.2, 0)] : List zV))) ++ lwnm from hq) with hq | hq
      rotate_left
      · rw [List.mem_singleton.mp hq]
        have hzt := ((hd.1 100 (by decide) _ _ _).mp (hstart 100 (by decide))).1
        have n0 : ty (r 31 + 0).toNat = 31 + 1 := by
          rw [Int.add_zero]
          exact (g1 (31, 31) (by decide)).2
        have m0 : 0 ≤ r 31 + 0 ∧ zty2 ua ty (r 31 + 0).toNat = 32 := by
          rw [Int.add_zero]
          exact hrt (31, 31) (by decide)
        have n1 : ty (r 32 + 0).toNat = 130 + 1 := by
          rw [Int.add_zero]
          exact (g1 (32, 130) (by decide)).2
        have m1 : 0 ≤ r 32 + 0 ∧ zty2 ua ty (r 32 + 0).toNat = 32 := by
          rw [Int.add_zero]
          exact hrt (32, 31) (by decide)
        have n2 : ty (r 33 + 0).toNat = 131 + 1 := by
          rw [Int.add_zero]
          exact (g1 (33, 131) (by decide)).2
        have m2 : 0 ≤ r 33 + 0 ∧ zty2 ua ty (r 33 + 0).toNat = 32 := by
          rw [Int.add_zero]
          exact hrt (33, 31) (by decide)
        have n3 : ty (r 34 + 0).toNat = 132 + 1 := by
          rw [Int.add_zero]
          exact (g1 (34, 132) (by decide)).2
        have m3 : 0 ≤ r 34 + 0 ∧ zty2 ua ty (r 34 + 0).toNat = 32 := by
          rw [Int.add_zero]
          exact hrt (34, 31) (by decide)
        have p0 := lw_df (D := zD1 dC dI cA s b L adK) rfl i5 n0 n1 (by decide) lwnf_0 lwnf_1 (by decide)
        have p1 := lw_df (D := zD1 dC dI cA s b L adK) rfl i5 n0 n2 (by decide) lwnf_0 lwnf_2 (by decide)
        have p2 := lw_df (D := zD1 dC dI cA s b L adK) rfl i5 n0 n3 (by decide) lwnf_0 lwnf_3 (by decide)
        have p3 := lw_df (D := zD1 dC dI cA s b L adK) rfl i5 n1 n2 (by decide) lwnf_1 lwnf_2 (by decide)
        have p4 := lw_df (D := zD1 dC dI cA s b L adK) rfl i5 n1 n3 (by decide) lwnf_1 lwnf_3 (by decide)
        have p5 := lw_df (D := zD1 dC dI cA s b L adK) rfl i5 n2 n3 (by decide) lwnf_2 lwnf_3 (by decide)
        exact (hd.1 463 (by decide) _ _ _).mpr ⟨hzt, r 31 + 0, r 32 + 0, r 33 + 0, r 34 + 0, rfl, m0, m1, m2, m3, p0, p1, p2, p3, p4, p5⟩
      obtain ⟨n, hn, rfl⟩ := List.mem_map.mp hq
      obtain ⟨w1, hw1, w2, hw2, k1, k2, k3⟩ := lwne_ok n hn
      have h1 := (g1 w1 hw1).2
      have h2 := (g1 w2 hw2).2
      have hzt := ((hd.1 100 (by decide) _ _ _).mp (hstart 100 (by decide))).1
      refine (hd.1 259 (by decide) _ _ _).mpr ⟨hzt, r n.1 + 0, r n.2 + 0, rfl, fun z => ?_⟩
      rw [← k1, ← k2] at z
      have e : r w1.1 = r w2.1 := by omega
      rw [e] at h1
      exact k3 (by omega)
    simp only [List.mem_cons, List.not_mem_nil, or_false] at hq
    rcases hq with rfl | rfl | rfl | rfl | rfl | rfl | rfl | rfl
    · exact op0
    all_goals exact hstart _ (by decide)
  · show (lwtop : Int) = lwtop
    rfl
  · intro q hq
    cases hq
end
/-- from the entry, for every script of at most 3072 ints, the law comes to its end with true -/
theorem whole_start {p : Program} {e : Env} {s : State} {m : MethodId} {below : List Frame} {meth : Method} {c : Code} (l : Launch) {b L : Nat} {xs : Nat → Int32} (hL : L ≤ 3072) (C0 : lw_At p s m meth c b L xs) : W p l e room_1 s m #[Value.ref b] below meth c s.heap [] 0 0 (lw_Z below #[Value.ref b] s) (entryFrame m ([Value.ref b] : List Value).toArray 4) := by
  obtain ⟨hx, hb, hr, hml, hown, hts, hX, hbl, hlocks, hgv⟩ := id C0
  have hw : ∀ w ∈ zw, w.before #[Value.ref b] s = true := fun w h => hts w (List.mem_filter.mp h).1
  obtain ⟨cf, hcf⟩ := Classical.axiomOfChoice (lw_cls hts hw)
  obtain ⟨af, haf⟩ := Classical.axiomOfChoice (lw_arr hts hw)
  obtain ⟨adK, adV, hS, hR⟩ := lw_txt hts hgv
  have hc : ∀ (ci : Nat) (q : vw_C), zcl[ci]? = some q → u_Kn s q.1 q.2.1 q.2.2 ((fun ci => (cf ci).1) ci) ((fun ci => (cf ci).2) ci) := fun ci q hq => hcf ci q hq
  have hk1 : zk_kn (zD1 (fun ci => (cf ci).1) (fun ci => (cf ci).2) af s b L adK) zcl s := by
    refine zkn_of (b := b) (adK := adK) (adV := adV) hts hc (fun k hk => haf k hk) hS hR rfl (fun t a ht h => ?_) (fun ty' H' h => h)
    have h : (if t < 15 then a = adK t else True) := h
    rw [if_pos ht] at h
    exact h
  have hcl : zk_clok (zD1 (fun ci => (cf ci).1) (fun ci => (cf ci).2) af s b L adK) zcl zft := zclok_of (fun t => zkin_all zkin1 t)
  have hstb : zk_stb (zD1 (fun ci => (cf ci).1) (fun ci => (cf ci).2) af s b L adK) zPF1 zPB1 zk_noSU := ⟨zD1_stable, fun E => zk_noSU_ok⟩
  have C1 := lw_ctx hx hb hown hw hk1 hcl hstb (meth := meth)
  have hap := zap_of C1.2.2.2.1
  let r1 : Nat → Int := fun n => if n = 1 then (b : Int) else if n = 2 then (L : Int) else 0
  let E1 : zE := (4, (3, r1), (lwF1, lwB1), ((fun _ => False), zty0 s.heap.size adK, s.heap), 1)
  have hSCd : ∀ a n, (zD1 (fun ci => (cf ci).1) (fun ci => (cf ci).2) af s b L adK).SC a n → a = b ∧ n = (L : Int) := fun a n h => h
  obtain ⟨t, ht⟩ := zty0_in (adK := adK) hbl
  have hlt := (zty0_lt ht).2.1
  have hSC : zk_SC (zD1 (fun ci => (cf ci).1) (fun ci => (cf ci).2) af s b L adK) E1 s := by
    refine lw_SC (t := t) hX hL hSCd ht ?_ ?_ rfl
    · have : ∀ t, t < 16 → (zTT1 t).1 ≠ 0 := by decide
      exact this t (by omega)
    · have : ∀ t, t < 16 → t ∉ lwB1 := by decide
      exact this t (by omega)
  have h70 : zk_70 (zD1 (fun ci => (cf ci).1) (fun ci => (cf ci).2) af s b L adK) s := lw_70 (adK := adK) (fun ty' H' vs => Iff.rfl) hSCd
  have W1 := zk_exec_ok (p := p) (l := l) (e := e) (R := room_1) (below := below) (Q := lw_Z below #[Value.ref b] s) (F := lwF1) (B := lwB1) (FZ := fun _ => []) (LM := fun _ => []) (AT := fun _ => none) (AN := zk_ans lwAN1) (UL := zULf0) (XT := zk_XTL zTT1 zPF1 lwF1 zPB1 lwB1 3 lwX1) (Or.inr ⟨fun _ => rfl, fun _ => rfl⟩) C1 (E := E1) hSC rfl rfl rfl rfl (zk_XTL_ok hx hb hml hown hw hk1 hr hlocks zD1_stable rfl rfl rfl rfl hSC h70 rfl (lwX1_all zD1_wd)) (zUL0_ok zD1_rc) (fun M hM n' B' hB' => by
    unfold zk_ans at hB'
    split at hB'
    · cases hB'
    · rename_i l' hl
      have h1 : (n', l') = (16, [lwA1]) := List.mem_singleton.mp (zk_al_mem hl)
      cases h1
      rw [List.mem_singleton.mp hB']
      exact lw_sw hx hb hml hown hts hw hr hlocks hX hL hbl hc (fun k hk => haf k hk) hS hR hap rfl) 40 0 lwA0 lw_e1
  have hl := lv_entry ([.ref b]) (n := 4) (Nat.le_of_ble_eq_true rfl)
  rw [lg_entry_eq]
  have hl2 : lv_has (lg_sl ([.ref b]) ++ List.replicate (4 - (lg_sl ([.ref b])).length) Slot.unset).toArray 4 [(0, .ref b)] := hl
  refine W1 r1 (zty0 s.heap.size adK) s.heap [] _ [] ⟨hl2, rfl, ?_, ⟨?_, ?_, ?_, ?_, List.Pairwise.nil, ?_, ?_⟩, ⟨Nat.le_refl _, fun a t ha => ?_⟩, ⟨Nat.le_refl _, fun _ _ h => h, fun _ _ _ => rfl, fun _ _ _ _ => rfl, fun _ _ _ _ _ => rfl, fun _ _ _ _ _ _ _ c0 c1 e0 e1 => by cases e0.symm.trans e1; rfl⟩, rfl, fun _ _ => rfl, rfl, fun q hq => (by cases hq), fun q hq => (by cases hq)⟩
  · refine ⟨?_, ?_, ?_, ?_⟩
    · intro q hq
      have hq : q ∈ [((0 : Nat), (0 : Int), (0 : Int)), (2, 0, 3072)] := hq
      simp only [List.mem_cons, List.not_mem_nil, or_false] at hq
      rcases hq with rfl | rfl
      · show (0 : Int) ≤ 0 ∧ (0 : Int) ≤ 0
        omega
      · show (0 : Int) ≤ (L : Int) ∧ (L : Int) ≤ 3072
        omega
    · intro q hq
      cases hq
    · intro q hq
      cases hq
    · intro q hq
      cases hq
  · intro q hq
    cases hq
  · intro q hq
    cases hq
  · intro q hq
    cases hq
  · intro q hq
    cases hq
  · intro q hq
    have hq : q ∈ [((1 : Nat), (((0 : Nat), (2 : Nat), (0 : Int)) : zV))] := hq
    rw [List.mem_singleton.mp hq]
    refine ⟨by show (0 : Int) ≤ (b : Int); omega, ?_, ?_⟩
    · show ((b : Int)).toNat = b
      omega
    · show (L : Int) + 0 = (L : Int)
      omega
  · intro q hq
    have hq : q ∈ [((0 : Nat), ([] : List zV))] := hq
    rw [List.mem_singleton.mp hq]
    show zOP1 s b adK 0 _ s.heap []
    unfold zOP1
    rw [if_pos rfl]
    exact ⟨rfl, fun a ha => ⟨rfl, rfl⟩⟩
  · obtain ⟨h1, h2, h3⟩ := zty0_lt ha
    have k : ∀ t, t < 16 → (zTT1 t).1 = 9 := by decide
    show if (zTT1 t).1 = 9 then (if t < 15 then a = adK t else True) ∧ a < s.heap.size else _
    rw [if_pos (k t (by omega))]
    refine ⟨?_, h1⟩
    split
    · rename_i h
      exact h3 h
    · trivial
