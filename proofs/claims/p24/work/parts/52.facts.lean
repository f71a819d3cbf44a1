/-! FURTHER FACTS: 0 the texts, 21 to 24 recorded arithmetic, 60 absolute values. The method's own lemmas. -/
def zSUf : zSU := zr_SU zTT zRSl
/-- a new symbol with an interval, a difference and a fact -/
def ul_new (lo hi : Int) (ds : List (Nat × Nat × Int)) (op : Nat × List zV) (A : zA) : zA := (A.1, A.2.1, ((A.2.2.2.2.1, lo, hi) :: A.2.2.1.1, ds ++ A.2.2.1.2.1, A.2.2.1.2.2), (A.2.2.2.1.1, A.2.2.2.1.2.1, A.2.2.2.1.2.2.1, A.2.2.2.1.2.2.2.1, A.2.2.2.1.2.2.2.2.1, op :: A.2.2.2.1.2.2.2.2.2), (A.2.2.2.2.1 + 1, A.2.2.2.2.2))
def ul_i64 (P : zP) (v : zV) : Bool := decide (v.1 = 1) && zk_inb P v (-9223372036854775808) 9223372036854775807
/-- 2: behind a rest, its absolute value -/
def ul_rem (n0 : Nat) (A : zA) : List zA := match A.2.1, zk_opf A.2.2.2.1.2.2.2.2.2 24, zk_opf A.2.2.2.1.2.2.2.2.2 60 with
  | q :: _, some [x, y, q'], some [y', a] => if q' = q ∧ y' = y ∧ zk_nz A.2.2.1 y = true ∧ zk_ok n0 A = true ∧ ul_i64 A.2.2.1 x = true ∧ ul_i64 A.2.2.1 y = true ∧ ul_i64 A.2.2.1 q = true ∧ zk_fL A.2.2.2.2.1 [a, q] = true then [ul_new 0 9223372036854775808 [(A.2.2.2.2.1, a.2.1, a.2.2 - 1)] (60, [q, (1, A.2.2.2.2.1, 0)]) A] else [A]
  | _, _, _ => [A]
/-- 4: behind a - a / b * b -/
def ul_sub (A : zA) : List zA := match A.2.1, zk_opf A.2.2.2.1.2.2.2.2.2 23, zk_opf A.2.2.2.1.2.2.2.2.2 22, zk_opf A.2.2.2.1.2.2.2.2.2 21 with
  | z :: _, some [a, b, q], some [q', b', m], some [a', m', z'] => if q' = q ∧ b' = b ∧ a' = a ∧ m' = m ∧ z' = z ∧ zk_inb A.2.2.1 a 0 2147483648 = true ∧ zk_inb A.2.2.1 b 1 2147483648 = true ∧ ul_i64 A.2.2.1 q = true ∧ ul_i64 A.2.2.1 m = true ∧ ul_i64 A.2.2.1 z = true then
      (match zk_le A.2.2.1 (0, 0, 0) z 0 with | none => [] | some P1 => zk_spA (zk_le P1 z b (-1)) A) else [A]
  | _, _, _, _ => [A]
/-- 5: a difference that was taken before -/
def ul_cse (A : zA) : List zA := match A.2.1, zk_opf A.2.2.2.1.2.2.2.2.2 25 with
  | z :: S, some [v, w, z'] => (match A.2.2.2.1.2.2.2.2.2.find? (fun q => Nat.beq q.1 25 && (match q.2 with | [v', w', u] => decide (v' = v ∧ w' = w ∧ u ≠ z) | _ => false)) with
    | some q => (match q.2 with
      | [_, _, u] => if z' = z ∧ z.1 = 0 ∧ u.1 = 0 ∧ zk_inb A.2.2.1 z (-2147483648) 2147483647 = true ∧ zk_inb A.2.2.1 u (-2147483648) 2147483647 = true then [zk_ss (u :: S) A] else [A]
      | _ => [A])
    | none => [A])
  | _, _ => [A]
/-- 1000 + i: the absolute value of local i -/
def ul_abs (n0 i : Nat) (A : zA) : List zA := match zk_find A.1 i with
  | some v => if zk_ok n0 A = true ∧ ul_i64 A.2.2.1 v = true ∧ zk_fL A.2.2.2.2.1 [v] = true then [ul_new 0 9223372036854775808 [] (60, [v, (1, A.2.2.2.2.1, 0)]) A] else [A]
  | none => [A]
def zULf0 : Nat → Nat → zA → List zA := fun n0 j A => if Nat.beq j 2 then ul_rem n0 A else if Nat.beq j 4 then ul_sub A else if Nat.beq j 5 then ul_cse A else if Nat.ble 1000 j then ul_abs n0 (j - 1000) A else [A]
theorem zk_m64tmod {a b : Int} (ha : -9223372036854775808 ≤ a ∧ a ≤ 9223372036854775807) (hb : -9223372036854775808 ≤ b ∧ b ≤ 9223372036854775807) : Int64.ofInt a - Int64.ofInt a / Int64.ofInt b * Int64.ofInt b = Int64.ofInt (a.tmod b) := by
  have e1 : Int64.minValue.toInt = -9223372036854775808 := by decide
  have e2 : Int64.maxValue.toInt = 9223372036854775807 := by decide
  rw [← Int64.ofInt_tdiv (by omega) (by omega) (by omega) (by omega), ← Int64.ofInt_mul, ← Int64.ofInt_sub]
  congr 1
  have := Int.tdiv_mul_add_tmod a b
  omega
theorem ul_eq64 {a b : Int} (ha : -9223372036854775808 ≤ a ∧ a ≤ 9223372036854775807) (hb : -9223372036854775808 ≤ b ∧ b ≤ 9223372036854775807) (h : Int64.ofInt a = Int64.ofInt b) : a = b := by
  have := congrArg Int64.toInt h
  rwa [zk_i64 ha.1 ha.2, zk_i64 hb.1 hb.2] at this
theorem zk_opf_mem : ∀ {l : List (Nat × List zV)} {j : Nat} {vs : List zV}, zk_opf l j = some vs → (j, vs) ∈ l
  | [], _, _, h => by simp [zk_opf] at h
  | q :: l, j, vs, h => by
    unfold zk_opf at h
    split at h
    · rename_i e
      cases h
      rw [← e]
      exact List.mem_cons_self
    · exact List.mem_cons_of_mem _ (zk_opf_mem h)
section
variable {D : zD} {E : zE} {A : zA} {r : Nat → Int} {ty : Nat → Nat} {H : Heap} {locs : List Loc} {ls : Array Slot} {st : List Value}
theorem ul_new_ok (hok : zk_ok E.2.1.1 A = true) (I : zk_I D E A r ty H locs ls st) {lo hi z : Int} {ds : List (Nat × Nat × Int)} {op : Nat × List zV} (hz : lo ≤ z ∧ z ≤ hi) (hd : ∀ q ∈ ds, zk_u r A.2.2.2.2.1 z q.1 ≤ zk_u r A.2.2.2.2.1 z q.2.1 + q.2.2) (ho : D.OP op.1 ty H (op.2.map (zk_n (zk_u r A.2.2.2.2.1 z)))) : zk_I D E (ul_new lo hi ds op A) (zk_u r A.2.2.2.2.1 z) ty H locs ls st := by
  have g := zk_fresh (zk_okP hok) I.2.2.1 hz hd 1
  have hn := zk_I_new (r' := zk_u r A.2.2.2.2.1 z) hok (fun y hy => zk_u_ne hy) I
  obtain ⟨a1, a2, a3, ⟨b1, b2, b3, b4, b5, b6, b7⟩, a5, a6, a7, a8, a9, a10⟩ := hn
  refine ⟨a1, a2, g, ⟨b1, b2, b3, b4, b5, b6, fun q hq => ?_⟩, a5, a6, a7, a8, a9, a10⟩
  rcases List.mem_cons.mp hq with rfl | hq
  · exact ho
  · exact b7 q hq
theorem ul_i64_ok {P : zP} {v : zV} (hP : zk_P r P) (h : ul_i64 P v = true) : v.1 = 1 ∧ -9223372036854775808 ≤ zk_n r v ∧ zk_n r v ≤ 9223372036854775807 := by
  simp only [ul_i64, Bool.and_eq_true, decide_eq_true_eq] at h
  exact ⟨h.1, zk_inb_ok hP h.2⟩
theorem zUL0_ok (hD : zk_rc D) : zk_ULok D E zULf0 := by
  intro j A r ty H locs ls st I
  have hself : ∃ A' ∈ [A], ∃ r', zk_I D E A' r' ty H locs ls st ∧ A'.2.2.2.2.2.2 = A.2.2.2.2.2.2 := ⟨A, List.mem_singleton.mpr rfl, r, I, rfl⟩
  have hP := I.2.2.1
  have hO := I.2.2.2.1.2.2.2.2.2.2
  have h0 := I.2.2.2.2.2.2.1
  unfold zULf0
  split
  · unfold ul_rem
    split
    · rename_i q S x y q' y' a hS h24 h60
      split
      · rename_i hc
        obtain ⟨rfl, rfl, hnz, hok, hx, hy, hq, hf⟩ := hc
        have o1 := (hD.1 24 (by decide) _ _ _ _ _).mp (hO _ (zk_opf_mem h24))
        have o2 := (hD.2.1 _ _ _ _).mp (hO _ (zk_opf_mem h60))
        have bx := ul_i64_ok hP hx
        have bY := ul_i64_ok hP hy
        have bq := ul_i64_ok hP hq
        have nz := zk_nz_ok hP hnz
        have o1 : Int64.ofInt (zk_n r x) - Int64.ofInt (zk_n r x) / Int64.ofInt (zk_n r y') * Int64.ofInt (zk_n r y') = Int64.ofInt (zk_n r q') := by
          have := Option.some.inj o1
          exact Value.long.inj this
        rw [zk_m64tmod bx.2 bY.2] at o1
        have ht : (zk_n r x).tmod (zk_n r y') = zk_n r q' := by
          refine ul_eq64 ?_ bq.2 o1
          have k := Int.natAbs_tmod (zk_n r x) (zk_n r y')
          have k2 : (zk_n r x).natAbs % (zk_n r y').natAbs < (zk_n r y').natAbs := Nat.mod_lt _ (by omega)
          omega
        have hlt : (zk_n r q').natAbs < (zk_n r y').natAbs := by
          rw [← ht, Int.natAbs_tmod]
          exact Nat.mod_lt _ (by omega)
        simp only [zk_fL, List.all_cons, List.all_nil, Bool.and_true, Bool.and_eq_true] at hf
        have fa := zk_blt hf.1
        have fq := zk_blt hf.2
        refine ⟨_, List.mem_singleton.mpr rfl, zk_u r A.2.2.2.2.1 ((zk_n r q').natAbs : Int), ul_new_ok hok I ⟨by omega, by omega⟩ (fun d hd => ?_) ?_, rfl⟩
        · rw [List.mem_singleton.mp hd]
          dsimp only
          rw [zk_u_n, zk_u_ne fa]
          have e : zk_n r a = r a.2.1 + a.2.2 := rfl
          omega
        · show D.OP 60 ty H [zk_n _ q', zk_n _ (1, A.2.2.2.2.1, 0)]
          rw [hD.2.1, zk_n_new fq, zk_n_n]
      · exact hself
    · exact hself
  split
  · unfold ul_sub
    split
    · rename_i z S a b q q' b' m a' m' z' hS h23 h22 h21
      split
      · rename_i hc
        obtain ⟨rfl, rfl, rfl, rfl, rfl, ha, hb, hq, hm, hz⟩ := hc
        have o1 := (hD.1 23 (by decide) _ _ _ _ _).mp (hO _ (zk_opf_mem h23))
        have o2 := (hD.1 22 (by decide) _ _ _ _ _).mp (hO _ (zk_opf_mem h22))
        have o3 := (hD.1 21 (by decide) _ _ _ _ _).mp (hO _ (zk_opf_mem h21))
        have bA := zk_inb_ok hP ha
        have bB := zk_inb_ok hP hb
        have bq := ul_i64_ok hP hq
        have bm := ul_i64_ok hP hm
        have bz := ul_i64_ok hP hz
        have o1 : Int64.ofInt (zk_n r a') / Int64.ofInt (zk_n r b') = Int64.ofInt (zk_n r q') := Value.long.inj (Option.some.inj o1)
        have o2 : Int64.ofInt (zk_n r q') * Int64.ofInt (zk_n r b') = Int64.ofInt (zk_n r m') := Value.long.inj (Option.some.inj o2)
        have o3 : Int64.ofInt (zk_n r a') - Int64.ofInt (zk_n r m') = Int64.ofInt (zk_n r z') := Value.long.inj (Option.some.inj o3)
        rw [zk_m64div (by omega) (by omega) (by omega) (by omega)] at o1
        have d1 : 0 ≤ zk_n r a' / zk_n r b' := Int.ediv_nonneg (by omega) (by omega)
        have d2 : zk_n r a' / zk_n r b' ≤ zk_n r a' := Int.ediv_le_self _ (by omega)
        have e1 := ul_eq64 ⟨by omega, by omega⟩ bq.2 o1
        rw [← Int64.ofInt_mul] at o2
        have d3 : zk_n r q' * zk_n r b' ≤ zk_n r a' := by rw [← e1]; exact Int.ediv_mul_le _ (by omega)
        have d4 : 0 ≤ zk_n r q' * zk_n r b' := Int.mul_nonneg (by omega) (by omega)
        have e2 := ul_eq64 ⟨by omega, by omega⟩ bm.2 o2
        rw [← Int64.ofInt_sub] at o3
        have e3 := ul_eq64 ⟨by omega, by omega⟩ bz.2 o3
        have d5 := Int.ediv_mul_add_emod (zk_n r a') (zk_n r b')
        have d6 := Int.emod_lt_of_pos (zk_n r a') (b := zk_n r b') (by omega)
        have d7 := Int.emod_nonneg (zk_n r a') (b := zk_n r b') (by omega)
        rw [e1] at d5
        obtain ⟨P1, f1, g1⟩ := zk_le_ok hP (v := (0, 0, 0)) (w := z') (c := 0) (by
          have : zk_n r (0, 0, 0) = 0 := by unfold zk_n; dsimp only; omega
          omega)
        obtain ⟨P2, f2, g2⟩ := zk_le_ok g1 (v := z') (w := b') (c := -1) (by omega)
        rw [f1]
        dsimp only
        rw [f2]
        refine ⟨zk_sp P2 A.2.1 A, List.mem_singleton.mpr rfl, r, ?_, rfl⟩
        have := zk_I_sp (S := A.2.1) I g2
        rw [← I.2.1] at this
        exact this
      · exact hself
    · exact hself
  split
  · unfold ul_cse
    split
    · rename_i z S v w z' hS h25
      split
      · rename_i q hq
        split
        · rename_i v' w' u hq2
          split
          · rename_i hc
            obtain ⟨rfl, hz1, hu1, hz, hu⟩ := hc
            have m1 := List.mem_of_find?_eq_some hq
            have m2 := List.find?_some hq
            simp only [hq2, Bool.and_eq_true, decide_eq_true_eq] at m2
            obtain ⟨m3, rfl, rfl, -⟩ := m2
            have m3 := Nat.eq_of_beq_eq_true m3
            have m1' : (25, [v', w', u]) ∈ A.2.2.2.1.2.2.2.2.2 := by
              have : q = (25, [v', w', u]) := Prod.ext m3 hq2
              rw [← this]; exact m1
            have o1 := (hD.2.2.1 25 (by decide) _ _ _ _ _).mp (hO _ (zk_opf_mem h25))
            have o2 := (hD.2.2.1 25 (by decide) _ _ _ _ _).mp (hO _ m1')
            have e1 := o1.symm.trans o2
            have e1 : Int32.ofInt (zk_n r z') = Int32.ofInt (zk_n r u) := Value.int.inj (Option.some.inj e1)
            refine ⟨_, List.mem_singleton.mpr rfl, r, ?_, rfl⟩
            have g := zk_I_ss (S := u :: S) I
            have hst := I.2.1
            rw [hS] at hst
            have : st = (u :: S).map (zk_c r) := by
              rw [hst, List.map_cons, List.map_cons, zk_e0 hz1, zk_e0 hu1, e1]
            rw [this]
            exact g
          · exact hself
        · exact hself
      · exact hself
    · exact hself
  split
  · unfold ul_abs
    split
    · rename_i v hv
      split
      · rename_i hc
        obtain ⟨hok, hi, hf⟩ := hc
        have bv := ul_i64_ok hP hi
        simp only [zk_fL, List.all_cons, List.all_nil, Bool.and_true] at hf
        refine ⟨_, List.mem_singleton.mpr rfl, zk_u r A.2.2.2.2.1 ((zk_n r v).natAbs : Int), ul_new_ok hok I ⟨by omega, by omega⟩ (fun d hd => by cases hd) ?_, rfl⟩
        show D.OP 60 ty H [zk_n _ v, zk_n _ (1, A.2.2.2.2.1, 0)]
        rw [hD.2.1, zk_n_new (zk_blt hf), zk_n_n]
      · exact hself
    · exact hself
  · exact hself
end
/-- 10 to 999, 2000 and up: rules -/
def zULf : Nat → Nat → zA → List zA := fun n0 j A => if Nat.ble 10 j && (Nat.blt j 1000 || Nat.ble 2000 j) then zr_UL zTT zRUl j A else zULf0 n0 j A
theorem zUL_ok {D : zD} {E : zE} {ua : Nat → Nat} (hrc : zk_rc D) (hTT : D.TT = zTT) (hD : zk_d2 D ua) : zk_ULok D E zULf := by
  intro j A r ty H locs ls st I
  unfold zULf
  split
  · rw [← hTT]
    exact zr_UL_ok (zRU_ok hD) I
  · exact zUL0_ok hrc j A r ty H locs ls st I
/-- the world of the methods, and that of the constructors -/
def zWD (D : zD) : Prop := zk_wd D zcl zft zTT zPF zPB zSUf zULf
def zWD1 (D : zD) : Prop := zk_wd D zcl zft zTT1 zPF1 zPB1 zk_noSU zULf0 ∧ zk_fr D
def zC (D : zD) (l : Launch) (M : zM) : Prop := zk_con D zcl l M.y (zk_ws M) M.rm M.cs
def zCs (D : zD) (l : Launch) : List zX → Prop
  | [] => True
  | x :: t => zC D l x.2.2.2 ∧ zCs D l t
theorem zCs_ok {D : zD} {l : Launch} : ∀ {HX : List zX}, zCs D l HX → ∀ x ∈ HX, zk_con D zcl l x.2.2.2.y (zk_ws x.2.2.2) x.2.2.2.rm x.2.2.2.cs
  | [], _, x, hx => by cases hx
  | y :: t, h, x, hx => by
    rcases List.mem_cons.mp hx with e | e
    · subst e; exact h.1
    · exact zCs_ok h.2 x e
theorem zk_methC {D : zD} {l : Launch} {L : zL} {own : String} {oc : Nat} {ini : Bool} {M : zM} {FTl : List (Nat × List (Nat × Instr × Nat))} {h : zH} {HX : List zX} {fuel : Nat} {ps : List (Nat × Nat × Nat × Nat × Nat)}
    (hQ : h.2.1 = [] ∧ h.2.2.2.1 = []) (hD : zWD D) (hL : zk_pool zcl own L) (hid : zk_idb zcl own oc ini M = true) (hTX : zk_txok own h.2.2.2.2.1) (hFT : zk_ftb M.b FTl = true) (hC : zCs D l HX) (hw : zk_hwsb zcl own M.rm HX ps = true) (hrun : zk_run zcl zft zTT zPF zPB zSUf L oc ini M FTl h zULf HX fuel = true) : zC D l M :=
  zk_meth (Or.inr hQ) hD hL hid hTX hFT (zk_hcs (zCs_ok hC) hw) hrun
theorem zk_methC1 {D : zD} {l : Launch} {L : zL} {own : String} {oc : Nat} {ini : Bool} {M : zM} {FTl : List (Nat × List (Nat × Instr × Nat))} {h : zH} {HX : List zX} {fuel : Nat} {ps : List (Nat × Nat × Nat × Nat × Nat)}
    (hD : zWD1 D) (hL : zk_pool zcl own L) (hid : zk_idb zcl own oc ini M = true) (hTX : zk_txok own h.2.2.2.2.1) (hFT : zk_ftb M.b FTl = true) (hC : zCs D l HX) (hw : zk_hwsb zcl own M.rm HX ps = true) (hrun : zk_run zcl zft zTT1 zPF1 zPB1 zk_noSU L oc ini M FTl h zULf0 HX fuel = true) : zC D l M :=
  zk_meth (Or.inl hD.2) hD.1 hL hid hTX hFT (zk_hcs (zCs_ok hC) hw) hrun
