/-! THE CHECKER, 8: instructions that don't touch the heap. -/
abbrev zk_nx (A : zA) : Nat := A.2.2.2.2.1
def zk_ap (q : zV × zP) (S : List zV) (A : zA) : zA := (A.1, q.1 :: S, q.2, A.2.2.2.1, (A.2.2.2.2.1 + 1, A.2.2.2.2.2))
def zk_un (o n : Nat) (P : zP) (v : zV) : zV × zP := match o with
  | 0 => if zk_inb P v (-2147483648) 2147483647 then ((1, v.2), P) else zk_nw 1 n (-9223372036854775808) 9223372036854775807 [] P
  | 1 => ((0, v.2), P)
  | _ => if zk_inb P v (-128) 127 then (v, P) else zk_nw 0 n (-128) 127 [] P
def zk_lc (n : Nat) (P : zP) (v w : zV) : zV × zP := ((0, n, 0), ((n, -1, 1) :: P.1, P.2.1, (n, v, w) :: P.2.2.1, P.2.2.2))
section
variable {p : Program} {l : Launch} {e : Env} {R : Room} {s : State} {m : MethodId} {args : Array Value} {below : List Frame} {meth : Method} {c : Code} {Q : State → Prop} {cc : ByteArray} {pc : Nat} {D : zD} {E : zE} {A : zA} {K : Nat → zA → Bool}
theorem zk_okS {n0 : Nat} (h : zk_ok n0 A = true) {v : zV} (hv : v ∈ A.2.1) : v.2.1 < A.2.2.2.2.1 := by
  simp only [zk_ok, zk_fA, Bool.and_eq_true] at h
  exact zk_blt (List.all_eq_true.mp h.2.2.1.1.1.2 v hv)
theorem zk_okP {n0 : Nat} (h : zk_ok n0 A = true) : zk_fP A.2.2.2.2.1 A.2.2.1 = true := by
  simp only [zk_ok, zk_fA, Bool.and_eq_true] at h
  exact h.2.2.1.1.2
theorem zk_ok0 {n0 : Nat} (h : zk_ok n0 A = true) : 0 < A.2.2.2.2.1 := by
  simp only [zk_ok, zk_fA, Bool.and_eq_true] at h
  exact zk_blt h.1
/-- an answer is computed: q instead of what the stack had above S -/
theorem zk_row_ap {q : zV × zP} {S : List zV} {n : Nat} (hok : zk_ok E.2.1.1 A = true) (hS : ∀ v ∈ S, v ∈ A.2.1)
    (row : ∀ {H : Heap} {locs : List Loc} {cells slots : Nat} {ls : Array Slot} {r : Nat → Int}, zk_P r A.2.2.1 → r 0 = 0 → ∃ x : Value, zk_G r A.2.2.2.2.1 q x ∧ (W p l e R s m args below meth c H locs cells slots Q (F0 m n ls (x :: S.map (zk_c r))) → W p l e R s m args below meth c H locs cells slots Q (F0 m pc ls (A.2.1.map (zk_c r)))))
    (k : zk_W p l e R s m args below meth c Q D E n (zk_ap q S A)) : zk_W p l e R s m args below meth c Q D E pc A := by
  intro r ty H locs ls st h
  have h2 := h.2.1
  subst h2
  obtain ⟨x, ⟨z, g1, g2, g3⟩, g4⟩ := row (H := H) (locs := locs) (cells := A.2.2.2.2.2.2.1) (slots := A.2.2.2.2.2.2.2) (ls := ls) h.2.2.1 h.2.2.2.2.2.2.1
  refine g4 ?_
  have hn := zk_I_new (r' := zk_u r A.2.2.2.2.1 z) hok (fun y hy => zk_u_ne hy) h
  have eS : S.map (zk_c (zk_u r A.2.2.2.2.1 z)) = S.map (zk_c r) := by
    apply List.map_congr_left
    intro v hv
    exact zk_c_new (zk_okS hok (hS v hv))
  refine k (zk_u r A.2.2.2.2.1 z) ty H locs ls (x :: S.map (zk_c r)) ?_
  obtain ⟨a1, a2, a3, a4, a5, a6, a7, a8, a9, a10⟩ := hn
  exact ⟨a1, by show x :: _ = (q.1 :: S).map _; rw [List.map_cons, g2, eS], g1, a4, a5, a6, a7, a8, a9, a10⟩
theorem zk_row_bin {o : Nat} {v w : zV} {S : List zV} {n : Nat} (hok : zk_ok E.2.1.1 A = true) (hS : A.2.1 = w :: v :: S) {x : (Nat → Int) → Value} (hx : ∀ r : Nat → Int, zk_P r A.2.2.1 → zk_f o (zk_c r v) (zk_c r w) = some (x r))
    (row : ∀ {H : Heap} {locs : List Loc} {cells slots : Nat} {ls : Array Slot} {r : Nat → Int}, zk_P r A.2.2.1 → (W p l e R s m args below meth c H locs cells slots Q (F0 m n ls (x r :: S.map (zk_c r))) → W p l e R s m args below meth c H locs cells slots Q (F0 m pc ls (zk_c r w :: zk_c r v :: S.map (zk_c r)))))
    (k : zk_W p l e R s m args below meth c Q D E n (zk_ap (zk_bin o A.2.2.2.2.1 A.2.2.1 v w) S A)) : zk_W p l e R s m args below meth c Q D E pc A := by
  refine zk_row_ap hok (fun u hu => by rw [hS]; simp [hu]) ?_ k
  intro H locs cells slots ls r hP h0
  refine ⟨x r, zk_bin_ok (zk_okP hok) hP h0 (zk_okS hok (by rw [hS]; simp)) (zk_okS hok (by rw [hS]; simp)) (hx r hP), fun kk => ?_⟩
  rw [hS, List.map_cons, List.map_cons]
  exact row hP kk
theorem zk_un0_ok {r : Nat → Int} {n : Nat} {P : zP} {v : zV} (hf : zk_fP n P = true) (h : zk_P r P) (hv : v.2.1 < n) : zk_G r n (zk_un 0 n P v) (.long (Int32.ofInt (zk_n r v)).toInt64) := by
  show zk_G r n (if zk_inb P v (-2147483648) 2147483647 then ((1, v.2), P) else zk_nw 1 n (-9223372036854775808) 9223372036854775807 [] P) _
  split
  · rename_i hb
    have hi := zk_inb_ok h hb
    refine zk_G_old hf h hv ?_
    show Value.long (Int64.ofInt (zk_n r v)) = _
    rw [Int32.toInt64_ofInt (by have : Int32.minValue.toInt = -2147483648 := by decide
                                omega) (by have : Int32.maxValue.toInt = 2147483647 := by decide
                                           omega)]
  · exact zk_G_top hf h (zk_tL _)
theorem zk_un1_ok {r : Nat → Int} {n : Nat} {P : zP} {v : zV} (hf : zk_fP n P = true) (h : zk_P r P) (hv : v.2.1 < n) : zk_G r n (zk_un 1 n P v) (.int (Int64.ofInt (zk_n r v)).toInt32) := by
  refine zk_G_old hf h hv ?_
  show Value.int (Int32.ofInt (zk_n r v)) = _
  rw [Int64.toInt32_ofInt]
theorem zk_un2_ok {r : Nat → Int} {n : Nat} {P : zP} {v : zV} (hf : zk_fP n P = true) (h : zk_P r P) (hv : v.2.1 < n) (ht : v.1 = 0) : zk_G r n (zk_un 2 n P v) (.int (Int32.ofInt (zk_n r v)).toInt8.toInt32) := by
  show zk_G r n (if zk_inb P v (-128) 127 then (v, P) else zk_nw 0 n (-128) 127 [] P) _
  split
  · rename_i hb
    have hi := zk_inb_ok h hb
    refine zk_G_old hf h hv ?_
    unfold zk_c
    rw [ht]
    show Value.int (Int32.ofInt (zk_n r v)) = _
    rw [Int32.toInt8_ofInt, Int8.toInt32_ofInt (by have : Int8.minValue.toInt = -128 := by decide
                                                   omega) (by have : Int8.maxValue.toInt = 127 := by decide
                                                              omega)]
  · refine zk_G_top hf h ⟨((Int32.ofInt (zk_n r v)).toInt8).toInt, ?_, ?_, ?_⟩
    · have := ((Int32.ofInt (zk_n r v)).toInt8).minValue_le_toInt
      have e1 : Int8.minValue.toInt = -128 := by decide
      omega
    · have := ((Int32.ofInt (zk_n r v)).toInt8).toInt_le
      have e1 : Int8.maxValue.toInt = 127 := by decide
      omega
    · show Value.int (Int32.ofInt ((Int32.ofInt (zk_n r v)).toInt8).toInt) = _
      rw [Int32.ofInt_int8ToInt]
theorem zk_lc_ok {r : Nat → Int} {n : Nat} {P : zP} {v w : zV} (hf : zk_fP n P = true) (h : zk_P r P) (hv : v.2.1 < n) (hw : w.2.1 < n) (iv : zk_inb P v (-9223372036854775808) 9223372036854775807 = true) (iw : zk_inb P w (-9223372036854775808) 9223372036854775807 = true) : zk_G r n (zk_lc n P v w) (.int (lg_cmp (Int64.ofInt (zk_n r v)) (Int64.ofInt (zk_n r w)))) := by
  have e1 := zk_inb_ok h iv
  have e2 := zk_inb_ok h iw
  have t1 := zk_i64 e1.1 e1.2
  have t2 := zk_i64 e2.1 e2.2
  generalize hx : Int64.ofInt (zk_n r v) = x at *
  generalize hy : Int64.ofInt (zk_n r w) = y at *
  refine ⟨(lg_cmp x y).toInt, ?_, by rw [show (zk_lc n P v w).1 = (0, n, 0) from rfl, zk_c_n]; simp [zk_k], Nat.le_refl n⟩
  have g := zk_P_new (r' := zk_u r n (lg_cmp x y).toInt) hf (fun x hx => zk_u_ne hx) h
  have hval : ((lg_cmp x y).toInt = 1 ∧ y.toInt < x.toInt) ∨ ((lg_cmp x y).toInt = 0 ∧ x.toInt = y.toInt) ∨ ((lg_cmp x y).toInt = -1 ∧ x.toInt < y.toInt) := by
    unfold lg_cmp
    split
    · rename_i h1
      exact Or.inl ⟨by decide, Int64.lt_iff_toInt_lt.mp h1⟩
    · rename_i h1
      split
      · rename_i h2
        exact Or.inr (Or.inl ⟨by decide, by rw [h2]⟩)
      · rename_i h2
        refine Or.inr (Or.inr ⟨by decide, ?_⟩)
        have h3 : ¬ y.toInt < x.toInt := fun q => h1 (Int64.lt_iff_toInt_lt.mpr q)
        have h4 : ¬ x.toInt = y.toInt := fun q => h2 (Int64.toInt_inj.mp q)
        omega
  refine ⟨fun q hq => ?_, g.2.1, fun q hq => ?_, g.2.2.2⟩
  · rcases List.mem_cons.mp hq with rfl | hq
    · rw [zk_u_n]
      dsimp only
      omega
    · exact g.1 q hq
  · rcases List.mem_cons.mp hq with rfl | hq
    · unfold zk_sg
      dsimp only
      rw [zk_u_n, zk_n_new hv, zk_n_new hw, ← t1, ← t2]
      omega
    · exact g.2.2.1 q hq
end
