/-! THE CHECKER, 33: recorded arithmetic of longs. -/
def zk_apO (o : Nat) (v w : zV) (q : zV × zP) (S : List zV) (A : zA) : zA := (A.1, q.1 :: S, q.2, (A.2.2.2.1.1, A.2.2.2.1.2.1, A.2.2.2.1.2.2.1, A.2.2.2.1.2.2.2.1, A.2.2.2.1.2.2.2.2.1, (o, [v, w, q.1]) :: A.2.2.2.1.2.2.2.2.2), (A.2.2.2.2.1 + 1, A.2.2.2.2.2))
def zk_XTr (n0 : Nat) (K : Nat → zA → Bool) (pc : Nat) (A : zA) (i : Instr) (len : Nat) : Bool := match A.2.1 with
  | w :: v :: S => (decide (v.1 = 0) && (decide (w.1 = 0) && (zk_ok n0 A && (match i, len with
    | .isub, 1 => K (pc + 1) (zk_apO 25 v w (zk_bin 1 A.2.2.2.2.1 A.2.2.1 v w) S A)
    | .iadd, 1 => K (pc + 1) (zk_apO 26 v w (zk_bin 0 A.2.2.2.2.1 A.2.2.1 v w) S A)
    | .imul, 1 => K (pc + 1) (zk_apO 27 v w (zk_bin 2 A.2.2.2.2.1 A.2.2.1 v w) S A)
    | .irem, 1 => zk_nzm A.2.2.1 w && K (pc + 1) (zk_apO 28 v w (zk_bin 4 A.2.2.2.2.1 A.2.2.1 v w) S A)
    | .iand, 1 => K (pc + 1) (zk_apO 31 v w (zk_bin 5 A.2.2.2.2.1 A.2.2.1 v w) S A)
    | .ior, 1 => K (pc + 1) (zk_apO 32 v w (zk_bin 6 A.2.2.2.2.1 A.2.2.1 v w) S A)
    | .ishl, 1 => K (pc + 1) (zk_apO 33 v w (zk_bin 8 A.2.2.2.2.1 A.2.2.1 v w) S A)
    | .ishr, 1 => K (pc + 1) (zk_apO 34 v w (zk_bin 9 A.2.2.2.2.1 A.2.2.1 v w) S A)
    | .iushr, 1 => K (pc + 1) (zk_apO 35 v w (zk_bin 10 A.2.2.2.2.1 A.2.2.1 v w) S A)
    | .idiv, 1 => zk_nzm A.2.2.1 w && K (pc + 1) (zk_apO 36 v w (zk_bin 3 A.2.2.2.2.1 A.2.2.1 v w) S A)
    | _, _ => false)))) || decide (v.1 = 1) && (decide (w.1 = 1) && (zk_ok n0 A && (match i, len with
    | .lsub, 1 => K (pc + 1) (zk_apO 21 v w (zk_bin 21 A.2.2.2.2.1 A.2.2.1 v w) S A)
    | .lmul, 1 => K (pc + 1) (zk_apO 22 v w (zk_bin 22 A.2.2.2.2.1 A.2.2.1 v w) S A)
    | .ldiv, 1 => zk_nzm A.2.2.1 w && K (pc + 1) (zk_apO 23 v w (zk_bin 23 A.2.2.2.2.1 A.2.2.1 v w) S A)
    | .lrem, 1 => zk_nzm A.2.2.1 w && K (pc + 1) (zk_apO 24 v w (zk_bin 24 A.2.2.2.2.1 A.2.2.1 v w) S A)
    | .land, 1 => K (pc + 1) (zk_apO 41 v w (zk_bin 25 A.2.2.2.2.1 A.2.2.1 v w) S A)
    | .lor, 1 => K (pc + 1) (zk_apO 42 v w (zk_bin 26 A.2.2.2.2.1 A.2.2.1 v w) S A)
    | .ladd, 1 => K (pc + 1) (zk_apO 46 v w (zk_bin 20 A.2.2.2.2.1 A.2.2.1 v w) S A)
    | .lxor, 1 => K (pc + 1) (zk_apO 47 v w (zk_bin 27 A.2.2.2.2.1 A.2.2.1 v w) S A)
    | _, _ => false))) || decide (v.1 = 1) && (decide (w.1 = 0) && (zk_ok n0 A && (match i, len with
    | .lshl, 1 => K (pc + 1) (zk_apO 43 v w (zk_bin 28 A.2.2.2.2.1 A.2.2.1 v w) S A)
    | .lshr, 1 => K (pc + 1) (zk_apO 44 v w (zk_bin 29 A.2.2.2.2.1 A.2.2.1 v w) S A)
    | .lushr, 1 => K (pc + 1) (zk_apO 45 v w (zk_bin 30 A.2.2.2.2.1 A.2.2.1 v w) S A)
    | _, _ => false)))
  | _ => false
/-- a number cut to a byte -/
def zk_apU (v : zV) (q : zV × zP) (S : List zV) (A : zA) : zA := (A.1, q.1 :: S, q.2, (A.2.2.2.1.1, A.2.2.2.1.2.1, A.2.2.2.1.2.2.1, A.2.2.2.1.2.2.2.1, A.2.2.2.1.2.2.2.2.1, (51, [v, q.1]) :: A.2.2.2.1.2.2.2.2.2), (A.2.2.2.2.1 + 1, A.2.2.2.2.2))
def zk_XTu (n0 : Nat) (K : Nat → zA → Bool) (pc : Nat) (A : zA) (i : Instr) (len : Nat) : Bool := match A.2.1 with
  | v :: S => decide (v.1 = 0) && (zk_ok n0 A && (match i, len with
    | .i2b, 1 => K (pc + 1) (zk_apU v (zk_un 2 A.2.2.2.2.1 A.2.2.1 v) S A)
    | _, _ => false))
  | _ => false
def zk_XTq (n0 : Nat) (K : Nat → zA → Bool) (pc : Nat) (A : zA) (i : Instr) (len : Nat) : Bool := zk_XTr n0 K pc A i len || zk_XTu n0 K pc A i len
section
variable {p : Program} {l : Launch} {e : Env} {R : Room} {s : State} {m : MethodId} {args : Array Value} {below : List Frame} {meth : Method} {c : Code} {Q : State → Prop} {cc : ByteArray} {pc : Nat} {D : zD} {E : zE} {A : zA} {K : Nat → zA → Bool}
theorem zk_row_rec (hD : zk_rc D) {o : Nat} (ho : o ∈ [21, 22, 23, 24]) {v w : zV} {S : List zV} {n : Nat} (hok : zk_ok E.2.1.1 A = true) (hS : A.2.1 = w :: v :: S) (hv : v.1 = 1) (hw : w.1 = 1) {x : (Nat → Int) → Int64} (hx : ∀ r : Nat → Int, zk_P r A.2.2.1 → zk_f o (zk_c r v) (zk_c r w) = some (.long (x r)))
    (row : ∀ {H : Heap} {locs : List Loc} {cells slots : Nat} {ls : Array Slot} {r : Nat → Int}, zk_P r A.2.2.1 → (W p l e R s m args below meth c H locs cells slots Q (F0 m n ls (.long (x r) :: S.map (zk_c r))) → W p l e R s m args below meth c H locs cells slots Q (F0 m pc ls (zk_c r w :: zk_c r v :: S.map (zk_c r)))))
    (k : zk_W p l e R s m args below meth c Q D E n (zk_apO o v w (zk_bin o A.2.2.2.2.1 A.2.2.1 v w) S A)) : zk_W p l e R s m args below meth c Q D E pc A := by
  intro r ty H locs ls st h
  have h2 := h.2.1
  subst h2
  have hvn := zk_okS hok (v := v) (by rw [hS]; simp)
  have hwn := zk_okS hok (v := w) (by rw [hS]; simp)
  obtain ⟨z, g1, g2, g3⟩ := zk_bin_ok (zk_okP hok) h.2.2.1 h.2.2.2.2.2.2.1 hvn hwn (hx r h.2.2.1)
  rw [hS, List.map_cons, List.map_cons]
  refine row h.2.2.1 ?_
  have hn := zk_I_new (r' := zk_u r A.2.2.2.2.1 z) hok (fun y hy => zk_u_ne hy) h
  have eS : S.map (zk_c (zk_u r A.2.2.2.2.1 z)) = S.map (zk_c r) := by
    apply List.map_congr_left
    intro u hu
    exact zk_c_new (zk_okS hok (by rw [hS]; simp [hu]))
  refine k (zk_u r A.2.2.2.2.1 z) ty H locs ls (.long (x r) :: S.map (zk_c r)) ?_
  obtain ⟨a1, a2, a3, ⟨b1, b2, b3, b4, b5, b6, b7⟩, a5, a6, a7, a8, a9, a10⟩ := hn
  refine ⟨a1, by show _ :: _ = (_ :: S).map _; rw [List.map_cons, g2, eS], g1, ⟨b1, b2, b3, b4, b5, b6, fun q hq => ?_⟩, a5, a6, a7, a8, a9, a10⟩
  rcases List.mem_cons.mp hq with rfl | hq
  · show D.OP o ty H [zk_n _ v, zk_n _ w, zk_n _ _]
    rw [hD.1 o ho, zk_n_new hvn, zk_n_new hwn, ← zk_e1 hv, ← zk_e1 hw, hx r h.2.2.1]
    obtain ⟨-, e1⟩ := zk_kt1 g2
    rw [e1]
  · exact b7 q hq
theorem zk_row_recI (hD : zk_rc D) {o : Nat} (ho : o ∈ [25, 26, 27, 28]) {v w : zV} {S : List zV} {n : Nat} (hok : zk_ok E.2.1.1 A = true) (hS : A.2.1 = w :: v :: S) (hv : v.1 = 0) (hw : w.1 = 0) {x : (Nat → Int) → Int32} (hx : ∀ r : Nat → Int, zk_P r A.2.2.1 → zk_f (zk_ro o) (zk_c r v) (zk_c r w) = some (.int (x r)))
    (row : ∀ {H : Heap} {locs : List Loc} {cells slots : Nat} {ls : Array Slot} {r : Nat → Int}, zk_P r A.2.2.1 → (W p l e R s m args below meth c H locs cells slots Q (F0 m n ls (.int (x r) :: S.map (zk_c r))) → W p l e R s m args below meth c H locs cells slots Q (F0 m pc ls (zk_c r w :: zk_c r v :: S.map (zk_c r)))))
    (k : zk_W p l e R s m args below meth c Q D E n (zk_apO o v w (zk_bin (zk_ro o) A.2.2.2.2.1 A.2.2.1 v w) S A)) : zk_W p l e R s m args below meth c Q D E pc A := by
  intro r ty H locs ls st h
  have h2 := h.2.1
  subst h2
  have hvn := zk_okS hok (v := v) (by rw [hS]; simp)
  have hwn := zk_okS hok (v := w) (by rw [hS]; simp)
  obtain ⟨z, g1, g2, g3⟩ := zk_bin_ok (zk_okP hok) h.2.2.1 h.2.2.2.2.2.2.1 hvn hwn (hx r h.2.2.1)
  rw [hS, List.map_cons, List.map_cons]
  refine row h.2.2.1 ?_
  have hn := zk_I_new (r' := zk_u r A.2.2.2.2.1 z) hok (fun y hy => zk_u_ne hy) h
  have eS : S.map (zk_c (zk_u r A.2.2.2.2.1 z)) = S.map (zk_c r) := by
    apply List.map_congr_left
    intro u hu
    exact zk_c_new (zk_okS hok (by rw [hS]; simp [hu]))
  refine k (zk_u r A.2.2.2.2.1 z) ty H locs ls (.int (x r) :: S.map (zk_c r)) ?_
  obtain ⟨a1, a2, a3, ⟨b1, b2, b3, b4, b5, b6, b7⟩, a5, a6, a7, a8, a9, a10⟩ := hn
  refine ⟨a1, by show _ :: _ = (_ :: S).map _; rw [List.map_cons, g2, eS], g1, ⟨b1, b2, b3, b4, b5, b6, fun q hq => ?_⟩, a5, a6, a7, a8, a9, a10⟩
  rcases List.mem_cons.mp hq with rfl | hq
  · show D.OP o ty H [zk_n _ v, zk_n _ w, zk_n _ _]
    rw [hD.2.2.1 o ho, zk_n_new hvn, zk_n_new hwn, ← zk_e0 hv, ← zk_e0 hw, hx r h.2.2.1]
    obtain ⟨-, e1⟩ := zk_kt0 g2
    rw [e1]
  · exact b7 q hq
theorem zk_row_recN (hD : zk_rc D) {o co : Nat} (ho : o ∈ zk_nl) (hk : zk_rn o = (co, 0, 0)) {v w : zV} {S : List zV} {n : Nat} (hok : zk_ok E.2.1.1 A = true) (hS : A.2.1 = w :: v :: S) (hv : v.1 = 0) (hw : w.1 = 0) {x : (Nat → Int) → Int32} (hx : ∀ r : Nat → Int, zk_P r A.2.2.1 → zk_f co (zk_c r v) (zk_c r w) = some (.int (x r)))
    (row : ∀ {H : Heap} {locs : List Loc} {cells slots : Nat} {ls : Array Slot} {r : Nat → Int}, zk_P r A.2.2.1 → (W p l e R s m args below meth c H locs cells slots Q (F0 m n ls (.int (x r) :: S.map (zk_c r))) → W p l e R s m args below meth c H locs cells slots Q (F0 m pc ls (zk_c r w :: zk_c r v :: S.map (zk_c r)))))
    (k : zk_W p l e R s m args below meth c Q D E n (zk_apO o v w (zk_bin co A.2.2.2.2.1 A.2.2.1 v w) S A)) : zk_W p l e R s m args below meth c Q D E pc A := by
  intro r ty H locs ls st h
  have h2 := h.2.1
  subst h2
  have hvn := zk_okS hok (v := v) (by rw [hS]; simp)
  have hwn := zk_okS hok (v := w) (by rw [hS]; simp)
  obtain ⟨z, g1, g2, g3⟩ := zk_bin_ok (zk_okP hok) h.2.2.1 h.2.2.2.2.2.2.1 hvn hwn (hx r h.2.2.1)
  rw [hS, List.map_cons, List.map_cons]
  refine row h.2.2.1 ?_
  have hn := zk_I_new (r' := zk_u r A.2.2.2.2.1 z) hok (fun y hy => zk_u_ne hy) h
  have eS : S.map (zk_c (zk_u r A.2.2.2.2.1 z)) = S.map (zk_c r) := by
    apply List.map_congr_left
    intro u hu
    exact zk_c_new (zk_okS hok (by rw [hS]; simp [hu]))
  refine k (zk_u r A.2.2.2.2.1 z) ty H locs ls (.int (x r) :: S.map (zk_c r)) ?_
  obtain ⟨a1, a2, a3, ⟨b1, b2, b3, b4, b5, b6, b7⟩, a5, a6, a7, a8, a9, a10⟩ := hn
  refine ⟨a1, by show _ :: _ = (_ :: S).map _; rw [List.map_cons, g2, eS], g1, ⟨b1, b2, b3, b4, b5, b6, fun q hq => ?_⟩, a5, a6, a7, a8, a9, a10⟩
  rcases List.mem_cons.mp hq with rfl | hq
  · show D.OP o ty H [zk_n _ v, zk_n _ w, zk_n _ _]
    rw [hD.2.2.2.1 o ho, hk, zk_n_new hvn, zk_n_new hwn, show zk_k 0 (zk_n r v) = zk_c r v by unfold zk_c; rw [hv], show zk_k 0 (zk_n r w) = zk_c r w by unfold zk_c; rw [hw], hx r h.2.2.1]
    obtain ⟨-, e1⟩ := zk_kt0 g2
    rw [e1]
    rfl
  · exact b7 q hq
theorem zk_row_recM (hD : zk_rc D) {o co k2 : Nat} (ho : o ∈ zk_nl) (hk : zk_rn o = (co, 1, k2)) {v w : zV} {S : List zV} {n : Nat} (hok : zk_ok E.2.1.1 A = true) (hS : A.2.1 = w :: v :: S) (hv : v.1 = 1) (hw : w.1 = k2) {x : (Nat → Int) → Int64} (hx : ∀ r : Nat → Int, zk_P r A.2.2.1 → zk_f co (zk_c r v) (zk_c r w) = some (.long (x r)))
    (row : ∀ {H : Heap} {locs : List Loc} {cells slots : Nat} {ls : Array Slot} {r : Nat → Int}, zk_P r A.2.2.1 → (W p l e R s m args below meth c H locs cells slots Q (F0 m n ls (.long (x r) :: S.map (zk_c r))) → W p l e R s m args below meth c H locs cells slots Q (F0 m pc ls (zk_c r w :: zk_c r v :: S.map (zk_c r)))))
    (k : zk_W p l e R s m args below meth c Q D E n (zk_apO o v w (zk_bin co A.2.2.2.2.1 A.2.2.1 v w) S A)) : zk_W p l e R s m args below meth c Q D E pc A := by
  intro r ty H locs ls st h
  have h2 := h.2.1
  subst h2
  have hvn := zk_okS hok (v := v) (by rw [hS]; simp)
  have hwn := zk_okS hok (v := w) (by rw [hS]; simp)
  obtain ⟨z, g1, g2, g3⟩ := zk_bin_ok (zk_okP hok) h.2.2.1 h.2.2.2.2.2.2.1 hvn hwn (hx r h.2.2.1)
  rw [hS, List.map_cons, List.map_cons]
  refine row h.2.2.1 ?_
  have hn := zk_I_new (r' := zk_u r A.2.2.2.2.1 z) hok (fun y hy => zk_u_ne hy) h
  have eS : S.map (zk_c (zk_u r A.2.2.2.2.1 z)) = S.map (zk_c r) := by
    apply List.map_congr_left
    intro u hu
    exact zk_c_new (zk_okS hok (by rw [hS]; simp [hu]))
  refine k (zk_u r A.2.2.2.2.1 z) ty H locs ls (.long (x r) :: S.map (zk_c r)) ?_
  obtain ⟨a1, a2, a3, ⟨b1, b2, b3, b4, b5, b6, b7⟩, a5, a6, a7, a8, a9, a10⟩ := hn
  refine ⟨a1, by show _ :: _ = (_ :: S).map _; rw [List.map_cons, g2, eS], g1, ⟨b1, b2, b3, b4, b5, b6, fun q hq => ?_⟩, a5, a6, a7, a8, a9, a10⟩
  rcases List.mem_cons.mp hq with rfl | hq
  · show D.OP o ty H [zk_n _ v, zk_n _ w, zk_n _ _]
    rw [hD.2.2.2.1 o ho, hk, zk_n_new hvn, zk_n_new hwn, show zk_k 1 (zk_n r v) = zk_c r v by unfold zk_c; rw [hv], show zk_k k2 (zk_n r w) = zk_c r w by unfold zk_c; rw [hw], hx r h.2.2.1]
    obtain ⟨-, e1⟩ := zk_kt1 g2
    rw [e1]
    rfl
  · exact b7 q hq
theorem zk_row_recU (hD : zk_rc D) {v : zV} {S : List zV} {n : Nat} (hok : zk_ok E.2.1.1 A = true) (hS : A.2.1 = v :: S) (hv : v.1 = 0)
    (row : ∀ {H : Heap} {locs : List Loc} {cells slots : Nat} {ls : Array Slot} {r : Nat → Int}, (W p l e R s m args below meth c H locs cells slots Q (F0 m n ls (.int (Int32.ofInt (zk_n r v)).toInt8.toInt32 :: S.map (zk_c r))) → W p l e R s m args below meth c H locs cells slots Q (F0 m pc ls (zk_c r v :: S.map (zk_c r)))))
    (k : zk_W p l e R s m args below meth c Q D E n (zk_apU v (zk_un 2 A.2.2.2.2.1 A.2.2.1 v) S A)) : zk_W p l e R s m args below meth c Q D E pc A := by
  intro r ty H locs ls st h
  have h2 := h.2.1
  subst h2
  have hvn := zk_okS hok (v := v) (by rw [hS]; simp)
  obtain ⟨z, g1, g2, g3⟩ := zk_un2_ok (zk_okP hok) h.2.2.1 hvn hv
  rw [hS, List.map_cons]
  refine row ?_
  have hn := zk_I_new (r' := zk_u r A.2.2.2.2.1 z) hok (fun y hy => zk_u_ne hy) h
  have eS : S.map (zk_c (zk_u r A.2.2.2.2.1 z)) = S.map (zk_c r) := by
    apply List.map_congr_left
    intro u hu
    exact zk_c_new (zk_okS hok (by rw [hS]; simp [hu]))
  refine k (zk_u r A.2.2.2.2.1 z) ty H locs ls (.int (Int32.ofInt (zk_n r v)).toInt8.toInt32 :: S.map (zk_c r)) ?_
  obtain ⟨a1, a2, a3, ⟨b1, b2, b3, b4, b5, b6, b7⟩, a5, a6, a7, a8, a9, a10⟩ := hn
  refine ⟨a1, by show _ :: _ = (_ :: S).map _; rw [List.map_cons, g2, eS], g1, ⟨b1, b2, b3, b4, b5, b6, fun q hq => ?_⟩, a5, a6, a7, a8, a9, a10⟩
  rcases List.mem_cons.mp hq with rfl | hq
  · show D.OP 51 ty H [zk_n _ v, zk_n _ _]
    rw [hD.2.2.2.2, zk_n_new hvn]
    obtain ⟨-, e1⟩ := zk_kt0 g2
    exact e1
  · exact b7 q hq
theorem zk_XTr_ok {n0 : Nat} (hn0 : n0 = E.2.1.1) (hx : p.tables.exec = Jvm.exec) (hb : c.code = cc) (hD : zk_rc D) : zk_XT p l e R s m args below meth c Q cc D E (zk_XTr n0) := by
  intro K hK pc A i len hd h
  unfold zk_XTr at h
  split at h
  rotate_left
  · cases h
  rename_i w v S hS
  rcases Bool.or_eq_true _ _ ▸ h with h | h
  rotate_left
  · simp only [Bool.and_eq_true, decide_eq_true_eq] at h
    obtain ⟨hv, hw, hok, h⟩ := h
    rw [hn0] at hok
    split at h
    · exact zk_row_recM hD (o := 43) (co := 28) (k2 := 0) (by decide) rfl hok hS hv hw (fun r _ => by rw [zk_e1 hv, zk_e0 hw]; rfl) (fun hP kk => by rw [zk_e1 hv, zk_e0 hw]; exact lv_lshl hx hb hd rfl kk) (hK _ _ h)
    · exact zk_row_recM hD (o := 44) (co := 29) (k2 := 0) (by decide) rfl hok hS hv hw (fun r _ => by rw [zk_e1 hv, zk_e0 hw]; rfl) (fun hP kk => by rw [zk_e1 hv, zk_e0 hw]; exact lv_lshr hx hb hd rfl kk) (hK _ _ h)
    · exact zk_row_recM hD (o := 45) (co := 30) (k2 := 0) (by decide) rfl hok hS hv hw (fun r _ => by rw [zk_e1 hv, zk_e0 hw]; rfl) (fun hP kk => by rw [zk_e1 hv, zk_e0 hw]; exact lv_lushr hx hb hd rfl kk) (hK _ _ h)
    · cases h
  rcases Bool.or_eq_true _ _ ▸ h with h | h
  · simp only [Bool.and_eq_true, decide_eq_true_eq] at h
    obtain ⟨hv, hw, hok, h⟩ := h
    rw [hn0] at hok
    split at h
    · exact zk_row_recI hD (o := 25) (by decide) hok hS hv hw (fun r _ => by rw [zk_e0 hv, zk_e0 hw]; rfl) (fun hP kk => by rw [zk_e0 hv, zk_e0 hw]; exact lv_isub hx hb hd kk) (hK _ _ h)
    · exact zk_row_recI hD (o := 26) (by decide) hok hS hv hw (fun r _ => by rw [zk_e0 hv, zk_e0 hw]; rfl) (fun hP kk => by rw [zk_e0 hv, zk_e0 hw]; exact lv_iadd hx hb hd kk) (hK _ _ h)
    · exact zk_row_recI hD (o := 27) (by decide) hok hS hv hw (fun r _ => by rw [zk_e0 hv, zk_e0 hw]; rfl) (fun hP kk => by rw [zk_e0 hv, zk_e0 hw]; exact lv_imul hx hb hd kk) (hK _ _ h)
    · simp only [Bool.and_eq_true] at h
      exact zk_row_recI hD (o := 28) (by decide) hok hS hv hw (fun r _ => by rw [zk_e0 hv, zk_e0 hw]; rfl) (fun hP kk => by rw [zk_e0 hv, zk_e0 hw]; exact lv_irem hx hb hd (zk_nz32 hP hw h.1) kk) (hK _ _ h.2)
    · exact zk_row_recN hD (o := 31) (co := 5) (by decide) rfl hok hS hv hw (fun r _ => by rw [zk_e0 hv, zk_e0 hw]; rfl) (fun hP kk => by rw [zk_e0 hv, zk_e0 hw]; exact lv_iand hx hb hd kk) (hK _ _ h)
    · exact zk_row_recN hD (o := 32) (co := 6) (by decide) rfl hok hS hv hw (fun r _ => by rw [zk_e0 hv, zk_e0 hw]; rfl) (fun hP kk => by rw [zk_e0 hv, zk_e0 hw]; exact lv_ior hx hb hd kk) (hK _ _ h)
    · exact zk_row_recN hD (o := 33) (co := 8) (by decide) rfl hok hS hv hw (fun r _ => by rw [zk_e0 hv, zk_e0 hw]; rfl) (fun hP kk => by rw [zk_e0 hv, zk_e0 hw]; exact lv_ishl hx hb hd kk) (hK _ _ h)
    · exact zk_row_recN hD (o := 34) (co := 9) (by decide) rfl hok hS hv hw (fun r _ => by rw [zk_e0 hv, zk_e0 hw]; rfl) (fun hP kk => by rw [zk_e0 hv, zk_e0 hw]; exact lv_ishr hx hb hd kk) (hK _ _ h)
    · exact zk_row_recN hD (o := 35) (co := 10) (by decide) rfl hok hS hv hw (fun r _ => by rw [zk_e0 hv, zk_e0 hw]; rfl) (fun hP kk => by rw [zk_e0 hv, zk_e0 hw]; exact lv_iushr hx hb hd rfl kk) (hK _ _ h)
    · simp only [Bool.and_eq_true] at h
      exact zk_row_recN hD (o := 36) (co := 3) (by decide) rfl hok hS hv hw (fun r _ => by rw [zk_e0 hv, zk_e0 hw]; rfl) (fun hP kk => by rw [zk_e0 hv, zk_e0 hw]; exact lv_idiv hx hb hd (zk_nz32 hP hw h.1) kk) (hK _ _ h.2)
    · cases h
  simp only [Bool.and_eq_true, decide_eq_true_eq] at h
  obtain ⟨hv, hw, hok, h⟩ := h
  rw [hn0] at hok
  split at h
  · exact zk_row_rec hD (o := 21) (by decide) hok hS hv hw (fun r _ => by rw [zk_e1 hv, zk_e1 hw]; rfl) (fun hP kk => by rw [zk_e1 hv, zk_e1 hw]; exact lv_lsub hx hb hd kk) (hK _ _ h)
  · exact zk_row_rec hD (o := 22) (by decide) hok hS hv hw (fun r _ => by rw [zk_e1 hv, zk_e1 hw]; rfl) (fun hP kk => by rw [zk_e1 hv, zk_e1 hw]; exact lv_lmul hx hb hd kk) (hK _ _ h)
  · simp only [Bool.and_eq_true] at h
    exact zk_row_rec hD (o := 23) (by decide) hok hS hv hw (fun r _ => by rw [zk_e1 hv, zk_e1 hw]; rfl) (fun hP kk => by rw [zk_e1 hv, zk_e1 hw]; exact lv_ldiv hx hb hd (zk_nz64 hP hw h.1) kk) (hK _ _ h.2)
  · simp only [Bool.and_eq_true] at h
    exact zk_row_rec hD (o := 24) (by decide) hok hS hv hw (fun r _ => by rw [zk_e1 hv, zk_e1 hw]; rfl) (fun hP kk => by rw [zk_e1 hv, zk_e1 hw]; exact lv_lrem hx hb hd (zk_nz64 hP hw h.1) kk) (hK _ _ h.2)
  · exact zk_row_recM hD (o := 41) (co := 25) (k2 := 1) (by decide) rfl hok hS hv hw (fun r _ => by rw [zk_e1 hv, zk_e1 hw]; rfl) (fun hP kk => by rw [zk_e1 hv, zk_e1 hw]; exact lv_land hx hb hd kk) (hK _ _ h)
  · exact zk_row_recM hD (o := 42) (co := 26) (k2 := 1) (by decide) rfl hok hS hv hw (fun r _ => by rw [zk_e1 hv, zk_e1 hw]; rfl) (fun hP kk => by rw [zk_e1 hv, zk_e1 hw]; exact lv_lor hx hb hd kk) (hK _ _ h)
  · exact zk_row_recM hD (o := 46) (co := 20) (k2 := 1) (by decide) rfl hok hS hv hw (fun r _ => by rw [zk_e1 hv, zk_e1 hw]; rfl) (fun hP kk => by rw [zk_e1 hv, zk_e1 hw]; exact lv_ladd hx hb hd kk) (hK _ _ h)
  · exact zk_row_recM hD (o := 47) (co := 27) (k2 := 1) (by decide) rfl hok hS hv hw (fun r _ => by rw [zk_e1 hv, zk_e1 hw]; rfl) (fun hP kk => by rw [zk_e1 hv, zk_e1 hw]; exact lv_lxor hx hb hd kk) (hK _ _ h)
  · cases h
theorem zk_XTq_ok {n0 : Nat} (hn0 : n0 = E.2.1.1) (hx : p.tables.exec = Jvm.exec) (hb : c.code = cc) (hD : zk_rc D) : zk_XT p l e R s m args below meth c Q cc D E (zk_XTq n0) := by
  intro K hK pc A i len hd h
  rcases Bool.or_eq_true _ _ ▸ h with h | h
  · exact zk_XTr_ok hn0 hx hb hD K hK pc A i len hd h
  unfold zk_XTu at h
  split at h
  rotate_left
  · cases h
  rename_i v S hS
  simp only [Bool.and_eq_true, decide_eq_true_eq] at h
  obtain ⟨hv, hok, h⟩ := h
  rw [hn0] at hok
  split at h
  · exact zk_row_recU hD hok hS hv (fun kk => by rw [zk_e0 hv]; exact lv_i2b hx hb hd rfl kk) (hK _ _ h)
  · cases h
end
