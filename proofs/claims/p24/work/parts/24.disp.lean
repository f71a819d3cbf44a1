/-! THE CHECKER, 9: the instructions that don't touch the heap, all of them (printed by wip/tools/gen24.py). -/
theorem zk_i8 {n : Int} (h : -128 ≤ n ∧ n ≤ 127) : (Int8.ofInt n).toInt32 = Int32.ofInt n :=
  Int8.toInt32_ofInt (by have : Int8.minValue.toInt = -128 := by decide
                         omega) (by have : Int8.maxValue.toInt = 127 := by decide
                                    omega)
theorem zk_i16 {n : Int} (h : -32768 ≤ n ∧ n ≤ 32767) : (Int16.ofInt n).toInt32 = Int32.ofInt n :=
  Int16.toInt32_ofInt (by have : Int16.minValue.toInt = -32768 := by decide
                          omega) (by have : Int16.maxValue.toInt = 32767 := by decide
                                     omega)
theorem zk_e0 {r : Nat → Int} {v : zV} (h : v.1 = 0) : zk_c r v = .int (Int32.ofInt (zk_n r v)) := by unfold zk_c; rw [h]; rfl
theorem zk_e1 {r : Nat → Int} {v : zV} (h : v.1 = 1) : zk_c r v = .long (Int64.ofInt (zk_n r v)) := by unfold zk_c; rw [h]; rfl
theorem zk_cat1 {r : Nat → Int} {v : zV} (h : v.1 ≠ 1) : (zk_c r v).category = 1 := by
  have h1 := zk_cat v.1 (zk_n r v)
  have h2 := lv_cat (zk_c r v)
  unfold zk_c at *
  rcases h2 with h2 | h2
  · exact h2
  · rw [h2] at h1
    simp at h1
    exact absurd h1 h
theorem zk_cat2 {r : Nat → Int} {v : zV} (h : v.1 = 1) : (zk_c r v).category = 2 := by rw [zk_e1 h]; rfl
/-- known: v ≠ 0, and it is a number of the machine's -/
def zk_nzm (P : zP) (v : zV) : Bool := zk_nz P v && (if v.1 = 0 then zk_inb P v (-2147483648) 2147483647 else zk_inb P v (-9223372036854775808) 9223372036854775807)
theorem zk_nz32 {r : Nat → Int} {P : zP} (h : zk_P r P) {v : zV} (ht : v.1 = 0) (hb : zk_nzm P v = true) : ¬ Int32.ofInt (zk_n r v) = 0 := by
  simp only [zk_nzm, Bool.and_eq_true, ht, if_true] at hb
  have h1 := zk_nz_ok h hb.1
  have h2 := zk_inb_ok h hb.2
  intro q
  have e1 := zk_i32 h2.1 h2.2
  rw [q] at e1
  exact h1 e1.symm
theorem zk_nz64 {r : Nat → Int} {P : zP} (h : zk_P r P) {v : zV} (ht : v.1 = 1) (hb : zk_nzm P v = true) : ¬ Int64.ofInt (zk_n r v) = 0 := by
  simp only [zk_nzm, Bool.and_eq_true, ht] at hb
  have h1 := zk_nz_ok h hb.1
  have h2 := zk_inb_ok h (by simpa using hb.2)
  intro q
  have e1 := zk_i64 h2.1 h2.2
  rw [q] at e1
  exact h1 e1.symm
section
variable {p : Program} {l : Launch} {e : Env} {R : Room} {s : State} {m : MethodId} {args : Array Value} {below : List Frame} {meth : Method} {c : Code} {Q : State → Prop} {cc : ByteArray} {pc : Nat} {D : zD} {E : zE} {A : zA} {K : Nat → zA → Bool}
theorem zk_to0 {H : Heap} {locs : List Loc} {cells slots n : Nat} {ls : Array Slot} {rest : List Value} {r : Nat → Int} {k : Int} (h0 : r 0 = 0) (kk : W p l e R s m args below meth c H locs cells slots Q (F0 m n ls (zk_c r (0, 0, k) :: rest))) : W p l e R s m args below meth c H locs cells slots Q (F0 m n ls (.int (Int32.ofInt k) :: rest)) := by
  have e : zk_c r (0, 0, k) = .int (Int32.ofInt k) := by simp [zk_c, zk_k, zk_n, h0]
  rw [e] at kk; exact kk
theorem zk_to1 {H : Heap} {locs : List Loc} {cells slots n : Nat} {ls : Array Slot} {rest : List Value} {r : Nat → Int} {k : Int} (h0 : r 0 = 0) (kk : W p l e R s m args below meth c H locs cells slots Q (F0 m n ls (zk_c r (1, 0, k) :: rest))) : W p l e R s m args below meth c H locs cells slots Q (F0 m n ls (.long (Int64.ofInt k) :: rest)) := by
  have e : zk_c r (1, 0, k) = .long (Int64.ofInt k) := by simp [zk_c, zk_k, zk_n, h0]
  rw [e] at kk; exact kk
theorem zk_row_iinc (hx : p.tables.exec = Jvm.exec) (hb : c.code = cc) {i : Nat} {n : Int} (hd : decode cc pc = .ok (.iinc i n, 3)) {v : zV} (hv : zk_find A.1 i = some v) (ht : v.1 = 0) (hi : i < E.1) (k : zk_W p l e R s m args below meth c Q D E (pc + 3) (zk_sl1 i (0, v.2.1, v.2.2 + n) A.2.1 A)) : zk_W p l e R s m args below meth c Q D E pc A := by
  intro r ty H locs ls st h
  obtain ⟨h1, h2, h3⟩ := h
  obtain ⟨j, hj⟩ := List.getElem?_of_mem (List.mem_map.mpr ⟨(i, v), zk_find_mem hv, rfl⟩ : (i, zk_c r v) ∈ A.1.map fun q => (q.1, zk_c r q.2))
  rw [zk_e0 ht] at hj
  refine lv_iinc hx hb hd h1 hj (v := Int32.ofInt (zk_n r (0, v.2.1, v.2.2 + n))) ?_ hi rfl (fun ls' h' => k r ty H locs ls' st ⟨?_, h2, h3⟩)
  · rw [← Int32.ofInt_add]
    unfold zk_n
    congr 1
    dsimp only
    omega
  · rw [zk_filter1] at h'
    exact h'
def zk_plain (CX LX : Nat → Option Int) (nL n0 : Nat) (K : Nat → zA → Bool) (pc : Nat) (A : zA) (i : Instr) (len : Nat) : Bool := match i, len with
  | .iconst n, 1 => K (pc + 1) (zk_pu (0, 0, n) A)
  | .bipush n, 2 => decide (-128 ≤ n ∧ n ≤ 127) && K (pc + 2) (zk_pu (0, 0, n) A)
  | .sipush n, 3 => decide (-32768 ≤ n ∧ n ≤ 32767) && K (pc + 3) (zk_pu (0, 0, n) A)
  | .lconst n, 1 => K (pc + 1) (zk_pu (1, 0, ((n : Nat) : Int)) A)
  | .ldc i, 2 => (match CX i with | some k => K (pc + 2) (zk_pu (0, 0, k) A) | none => false)
  | .ldc_w i, 3 => (match CX i with | some k => K (pc + 3) (zk_pu (0, 0, k) A) | none => false)
  | .ldc2_w i, 3 => (match LX i with | some k => K (pc + 3) (zk_pu (1, 0, k) A) | none => false)
  | .iload i, 2 => (match zk_find A.1 i with | some v => decide (v.1 = 0) && K (pc + 2) (zk_pu v A) | none => false)
  | .iload_n i, 1 => (match zk_find A.1 i.val with | some v => decide (v.1 = 0) && K (pc + 1) (zk_pu v A) | none => false)
  | .lload i, 2 => (match zk_find A.1 i with | some v => decide (v.1 = 1) && K (pc + 2) (zk_pu v A) | none => false)
  | .lload_n i, 1 => (match zk_find A.1 i.val with | some v => decide (v.1 = 1) && K (pc + 1) (zk_pu v A) | none => false)
  | .aload i, 2 => (match zk_find A.1 i with | some v => decide (v.1 = 2) && K (pc + 2) (zk_pu v A) | none => false)
  | .aload_n i, 1 => (match zk_find A.1 i.val with | some v => decide (v.1 = 2) && K (pc + 1) (zk_pu v A) | none => false)
  | .istore i, 2 => (match A.2.1 with | v :: S => decide (v.1 = 0) && (Nat.blt i nL && K (pc + 2) (zk_sl1 i v S A)) | _ => false)
  | .istore_n i, 1 => (match A.2.1 with | v :: S => decide (v.1 = 0) && (Nat.blt i.val nL && K (pc + 1) (zk_sl1 i.val v S A)) | _ => false)
  | .lstore i, 2 => (match A.2.1 with | v :: S => decide (v.1 = 1) && (Nat.blt (i + 1) nL && K (pc + 2) (zk_sl2 i v S A)) | _ => false)
  | .lstore_n i, 1 => (match A.2.1 with | v :: S => decide (v.1 = 1) && (Nat.blt (i.val + 1) nL && K (pc + 1) (zk_sl2 i.val v S A)) | _ => false)
  | .astore i, 2 => (match A.2.1 with | v :: S => decide (v.1 = 2) && (Nat.blt i nL && K (pc + 2) (zk_sl1 i v S A)) | _ => false)
  | .astore_n i, 1 => (match A.2.1 with | v :: S => decide (v.1 = 2) && (Nat.blt i.val nL && K (pc + 1) (zk_sl1 i.val v S A)) | _ => false)
  | .iinc i n, 3 => (match zk_find A.1 i with | some v => decide (v.1 = 0) && (Nat.blt i nL && K (pc + 3) (zk_sl1 i (0, v.2.1, v.2.2 + n) A.2.1 A)) | none => false)
  | .dup, 1 => (match A.2.1 with | v :: S => decide (v.1 ≠ 1) && K (pc + 1) (zk_ss (v :: v :: S) A) | _ => false)
  | .pop, 1 => (match A.2.1 with | v :: S => decide (v.1 ≠ 1) && K (pc + 1) (zk_ss S A) | _ => false)
  | .dup2, 1 => (match A.2.1 with | v :: w :: S => decide (v.1 ≠ 1) && (decide (w.1 ≠ 1) && K (pc + 1) (zk_ss (v :: w :: v :: w :: S) A)) | _ => false)
  | .pop2, 1 => (match A.2.1 with | v :: S => decide (v.1 = 1) && K (pc + 1) (zk_ss S A) | _ => false)
  | .goto o, 3 => decide (0 ≤ (pc : Int) + o) && K ((pc : Int) + o).toNat A
  | .iadd, 1 => (match A.2.1 with | w :: v :: S => decide (v.1 = 0) && (decide (w.1 = 0) && ((zk_ok n0 A && K (pc + 1) (zk_ap (zk_bin 0 A.2.2.2.2.1 A.2.2.1 v w) S A)))) | _ => false)
  | .isub, 1 => (match A.2.1 with | w :: v :: S => decide (v.1 = 0) && (decide (w.1 = 0) && ((zk_ok n0 A && K (pc + 1) (zk_ap (zk_bin 1 A.2.2.2.2.1 A.2.2.1 v w) S A)))) | _ => false)
  | .imul, 1 => (match A.2.1 with | w :: v :: S => decide (v.1 = 0) && (decide (w.1 = 0) && ((zk_ok n0 A && K (pc + 1) (zk_ap (zk_bin 2 A.2.2.2.2.1 A.2.2.1 v w) S A)))) | _ => false)
  | .idiv, 1 => (match A.2.1 with | w :: v :: S => decide (v.1 = 0) && (decide (w.1 = 0) && (zk_nzm A.2.2.1 w && (zk_ok n0 A && K (pc + 1) (zk_ap (zk_bin 3 A.2.2.2.2.1 A.2.2.1 v w) S A)))) | _ => false)
  | .irem, 1 => (match A.2.1 with | w :: v :: S => decide (v.1 = 0) && (decide (w.1 = 0) && (zk_nzm A.2.2.1 w && (zk_ok n0 A && K (pc + 1) (zk_ap (zk_bin 4 A.2.2.2.2.1 A.2.2.1 v w) S A)))) | _ => false)
  | .iand, 1 => (match A.2.1 with | w :: v :: S => decide (v.1 = 0) && (decide (w.1 = 0) && ((zk_ok n0 A && K (pc + 1) (zk_ap (zk_bin 5 A.2.2.2.2.1 A.2.2.1 v w) S A)))) | _ => false)
  | .ior, 1 => (match A.2.1 with | w :: v :: S => decide (v.1 = 0) && (decide (w.1 = 0) && ((zk_ok n0 A && K (pc + 1) (zk_ap (zk_bin 6 A.2.2.2.2.1 A.2.2.1 v w) S A)))) | _ => false)
  | .ishl, 1 => (match A.2.1 with | w :: v :: S => decide (v.1 = 0) && (decide (w.1 = 0) && ((zk_ok n0 A && K (pc + 1) (zk_ap (zk_bin 8 A.2.2.2.2.1 A.2.2.1 v w) S A)))) | _ => false)
  | .ishr, 1 => (match A.2.1 with | w :: v :: S => decide (v.1 = 0) && (decide (w.1 = 0) && ((zk_ok n0 A && K (pc + 1) (zk_ap (zk_bin 9 A.2.2.2.2.1 A.2.2.1 v w) S A)))) | _ => false)
  | .iushr, 1 => (match A.2.1 with | w :: v :: S => decide (v.1 = 0) && (decide (w.1 = 0) && ((zk_ok n0 A && K (pc + 1) (zk_ap (zk_bin 10 A.2.2.2.2.1 A.2.2.1 v w) S A)))) | _ => false)
  | .ladd, 1 => (match A.2.1 with | w :: v :: S => decide (v.1 = 1) && (decide (w.1 = 1) && ((zk_ok n0 A && K (pc + 1) (zk_ap (zk_bin 20 A.2.2.2.2.1 A.2.2.1 v w) S A)))) | _ => false)
  | .lsub, 1 => (match A.2.1 with | w :: v :: S => decide (v.1 = 1) && (decide (w.1 = 1) && ((zk_ok n0 A && K (pc + 1) (zk_ap (zk_bin 21 A.2.2.2.2.1 A.2.2.1 v w) S A)))) | _ => false)
  | .lmul, 1 => (match A.2.1 with | w :: v :: S => decide (v.1 = 1) && (decide (w.1 = 1) && ((zk_ok n0 A && K (pc + 1) (zk_ap (zk_bin 22 A.2.2.2.2.1 A.2.2.1 v w) S A)))) | _ => false)
  | .ldiv, 1 => (match A.2.1 with | w :: v :: S => decide (v.1 = 1) && (decide (w.1 = 1) && (zk_nzm A.2.2.1 w && (zk_ok n0 A && K (pc + 1) (zk_ap (zk_bin 23 A.2.2.2.2.1 A.2.2.1 v w) S A)))) | _ => false)
  | .lrem, 1 => (match A.2.1 with | w :: v :: S => decide (v.1 = 1) && (decide (w.1 = 1) && (zk_nzm A.2.2.1 w && (zk_ok n0 A && K (pc + 1) (zk_ap (zk_bin 24 A.2.2.2.2.1 A.2.2.1 v w) S A)))) | _ => false)
  | .land, 1 => (match A.2.1 with | w :: v :: S => decide (v.1 = 1) && (decide (w.1 = 1) && ((zk_ok n0 A && K (pc + 1) (zk_ap (zk_bin 25 A.2.2.2.2.1 A.2.2.1 v w) S A)))) | _ => false)
  | .lor, 1 => (match A.2.1 with | w :: v :: S => decide (v.1 = 1) && (decide (w.1 = 1) && ((zk_ok n0 A && K (pc + 1) (zk_ap (zk_bin 26 A.2.2.2.2.1 A.2.2.1 v w) S A)))) | _ => false)
  | .lxor, 1 => (match A.2.1 with | w :: v :: S => decide (v.1 = 1) && (decide (w.1 = 1) && ((zk_ok n0 A && K (pc + 1) (zk_ap (zk_bin 27 A.2.2.2.2.1 A.2.2.1 v w) S A)))) | _ => false)
  | .lshl, 1 => (match A.2.1 with | w :: v :: S => decide (v.1 = 1) && (decide (w.1 = 0) && ((zk_ok n0 A && K (pc + 1) (zk_ap (zk_bin 28 A.2.2.2.2.1 A.2.2.1 v w) S A)))) | _ => false)
  | .lshr, 1 => (match A.2.1 with | w :: v :: S => decide (v.1 = 1) && (decide (w.1 = 0) && ((zk_ok n0 A && K (pc + 1) (zk_ap (zk_bin 29 A.2.2.2.2.1 A.2.2.1 v w) S A)))) | _ => false)
  | .lushr, 1 => (match A.2.1 with | w :: v :: S => decide (v.1 = 1) && (decide (w.1 = 0) && ((zk_ok n0 A && K (pc + 1) (zk_ap (zk_bin 30 A.2.2.2.2.1 A.2.2.1 v w) S A)))) | _ => false)
  | .i2l, 1 => (match A.2.1 with | v :: S => decide (v.1 = 0) && (zk_ok n0 A && K (pc + 1) (zk_ap (zk_un 0 A.2.2.2.2.1 A.2.2.1 v) S A)) | _ => false)
  | .l2i, 1 => (match A.2.1 with | v :: S => decide (v.1 = 1) && (zk_ok n0 A && K (pc + 1) (zk_ap (zk_un 1 A.2.2.2.2.1 A.2.2.1 v) S A)) | _ => false)
  | .i2b, 1 => (match A.2.1 with | v :: S => decide (v.1 = 0) && (zk_ok n0 A && K (pc + 1) (zk_ap (zk_un 2 A.2.2.2.2.1 A.2.2.1 v) S A)) | _ => false)
  | .lcmp, 1 => (match A.2.1 with | w :: v :: S => decide (v.1 = 1) && (decide (w.1 = 1) && (zk_inb A.2.2.1 v (-9223372036854775808) 9223372036854775807 && (zk_inb A.2.2.1 w (-9223372036854775808) 9223372036854775807 && (zk_ok n0 A && K (pc + 1) (zk_ap (zk_lc A.2.2.2.2.1 A.2.2.1 v w) S A))))) | _ => false)
  | .ifCond cd o, 3 => decide (0 ≤ (pc : Int) + o) && (match A.2.1 with | v :: S => zk_br K cd v (0, 0, 0) S ((pc : Int) + o).toNat (pc + 3) A | _ => false)
  | .if_icmp cd o, 3 => decide (0 ≤ (pc : Int) + o) && (match A.2.1 with | w :: v :: S => zk_br K cd v w S ((pc : Int) + o).toNat (pc + 3) A | _ => false)
  | .tableswitch d lo hi offs, n => (match A.2.1 with | v :: S => zk_sw K v S pc d lo hi offs A | _ => false)
  | _, _ => false
set_option maxHeartbeats 4000000 in
theorem zk_plain_ok {CX LX : Nat → Option Int} {nL n0 : Nat} {own : String} (hx : p.tables.exec = Jvm.exec) (hb : c.code = cc) (hown : s.vm.findClass own = some m.cls) (hE : E.1 = nL) (hn0 : n0 = E.2.1.1) (hCX : ∀ (i : Nat) (k : Int), CX i = some k → (Jvm.Cond.constant own i (Int32.ofInt k)).before args s = true) (hLX : ∀ (i : Nat) (k : Int), LX i = some k → (Jvm.Cond.constantLong own i (Int64.ofInt k)).before args s = true)
    (hK : ∀ (n : Nat) (A : zA), K n A = true → zk_W p l e R s m args below meth c Q D E n A) {i : Instr} {len : Nat} (hd : decode cc pc = .ok (i, len)) (h : zk_plain CX LX nL n0 K pc A i len = true) : zk_W p l e R s m args below meth c Q D E pc A := by
  unfold zk_plain at h
  split at h
  · rename_i n
    exact zk_row_const (fun h0 k => lv_iconst hx hb hd (by simp [zk_n, h0]) k) (hK _ _ h)
  · rename_i n
    simp only [Bool.and_eq_true, decide_eq_true_eq] at h
    exact zk_row_const (fun h0 k => lv_bipush hx hb hd (by rw [zk_i8 h.1]; simp [zk_n, h0]) k) (hK _ _ h.2)
  · rename_i n
    simp only [Bool.and_eq_true, decide_eq_true_eq] at h
    exact zk_row_const (fun h0 k => lv_sipush hx hb hd (by rw [zk_i16 h.1]; simp [zk_n, h0]) k) (hK _ _ h.2)
  · rename_i n
    exact zk_row_const (fun h0 k => lv_lconst hx hb hd (by simp [zk_n, h0, Int64.ofInt_eq_ofNat]) k) (hK _ _ h)
  · rename_i i
    split at h
    · rename_i k hk
      exact zk_row_const (fun h0 kk => lv_ldc hx hb hown (hCX i k hk) hd (zk_to0 h0 kk)) (hK _ _ h)
    · cases h
  · rename_i i
    split at h
    · rename_i k hk
      exact zk_row_const (fun h0 kk => lv_ldcw hx hb hown (hCX i k hk) hd (zk_to0 h0 kk)) (hK _ _ h)
    · cases h
  · rename_i i
    split at h
    · rename_i k hk
      exact zk_row_const (fun h0 kk => lv_ldc2 hx hb hown (hLX i k hk) hd (zk_to1 h0 kk)) (hK _ _ h)
    · cases h
  · rename_i i
    split at h
    · rename_i v hv
      simp only [Bool.and_eq_true, decide_eq_true_eq] at h
      exact zk_row_load hv (fun hx1 hl kk => by obtain ⟨z, rfl⟩ := hx1; rw [h.1] at hl kk; exact lv_iload hx hb hd hl kk) (hK _ _ h.2)
    · cases h
  · rename_i i
    split at h
    · rename_i v hv
      simp only [Bool.and_eq_true, decide_eq_true_eq] at h
      exact zk_row_load hv (fun hx1 hl kk => by obtain ⟨z, rfl⟩ := hx1; rw [h.1] at hl kk; exact lv_iload_n hx hb hd rfl hl kk) (hK _ _ h.2)
    · cases h
  · rename_i i
    split at h
    · rename_i v hv
      simp only [Bool.and_eq_true, decide_eq_true_eq] at h
      exact zk_row_load hv (fun hx1 hl kk => by obtain ⟨z, rfl⟩ := hx1; rw [h.1] at hl kk; exact lv_lload hx hb hd hl kk) (hK _ _ h.2)
    · cases h
  · rename_i i
    split at h
    · rename_i v hv
      simp only [Bool.and_eq_true, decide_eq_true_eq] at h
      exact zk_row_load hv (fun hx1 hl kk => by obtain ⟨z, rfl⟩ := hx1; rw [h.1] at hl kk; exact lv_lload_n hx hb hd rfl hl kk) (hK _ _ h.2)
    · cases h
  · rename_i i
    split at h
    · rename_i v hv
      simp only [Bool.and_eq_true, decide_eq_true_eq] at h
      exact zk_row_load hv (fun hx1 hl kk => by obtain ⟨z, rfl⟩ := hx1; rw [h.1] at hl kk; exact lv_aload hx hb hd hl kk) (hK _ _ h.2)
    · cases h
  · rename_i i
    split at h
    · rename_i v hv
      simp only [Bool.and_eq_true, decide_eq_true_eq] at h
      exact zk_row_load hv (fun hx1 hl kk => by obtain ⟨z, rfl⟩ := hx1; rw [h.1] at hl kk; exact lv_aload_n hx hb hd rfl hl kk) (hK _ _ h.2)
    · cases h
  · rename_i i
    split at h
    · rename_i v S hS
      simp only [Bool.and_eq_true, decide_eq_true_eq] at h
      exact zk_row_store1 hS (fun hx1 hl kk => by obtain ⟨z, rfl⟩ := hx1; rw [h.1] at kk ⊢; exact lv_istore hx hb hd hl (by rw [hE]; exact zk_blt h.2.1) rfl kk) (hK _ _ h.2.2)
    · cases h
  · rename_i i
    split at h
    · rename_i v S hS
      simp only [Bool.and_eq_true, decide_eq_true_eq] at h
      exact zk_row_store1 hS (fun hx1 hl kk => by obtain ⟨z, rfl⟩ := hx1; rw [h.1] at kk ⊢; exact lv_istore_n hx hb hd rfl hl (by rw [hE]; exact zk_blt h.2.1) rfl kk) (hK _ _ h.2.2)
    · cases h
  · rename_i i
    split at h
    · rename_i v S hS
      simp only [Bool.and_eq_true, decide_eq_true_eq] at h
      exact zk_row_store2 hS (fun hx1 hl kk => by obtain ⟨z, rfl⟩ := hx1; rw [h.1] at kk ⊢; exact lv_lstore hx hb hd hl (by rw [hE]; exact zk_blt h.2.1) rfl kk) (hK _ _ h.2.2)
    · cases h
  · rename_i i
    split at h
    · rename_i v S hS
      simp only [Bool.and_eq_true, decide_eq_true_eq] at h
      exact zk_row_store2 hS (fun hx1 hl kk => by obtain ⟨z, rfl⟩ := hx1; rw [h.1] at kk ⊢; exact lv_lstore_n hx hb hd rfl hl (by rw [hE]; exact zk_blt h.2.1) rfl kk) (hK _ _ h.2.2)
    · cases h
  · rename_i i
    split at h
    · rename_i v S hS
      simp only [Bool.and_eq_true, decide_eq_true_eq] at h
      exact zk_row_store1 hS (fun hx1 hl kk => by obtain ⟨z, rfl⟩ := hx1; rw [h.1] at kk ⊢; exact lv_astore hx hb hd hl (by rw [hE]; exact zk_blt h.2.1) rfl kk) (hK _ _ h.2.2)
    · cases h
  · rename_i i
    split at h
    · rename_i v S hS
      simp only [Bool.and_eq_true, decide_eq_true_eq] at h
      exact zk_row_store1 hS (fun hx1 hl kk => by obtain ⟨z, rfl⟩ := hx1; rw [h.1] at kk ⊢; exact lv_astore_n hx hb hd rfl hl (by rw [hE]; exact zk_blt h.2.1) rfl kk) (hK _ _ h.2.2)
    · cases h
  · rename_i i n
    split at h
    · rename_i v hv
      simp only [Bool.and_eq_true, decide_eq_true_eq] at h
      exact zk_row_iinc hx hb hd hv h.1 (by rw [hE]; exact zk_blt h.2.1) (hK _ _ h.2.2)
    · cases h
  · split at h
    · rename_i v S hS
      simp only [Bool.and_eq_true, decide_eq_true_eq] at h
      exact zk_row_stack (fun kk => by rw [hS]; exact lv_dup hx hb hd (zk_cat1 h.1) kk) (hK _ _ h.2)
    · cases h
  · split at h
    · rename_i v S hS
      simp only [Bool.and_eq_true, decide_eq_true_eq] at h
      exact zk_row_stack (fun kk => by rw [hS]; exact lv_pop hx hb hd (zk_cat1 h.1) kk) (hK _ _ h.2)
    · cases h
  · split at h
    · rename_i v w S hS
      simp only [Bool.and_eq_true, decide_eq_true_eq] at h
      exact zk_row_stack (fun kk => by rw [hS]; exact lv_dup2_11 hx hb hd (zk_cat1 h.1) (zk_cat1 h.2.1) kk) (hK _ _ h.2.2)
    · cases h
  · split at h
    · rename_i v S hS
      simp only [Bool.and_eq_true, decide_eq_true_eq] at h
      exact zk_row_stack (fun kk => by rw [hS]; exact lv_pop2_2 hx hb hd (zk_cat2 h.1) kk) (hK _ _ h.2)
    · cases h
  · rename_i o
    simp only [Bool.and_eq_true, decide_eq_true_eq] at h
    exact zk_row_stack (S := A.2.1) (fun kk => lv_goto hx hb hd (Int.toNat_of_nonneg h.1).symm kk) (hK _ _ h.2)
  · split at h
    · rename_i w v S hS
      simp only [Bool.and_eq_true, decide_eq_true_eq] at h
      exact zk_row_bin (hn0 ▸ h.2.2.1) hS (fun r _ => by rw [zk_e0 h.1, zk_e0 h.2.1]; rfl) (fun hP kk => by rw [zk_e0 h.1, zk_e0 h.2.1]; exact lv_iadd hx hb hd kk) (hK _ _ h.2.2.2)
    · cases h
  · split at h
    · rename_i w v S hS
      simp only [Bool.and_eq_true, decide_eq_true_eq] at h
      exact zk_row_bin (hn0 ▸ h.2.2.1) hS (fun r _ => by rw [zk_e0 h.1, zk_e0 h.2.1]; rfl) (fun hP kk => by rw [zk_e0 h.1, zk_e0 h.2.1]; exact lv_isub hx hb hd kk) (hK _ _ h.2.2.2)
    · cases h
  · split at h
    · rename_i w v S hS
      simp only [Bool.and_eq_true, decide_eq_true_eq] at h
      exact zk_row_bin (hn0 ▸ h.2.2.1) hS (fun r _ => by rw [zk_e0 h.1, zk_e0 h.2.1]; rfl) (fun hP kk => by rw [zk_e0 h.1, zk_e0 h.2.1]; exact lv_imul hx hb hd kk) (hK _ _ h.2.2.2)
    · cases h
  · split at h
    · rename_i w v S hS
      simp only [Bool.and_eq_true, decide_eq_true_eq] at h
      exact zk_row_bin (hn0 ▸ h.2.2.2.1) hS (fun r _ => by rw [zk_e0 h.1, zk_e0 h.2.1]; rfl) (fun hP kk => by rw [zk_e0 h.1, zk_e0 h.2.1]; exact lv_idiv hx hb hd (zk_nz32 hP h.2.1 h.2.2.1) kk) (hK _ _ h.2.2.2.2)
    · cases h
  · split at h
    · rename_i w v S hS
      simp only [Bool.and_eq_true, decide_eq_true_eq] at h
      exact zk_row_bin (hn0 ▸ h.2.2.2.1) hS (fun r _ => by rw [zk_e0 h.1, zk_e0 h.2.1]; rfl) (fun hP kk => by rw [zk_e0 h.1, zk_e0 h.2.1]; exact lv_irem hx hb hd (zk_nz32 hP h.2.1 h.2.2.1) kk) (hK _ _ h.2.2.2.2)
    · cases h
  · split at h
    · rename_i w v S hS
      simp only [Bool.and_eq_true, decide_eq_true_eq] at h
      exact zk_row_bin (hn0 ▸ h.2.2.1) hS (fun r _ => by rw [zk_e0 h.1, zk_e0 h.2.1]; rfl) (fun hP kk => by rw [zk_e0 h.1, zk_e0 h.2.1]; exact lv_iand hx hb hd kk) (hK _ _ h.2.2.2)
    · cases h
  · split at h
    · rename_i w v S hS
      simp only [Bool.and_eq_true, decide_eq_true_eq] at h
      exact zk_row_bin (hn0 ▸ h.2.2.1) hS (fun r _ => by rw [zk_e0 h.1, zk_e0 h.2.1]; rfl) (fun hP kk => by rw [zk_e0 h.1, zk_e0 h.2.1]; exact lv_ior hx hb hd kk) (hK _ _ h.2.2.2)
    · cases h
  · split at h
    · rename_i w v S hS
      simp only [Bool.and_eq_true, decide_eq_true_eq] at h
      exact zk_row_bin (hn0 ▸ h.2.2.1) hS (fun r _ => by rw [zk_e0 h.1, zk_e0 h.2.1]; rfl) (fun hP kk => by rw [zk_e0 h.1, zk_e0 h.2.1]; exact lv_ishl hx hb hd kk) (hK _ _ h.2.2.2)
    · cases h
  · split at h
    · rename_i w v S hS
      simp only [Bool.and_eq_true, decide_eq_true_eq] at h
      exact zk_row_bin (hn0 ▸ h.2.2.1) hS (fun r _ => by rw [zk_e0 h.1, zk_e0 h.2.1]; rfl) (fun hP kk => by rw [zk_e0 h.1, zk_e0 h.2.1]; exact lv_ishr hx hb hd kk) (hK _ _ h.2.2.2)
    · cases h
  · split at h
    · rename_i w v S hS
      simp only [Bool.and_eq_true, decide_eq_true_eq] at h
      exact zk_row_bin (hn0 ▸ h.2.2.1) hS (fun r _ => by rw [zk_e0 h.1, zk_e0 h.2.1]; rfl) (fun hP kk => by rw [zk_e0 h.1, zk_e0 h.2.1]; exact lv_iushr hx hb hd rfl kk) (hK _ _ h.2.2.2)
    · cases h
  · split at h
    · rename_i w v S hS
      simp only [Bool.and_eq_true, decide_eq_true_eq] at h
      exact zk_row_bin (hn0 ▸ h.2.2.1) hS (fun r _ => by rw [zk_e1 h.1, zk_e1 h.2.1]; rfl) (fun hP kk => by rw [zk_e1 h.1, zk_e1 h.2.1]; exact lv_ladd hx hb hd kk) (hK _ _ h.2.2.2)
    · cases h
  · split at h
    · rename_i w v S hS
      simp only [Bool.and_eq_true, decide_eq_true_eq] at h
      exact zk_row_bin (hn0 ▸ h.2.2.1) hS (fun r _ => by rw [zk_e1 h.1, zk_e1 h.2.1]; rfl) (fun hP kk => by rw [zk_e1 h.1, zk_e1 h.2.1]; exact lv_lsub hx hb hd kk) (hK _ _ h.2.2.2)
    · cases h
  · split at h
    · rename_i w v S hS
      simp only [Bool.and_eq_true, decide_eq_true_eq] at h
      exact zk_row_bin (hn0 ▸ h.2.2.1) hS (fun r _ => by rw [zk_e1 h.1, zk_e1 h.2.1]; rfl) (fun hP kk => by rw [zk_e1 h.1, zk_e1 h.2.1]; exact lv_lmul hx hb hd kk) (hK _ _ h.2.2.2)
    · cases h
  · split at h
    · rename_i w v S hS
      simp only [Bool.and_eq_true, decide_eq_true_eq] at h
      exact zk_row_bin (hn0 ▸ h.2.2.2.1) hS (fun r _ => by rw [zk_e1 h.1, zk_e1 h.2.1]; rfl) (fun hP kk => by rw [zk_e1 h.1, zk_e1 h.2.1]; exact lv_ldiv hx hb hd (zk_nz64 hP h.2.1 h.2.2.1) kk) (hK _ _ h.2.2.2.2)
    · cases h
  · split at h
    · rename_i w v S hS
      simp only [Bool.and_eq_true, decide_eq_true_eq] at h
      exact zk_row_bin (hn0 ▸ h.2.2.2.1) hS (fun r _ => by rw [zk_e1 h.1, zk_e1 h.2.1]; rfl) (fun hP kk => by rw [zk_e1 h.1, zk_e1 h.2.1]; exact lv_lrem hx hb hd (zk_nz64 hP h.2.1 h.2.2.1) kk) (hK _ _ h.2.2.2.2)
    · cases h
  · split at h
    · rename_i w v S hS
      simp only [Bool.and_eq_true, decide_eq_true_eq] at h
      exact zk_row_bin (hn0 ▸ h.2.2.1) hS (fun r _ => by rw [zk_e1 h.1, zk_e1 h.2.1]; rfl) (fun hP kk => by rw [zk_e1 h.1, zk_e1 h.2.1]; exact lv_land hx hb hd kk) (hK _ _ h.2.2.2)
    · cases h
  · split at h
    · rename_i w v S hS
      simp only [Bool.and_eq_true, decide_eq_true_eq] at h
      exact zk_row_bin (hn0 ▸ h.2.2.1) hS (fun r _ => by rw [zk_e1 h.1, zk_e1 h.2.1]; rfl) (fun hP kk => by rw [zk_e1 h.1, zk_e1 h.2.1]; exact lv_lor hx hb hd kk) (hK _ _ h.2.2.2)
    · cases h
  · split at h
    · rename_i w v S hS
      simp only [Bool.and_eq_true, decide_eq_true_eq] at h
      exact zk_row_bin (hn0 ▸ h.2.2.1) hS (fun r _ => by rw [zk_e1 h.1, zk_e1 h.2.1]; rfl) (fun hP kk => by rw [zk_e1 h.1, zk_e1 h.2.1]; exact lv_lxor hx hb hd kk) (hK _ _ h.2.2.2)
    · cases h
  · split at h
    · rename_i w v S hS
      simp only [Bool.and_eq_true, decide_eq_true_eq] at h
      exact zk_row_bin (hn0 ▸ h.2.2.1) hS (fun r _ => by rw [zk_e1 h.1, zk_e0 h.2.1]; rfl) (fun hP kk => by rw [zk_e1 h.1, zk_e0 h.2.1]; exact lv_lshl hx hb hd rfl kk) (hK _ _ h.2.2.2)
    · cases h
  · split at h
    · rename_i w v S hS
      simp only [Bool.and_eq_true, decide_eq_true_eq] at h
      exact zk_row_bin (hn0 ▸ h.2.2.1) hS (fun r _ => by rw [zk_e1 h.1, zk_e0 h.2.1]; rfl) (fun hP kk => by rw [zk_e1 h.1, zk_e0 h.2.1]; exact lv_lshr hx hb hd rfl kk) (hK _ _ h.2.2.2)
    · cases h
  · split at h
    · rename_i w v S hS
      simp only [Bool.and_eq_true, decide_eq_true_eq] at h
      exact zk_row_bin (hn0 ▸ h.2.2.1) hS (fun r _ => by rw [zk_e1 h.1, zk_e0 h.2.1]; rfl) (fun hP kk => by rw [zk_e1 h.1, zk_e0 h.2.1]; exact lv_lushr hx hb hd rfl kk) (hK _ _ h.2.2.2)
    · cases h
  · split at h
    · rename_i v S hS
      simp only [Bool.and_eq_true, decide_eq_true_eq] at h
      have hok : zk_ok E.2.1.1 A = true := hn0 ▸ h.2.1
      refine zk_row_ap hok (fun u hu => by rw [hS]; simp [hu]) (fun hP h0 => ⟨_, zk_un0_ok (zk_okP hok) hP (zk_okS hok (by rw [hS]; simp)), fun kk => ?_⟩) (hK _ _ h.2.2)
      rw [hS, List.map_cons, zk_e0 h.1]
      exact lv_i2l hx hb hd rfl kk
    · cases h
  · split at h
    · rename_i v S hS
      simp only [Bool.and_eq_true, decide_eq_true_eq] at h
      have hok : zk_ok E.2.1.1 A = true := hn0 ▸ h.2.1
      refine zk_row_ap hok (fun u hu => by rw [hS]; simp [hu]) (fun hP h0 => ⟨_, zk_un1_ok (zk_okP hok) hP (zk_okS hok (by rw [hS]; simp)), fun kk => ?_⟩) (hK _ _ h.2.2)
      rw [hS, List.map_cons, zk_e1 h.1]
      exact lv_l2i hx hb hd rfl kk
    · cases h
  · split at h
    · rename_i v S hS
      simp only [Bool.and_eq_true, decide_eq_true_eq] at h
      have hok : zk_ok E.2.1.1 A = true := hn0 ▸ h.2.1
      refine zk_row_ap hok (fun u hu => by rw [hS]; simp [hu]) (fun hP h0 => ⟨_, zk_un2_ok (zk_okP hok) hP (zk_okS hok (by rw [hS]; simp)) h.1, fun kk => ?_⟩) (hK _ _ h.2.2)
      rw [hS, List.map_cons, zk_e0 h.1]
      exact lv_i2b hx hb hd rfl kk
    · cases h
  · split at h
    · rename_i w v S hS
      simp only [Bool.and_eq_true, decide_eq_true_eq] at h
      have hok : zk_ok E.2.1.1 A = true := hn0 ▸ h.2.2.2.2.1
      refine zk_row_ap hok (fun u hu => by rw [hS]; simp [hu]) (fun hP h0 => ⟨_, zk_lc_ok (zk_okP hok) hP (zk_okS hok (by rw [hS]; simp)) (zk_okS hok (by rw [hS]; simp)) h.2.2.1 h.2.2.2.1, fun kk => ?_⟩) (hK _ _ h.2.2.2.2.2)
      rw [hS, List.map_cons, List.map_cons, zk_e1 h.1, zk_e1 h.2.1]
      exact W.lcmp hx hb hd kk
    · cases h
  · rename_i cd o
    simp only [Bool.and_eq_true, decide_eq_true_eq] at h
    obtain ⟨ho, h⟩ := h
    split at h
    · rename_i v S hS
      refine zk_row_br hK h (fun {H locs cells slots ls r x y} h0 ev ew kt kf => ?_)
      rw [hS, List.map_cons, ev]
      have ey : y = 0 := by
        have e1 : zk_c r (0, 0, 0) = .int (Int32.ofInt (r 0 + 0)) := rfl
        rw [e1, h0] at ew
        injection ew with e2
        rw [← e2]
        rfl
      subst ey
      have ht := (Int.toNat_of_nonneg ho).symm
      cases cd <;> simp only [zk_mc] at kt kf
      · exact lv_if_eq hx hb hd ht kt kf
      · exact lv_if_ne hx hb hd ht kt (fun q => kf (fun q2 => q2 q))
      · exact lv_if_lt hx hb hd ht kt kf
      · exact lv_if_ge hx hb hd ht kt kf
      · exact lv_if_gt hx hb hd ht kt kf
      · exact lv_if_le hx hb hd ht kt kf
    · cases h
  · rename_i cd o
    simp only [Bool.and_eq_true, decide_eq_true_eq] at h
    obtain ⟨ho, h⟩ := h
    split at h
    · rename_i w v S hS
      refine zk_row_br hK h (fun {H locs cells slots ls r x y} h0 ev ew kt kf => ?_)
      rw [hS, List.map_cons, List.map_cons, ev, ew]
      have ht := (Int.toNat_of_nonneg ho).symm
      cases cd <;> simp only [zk_mc] at kt kf
      · exact lv_icmp_eq hx hb hd ht kt kf
      · exact lv_icmp_ne hx hb hd ht kt (fun q => kf (fun q2 => q2 q))
      · exact lv_icmp_lt hx hb hd ht kt kf
      · exact lv_icmp_ge hx hb hd ht kt kf
      · exact lv_icmp_gt hx hb hd ht kt kf
      · exact lv_icmp_le hx hb hd ht kt kf
    · cases h
  · rename_i d lo hi offs
    split at h
    · rename_i v S hS
      exact zk_row_sw hx hb hK hS hd h
    · cases h
  · cases h
end
