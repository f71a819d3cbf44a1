/-! THE CHECKER, 4: every operation of two numbers. -/
theorem zk_m32div {a b : Int} (h1 : 0 ≤ a) (h2 : 1 ≤ b) (h3 : a ≤ 2147483647) (h4 : b ≤ 2147483647) : Int32.ofInt a / Int32.ofInt b = Int32.ofInt (a / b) := by
  apply Int32.toInt_inj.mp
  have e1 : a / b ≤ a := Int.ediv_le_self _ h1
  have e2 : 0 ≤ a / b := Int.ediv_nonneg h1 (by omega)
  rw [Int32.toInt_div, zk_i32 (by omega) h3, zk_i32 (by omega) h4, zk_i32 (by omega) (by omega), Int.tdiv_eq_ediv_of_nonneg h1]
  rw [Int.bmod_eq_of_le (by omega) (by omega)]
theorem zk_m64div {a b : Int} (h1 : 0 ≤ a) (h2 : 1 ≤ b) (h3 : a ≤ 9223372036854775807) (h4 : b ≤ 9223372036854775807) : Int64.ofInt a / Int64.ofInt b = Int64.ofInt (a / b) := by
  apply Int64.toInt_inj.mp
  have e1 : a / b ≤ a := Int.ediv_le_self _ h1
  have e2 : 0 ≤ a / b := Int.ediv_nonneg h1 (by omega)
  rw [Int64.toInt_div, zk_i64 (by omega) h3, zk_i64 (by omega) h4, zk_i64 (by omega) (by omega), Int.tdiv_eq_ediv_of_nonneg h1]
  rw [Int.bmod_eq_of_le (by omega) (by omega)]
theorem zk_m32rem {a b : Int} (h1 : 0 ≤ a) (h2 : 1 ≤ b) (h3 : a ≤ 2147483647) (h4 : b ≤ 2147483647) : Int32.ofInt a - Int32.ofInt a / Int32.ofInt b * Int32.ofInt b = Int32.ofInt (a % b) := by
  rw [zk_m32div h1 h2 h3 h4, ← Int32.ofInt_mul, ← Int32.ofInt_sub]
  congr 1
  have := Int.mul_ediv_add_emod a b
  rw [Int.mul_comm] at this
  omega
theorem zk_m64rem {a b : Int} (h1 : 0 ≤ a) (h2 : 1 ≤ b) (h3 : a ≤ 9223372036854775807) (h4 : b ≤ 9223372036854775807) : Int64.ofInt a - Int64.ofInt a / Int64.ofInt b * Int64.ofInt b = Int64.ofInt (a % b) := by
  rw [zk_m64div h1 h2 h3 h4, ← Int64.ofInt_mul, ← Int64.ofInt_sub]
  congr 1
  have := Int.mul_ediv_add_emod a b
  rw [Int.mul_comm] at this
  omega
theorem zk_bvand {w : Nat} (x y : BitVec w) (hw : 0 < w) (hy : 0 ≤ y.toInt) : 0 ≤ (x &&& y).toInt ∧ (x &&& y).toInt ≤ y.toInt := by
  have h1 : (x &&& y).toNat ≤ y.toNat := by rw [BitVec.toNat_and]; exact Nat.and_le_right
  have h2 : 2 * y.toNat < 2 ^ w := by
    rw [BitVec.toInt_eq_toNat_cond] at hy
    split at hy
    · assumption
    · have := y.isLt
      omega
  have e1 : y.toInt = y.toNat := by rw [BitVec.toInt_eq_toNat_cond, if_pos h2]
  have e2 : (x &&& y).toInt = (x &&& y).toNat := by rw [BitVec.toInt_eq_toNat_cond, if_pos (by omega)]
  rw [e1, e2]
  omega
theorem zk_s32 : ∀ j : Fin 32, ((Int32.ofInt (j.val : Int) &&& 31).toBitVec.smod 32).toNat = j.val := by decide +kernel
theorem zk_s64 : ∀ j : Fin 64, (((Int32.ofInt (j.val : Int)).toInt64 &&& 63).toBitVec.smod 64).toNat = j.val := by decide +kernel
theorem zk_m32shr {a c : Int} (h1 : 0 ≤ a) (h2 : a ≤ 2147483647) (h3 : 0 ≤ c) (h4 : c < 32) : Int32.ofInt a >>> (Int32.ofInt c &&& 31) = Int32.ofInt (a / 2 ^ c.toNat) := by
  apply Int32.toInt_inj.mp
  have hj := zk_s32 ⟨c.toNat, by omega⟩
  have hp : (0 : Int) < 2 ^ c.toNat := Int.pow_pos (by decide)
  have e1 : a / 2 ^ c.toNat ≤ a := Int.ediv_le_self _ h1
  have e2 : 0 ≤ a / 2 ^ c.toNat := Int.ediv_nonneg h1 (by omega)
  dsimp only at hj
  rw [Int.toNat_of_nonneg h3] at hj
  rw [pk_shr _ _ _ hj, zk_i32 (by omega) h2, zk_i32 (by omega) (by omega), Int.shiftRight_eq_div_pow]
  simp
theorem zk_m64shr {a c : Int} (h1 : 0 ≤ a) (h2 : a ≤ 9223372036854775807) (h3 : 0 ≤ c) (h4 : c < 64) : Int64.ofInt a >>> ((Int32.ofInt c).toInt64 &&& 63) = Int64.ofInt (a / 2 ^ c.toNat) := by
  apply Int64.toInt_inj.mp
  have hj := zk_s64 ⟨c.toNat, by omega⟩
  have hp : (0 : Int) < 2 ^ c.toNat := Int.pow_pos (by decide)
  have e1 : a / 2 ^ c.toNat ≤ a := Int.ediv_le_self _ h1
  have e2 : 0 ≤ a / 2 ^ c.toNat := Int.ediv_nonneg h1 (by omega)
  dsimp only at hj
  rw [Int.toNat_of_nonneg h3] at hj
  show ((Int64.ofInt a).toBitVec.sshiftRight (((Int32.ofInt c).toInt64 &&& 63).toBitVec.smod 64).toNat).toInt = _
  rw [hj, BitVec.toInt_sshiftRight]
  show (Int64.ofInt a).toInt >>> c.toNat = _
  rw [zk_i64 (by omega) h2, zk_i64 (by omega) (by omega), Int.shiftRight_eq_div_pow]
  simp
theorem zk_sh1 : ∀ j : Fin 31, (1 : Int32) <<< (Int32.ofInt (j.val : Int) &&& 31) = Int32.ofInt (2 ^ j.val) := by decide +kernel
theorem zk_tI (y : Int32) : ∃ z, -2147483648 ≤ z ∧ z ≤ 2147483647 ∧ zk_k 0 z = .int y := ⟨y.toInt, (zk_b32 y).1, (zk_b32 y).2, by simp [zk_k]⟩
theorem zk_tL (y : Int64) : ∃ z, -9223372036854775808 ≤ z ∧ z ≤ 9223372036854775807 ∧ zk_k 1 z = .long y := ⟨y.toInt, (zk_b64 y).1, (zk_b64 y).2, by simp [zk_k]⟩
theorem zk_kt0 {t : Nat} {z : Int} {a : Int32} (h : zk_k t z = .int a) : t = 0 ∧ a = Int32.ofInt z := by
  unfold zk_k at h
  split at h <;> simp_all
theorem zk_kt1 {t : Nat} {z : Int} {a : Int64} (h : zk_k t z = .long a) : t = 1 ∧ a = Int64.ofInt z := by
  unfold zk_k at h
  split at h <;> simp_all
set_option maxHeartbeats 1000000 in
theorem zk_a8 : ∀ j : Fin 128, Int32.ofInt (j.val : Int) &&& Int32.ofInt 255 = Int32.ofInt (j.val : Int) := by decide +kernel
theorem zk_a8n : ∀ j : Fin 128, Int32.ofInt ((j.val : Int) - 128) &&& Int32.ofInt 255 = Int32.ofInt ((j.val : Int) + 128) := by decide +kernel
theorem zk_bin_ok {r : Nat → Int} {n o : Nat} {P : zP} {v w : zV} {x : Value} (hf : zk_fP n P = true) (h : zk_P r P) (h0 : r 0 = 0) (hv : v.2.1 < n) (hw : w.2.1 < n) (hx : zk_f o (zk_c r v) (zk_c r w) = some x) : zk_G r n (zk_bin o n P v w) x := by
  unfold zk_f at hx
  have hn : 0 < n := by omega
  split at hx
  · rename_i a b ea eb
    obtain ⟨et, rfl⟩ := zk_kt0 ea
    obtain ⟨-, rfl⟩ := zk_kt0 eb
    split at hx <;> cases hx
    · exact zk_add_ok hf h h0 hv hw (by simp [zk_k, Int32.ofInt_add]) (zk_tI _)
    · exact zk_sub_ok hf h h0 hv hw (by simp [zk_k, Int32.ofInt_sub]) (zk_tI _)
    · exact zk_mul_ok hf h h0 hn (by simp [zk_k, Int32.ofInt_mul]) (zk_tI _)
    · exact zk_div_ok hf h hv (fun g1 g2 g3 g4 => by simp only [zk_k]; rw [zk_m32div g1 g2 g3 g4]) (zk_tI _)
    · exact zk_rem_ok hf h h0 hn hv hw (fun g1 g2 g3 g4 => by simp only [zk_k]; rw [zk_m32rem g1 g2 g3 g4]) (zk_tI _)
    · show zk_G r n (zk_and8 n P v w) _
      unfold zk_and8
      split
      · rename_i hc
        have hb := zk_inb_ok h hc.2
        refine zk_G_old hf h hv ?_
        have ew : zk_n r w = 255 := by rw [hc.1]; unfold zk_n; dsimp only; rw [h0]; omega
        rw [ew]
        unfold zk_c
        rw [et]
        have := zk_a8 ⟨(zk_n r v).toNat, by omega⟩
        dsimp only at this
        rw [show (((zk_n r v).toNat : Nat) : Int) = zk_n r v by omega] at this
        show Value.int _ = Value.int _
        rw [this]
      split
      · rename_i hc
        have hb := zk_inb_ok h hc.2
        refine zk_G_old hf h hv ?_
        have ew : zk_n r w = 255 := by rw [hc.1]; unfold zk_n; dsimp only; rw [h0]; omega
        rw [ew]
        unfold zk_c
        dsimp only
        rw [et]
        have := zk_a8n ⟨(zk_n r v + 128).toNat, by omega⟩
        dsimp only at this
        rw [show (((zk_n r v + 128).toNat : Nat) : Int) - 128 = zk_n r v by omega, show (((zk_n r v + 128).toNat : Nat) : Int) + 128 = zk_n r (v.1, v.2.1, v.2.2 + 256) by unfold zk_n at *; dsimp only; omega] at this
        show Value.int _ = Value.int _
        rw [this]
        rw [et]
      refine zk_and_ok (v := v) hf h (fun g1 g2 => ?_) (zk_tI _)
      have e1 := zk_i32 (a := zk_n r w) (by omega) g2
      have e2 := zk_bvand (Int32.ofInt (zk_n r v)).toBitVec (Int32.ofInt (zk_n r w)).toBitVec (by decide) (by show 0 ≤ (Int32.ofInt (zk_n r w)).toInt; omega)
      refine ⟨(Int32.ofInt (zk_n r v) &&& Int32.ofInt (zk_n r w)).toInt, e2.1, ?_, by simp [zk_k]⟩
      exact Int.le_trans e2.2 (by show (Int32.ofInt (zk_n r w)).toInt ≤ _; omega)
    · exact zk_G_top hf h (zk_tI _)
    · exact zk_G_top hf h (zk_tI _)
    · show zk_G r n (zk_shl1 n P v w) _
      unfold zk_shl1
      split
      · rename_i b hb
        split
        · rename_i hc
          have h2 := zk_r_ok h hb
          have hv1 : zk_n r v = 1 := by rw [hc.1]; unfold zk_n; dsimp only; rw [h0]; omega
          have hj := zk_sh1 ⟨(zk_n r w).toNat, by omega⟩
          dsimp only at hj
          rw [Int.toNat_of_nonneg (by omega)] at hj
          refine zk_G_nw hf h (z := 2 ^ (zk_n r w).toNat) ?_ ⟨?_, ?_⟩ (fun q hq => by cases hq)
          · simp only [zk_k]
            rw [← hj, hv1]
            rfl
          · have : (0 : Int) < 2 ^ (zk_n r w).toNat := Int.pow_pos (by decide)
            omega
          · have e3 : (2 : Nat) ^ (zk_n r w).toNat ≤ 2 ^ b.2.toNat := Nat.pow_le_pow_right (by decide) (by omega)
            have e4 : ((2 ^ (zk_n r w).toNat : Nat) : Int) ≤ ((2 ^ b.2.toNat : Nat) : Int) := by exact_mod_cast e3
            simpa using e4
        · exact zk_G_top hf h (zk_tI _)
      · exact zk_G_top hf h (zk_tI _)
    · exact zk_shr_ok hf h h0 hv (fun g1 g2 g3 g4 => by simp only [zk_k]; rw [zk_m32shr g1 g2 g3 g4]) (zk_tI _)
    · exact zk_G_top hf h (zk_tI _)
  · rename_i a b ea eb
    obtain ⟨-, rfl⟩ := zk_kt1 ea
    obtain ⟨-, rfl⟩ := zk_kt1 eb
    split at hx <;> cases hx
    · exact zk_add_ok hf h h0 hv hw (by simp [zk_k, Int64.ofInt_add]) (zk_tL _)
    · exact zk_sub_ok hf h h0 hv hw (by simp [zk_k, Int64.ofInt_sub]) (zk_tL _)
    · exact zk_mul_ok hf h h0 hn (by simp [zk_k, Int64.ofInt_mul]) (zk_tL _)
    · exact zk_div_ok hf h hv (fun g1 g2 g3 g4 => by simp only [zk_k]; rw [zk_m64div g1 g2 g3 g4]) (zk_tL _)
    · exact zk_rem_ok hf h h0 hn hv hw (fun g1 g2 g3 g4 => by simp only [zk_k]; rw [zk_m64rem g1 g2 g3 g4]) (zk_tL _)
    · refine zk_and_ok (v := v) hf h (fun g1 g2 => ?_) (zk_tL _)
      have e1 := zk_i64 (a := zk_n r w) (by omega) g2
      have e2 := zk_bvand (Int64.ofInt (zk_n r v)).toBitVec (Int64.ofInt (zk_n r w)).toBitVec (by decide) (by show 0 ≤ (Int64.ofInt (zk_n r w)).toInt; omega)
      refine ⟨(Int64.ofInt (zk_n r v) &&& Int64.ofInt (zk_n r w)).toInt, e2.1, ?_, by simp [zk_k]⟩
      exact Int.le_trans e2.2 (by show (Int64.ofInt (zk_n r w)).toInt ≤ _; omega)
    · exact zk_G_top hf h (zk_tL _)
    · exact zk_G_top hf h (zk_tL _)
  · rename_i a b ea eb
    obtain ⟨-, rfl⟩ := zk_kt1 ea
    obtain ⟨-, rfl⟩ := zk_kt0 eb
    split at hx <;> cases hx
    · exact zk_G_top hf h (zk_tL _)
    · exact zk_shr_ok hf h h0 hv (fun g1 g2 g3 g4 => by simp only [zk_k]; rw [zk_m64shr g1 g2 g3 g4]) (zk_tL _)
    · exact zk_G_top hf h (zk_tL _)
  · cases hx
