def zs_Pc (adK adV : Nat → Nat) (A : Nat → Prop) (as : List Value) : Array Value → State → Prop := fun a U => a = as.toArray ∧ zs_S adK adV A U U.heap
def zs_Qc (v : Option Value) : Array Value → State → Outcome → State → Prop := fun _ s o t => o = .returned v ∧ t.heap = s.heap
theorem zs_blind {adK adV : Nat → Nat} {A : Nat → Prop} {as : List Value} : FrameBlind (zs_Pc adK adV A as) := fun a U g mk h => ⟨h.1, zs_S.moved (u := U) (U := U.calling g mk a) (Vm.Alike.refl U.vm) h.2⟩
theorem zs_at {adK adV : Nat → Nat} {A : Nat → Prop} {as : List Value} {s : State} {H : Heap} (h : zs_S adK adV A s H) (U : State) (hU : U.heap = H) (hW : s.WarmedH U.vm) : zs_Pc adK adV A as as.toArray U := ⟨rfl, by rw [hU]; exact zs_S.moved hW.alike h⟩
def zs_q0 : zQ := ((0, 0), ([], ([], [], [], []), ([], [], [], [], [], [])), [], ([], []), (0, 0))
def zs_rm (f l : Nat) : Room := { frames := f, cells := 0, slots := 0, locals := l }
def zs_M (y : MethodName) (b : ByteArray) (n : Nat) (rt : Option FieldType) (f l : Nat) : zM := (y, b, n, rt, zs_rm f l, zs_q0)
def zs_coder : zM := zs_M yJ0_coder_7d493 cJ0_coder_7d493 1 (some .byte) 1 12
def zs_lat : zM := zs_M yJ0_isLatin1_aae02 cJ0_isLatin1_aae02 1 (some .boolean) 1 12
def zs_lenm : zM := zs_M yJ0_length_8abf5 cJ0_length_8abf5 1 (some .int) 2 32
def zs_pre : zM := zs_M yJ3_checkIndex_8e157 cJ3_checkIndex_8e157 3 (some .int) 1 12
def zs_chk : zM := zs_M yJ0_checkIndex_df160 cJ0_checkIndex_df160 2 none 2 34
def zs_l1 : zM := zs_M yJ1_charAt_3b067 cJ1_charAt_3b067 2 (some .char) 3 55
def zs_cat : zM := zs_M yJ0_charAt_5068e cJ0_charAt_5068e 2 (some .char) 4 76
theorem zs_w_c_coder : Cond.code zs_coder.y zs_coder.b zs_coder.n zs_coder.rt ∈ zw := zk_wb_ok (p := 567) (by decide +kernel)
theorem zs_w_c_lat : Cond.code zs_lat.y zs_lat.b zs_lat.n zs_lat.rt ∈ zw := zk_wb_ok (p := 577) (by decide +kernel)
theorem zs_w_c_lenm : Cond.code zs_lenm.y zs_lenm.b zs_lenm.n zs_lenm.rt ∈ zw := zk_wb_ok (p := 563) (by decide +kernel)
theorem zs_w_c_pre : Cond.code zs_pre.y zs_pre.b zs_pre.n zs_pre.rt ∈ zw := zk_wb_ok (p := 588) (by decide +kernel)
theorem zs_w_c_chk : Cond.code zs_chk.y zs_chk.b zs_chk.n zs_chk.rt ∈ zw := zk_wb_ok (p := 583) (by decide +kernel)
theorem zs_w_c_l1 : Cond.code zs_l1.y zs_l1.b zs_l1.n zs_l1.rt ∈ zw := zk_wb_ok (p := 580) (by decide +kernel)
theorem zs_w_c_cat : Cond.code zs_cat.y zs_cat.b zs_cat.n zs_cat.rt ∈ zw := zk_wb_ok (p := 573) (by decide +kernel)
theorem zs_w_f38 : Cond.fieldLink RJ0 38 "java/lang/String" "COMPACT_STRINGS" "Z" ∈ zw := zk_wb_ok (p := 568) (by decide +kernel)
theorem zs_w_f15 : Cond.fieldLink RJ0 15 "java/lang/String" "coder" "B" ∈ zw := zk_wb_ok (p := 1710) (by decide +kernel)
theorem zs_w_f9 : Cond.fieldLink RJ0 9 "java/lang/String" "value" "[B" ∈ zw := zk_wb_ok (p := 1709) (by decide +kernel)
theorem zs_w_f1053 : Cond.fieldLink RJ0 1053 "jdk/internal/util/Preconditions" "SIOOBE_FORMATTER" "Ljava/util/function/BiFunction;" ∈ zw := zk_wb_ok (p := 584) (by decide +kernel)
theorem zs_w_m335 : Cond.methodLink RJ0 335 yJ0_coder_7d493 ∈ zw := zk_wb_ok (p := 564) (by decide +kernel)
theorem zs_w_m492 : Cond.methodLink RJ0 492 yJ0_isLatin1_aae02 ∈ zw := zk_wb_ok (p := 574) (by decide +kernel)
theorem zs_w_m495 : Cond.methodLink RJ0 495 yJ1_charAt_3b067 ∈ zw := zk_wb_ok (p := 578) (by decide +kernel)
theorem zs_w_m9 : Cond.methodLink RJ1 9 yJ0_checkIndex_df160 ∈ zw := zk_wb_ok (p := 581) (by decide +kernel)
theorem zs_w_m1059 : Cond.methodLink RJ0 1059 yJ3_checkIndex_8e157 ∈ zw := zk_wb_ok (p := 586) (by decide +kernel)
theorem zs_w_i_coder : Cond.instanceMethod yJ0_coder_7d493 ∈ zw := zk_wb_ok (p := 565) (by decide +kernel)
theorem zs_w_s_coder : Cond.selects "java/lang/String" yJ0_coder_7d493 yJ0_coder_7d493 ∈ zw := zk_wb_ok (p := 566) (by decide +kernel)
theorem zs_w_i_lat : Cond.instanceMethod yJ0_isLatin1_aae02 ∈ zw := zk_wb_ok (p := 575) (by decide +kernel)
theorem zs_w_s_lat : Cond.selects "java/lang/String" yJ0_isLatin1_aae02 yJ0_isLatin1_aae02 ∈ zw := zk_wb_ok (p := 576) (by decide +kernel)
theorem zs_w_i_lenm : Cond.instanceMethod yJ0_length_8abf5 ∈ zw := zk_wb_ok (p := 561) (by decide +kernel)
theorem zs_w_s_lenm : Cond.selects "java/lang/String" yJ0_length_8abf5 yJ0_length_8abf5 ∈ zw := zk_wb_ok (p := 562) (by decide +kernel)
theorem zs_w_i_cat : Cond.instanceMethod yJ0_charAt_5068e ∈ zw := zk_wb_ok (p := 571) (by decide +kernel)
theorem zs_w_s_cat : Cond.selects "java/lang/String" yJ0_charAt_5068e yJ0_charAt_5068e ∈ zw := zk_wb_ok (p := 572) (by decide +kernel)
theorem zs_w_t_l1 : Cond.static yJ1_charAt_3b067 ∈ zw := zk_wb_ok (p := 579) (by decide +kernel)
theorem zs_w_t_chk : Cond.static yJ0_checkIndex_df160 ∈ zw := zk_wb_ok (p := 582) (by decide +kernel)
theorem zs_w_t_pre : Cond.static yJ3_checkIndex_8e157 ∈ zw := zk_wb_ok (p := 587) (by decide +kernel)
theorem zs_w_n_S : Cond.initialized "java/lang/String" ∈ zw := zk_wb_ok (p := 87) (by decide +kernel)
theorem zs_w_n_L : Cond.initialized "java/lang/StringLatin1" ∈ zw := zk_wb_ok (p := 88) (by decide +kernel)
theorem zs_w_n_P : Cond.initialized "jdk/internal/util/Preconditions" ∈ zw := zk_wb_ok (p := 89) (by decide +kernel)
theorem zd_coder_0 : decode cJ0_coder_7d493 0 = .ok (.getstatic 38, 3) := by decide +kernel
theorem zd_coder_3 : decode cJ0_coder_7d493 3 = .ok (.ifCond .eq 10, 3) := by decide +kernel
theorem zd_coder_6 : decode cJ0_coder_7d493 6 = .ok (.aload_n 0, 1) := by decide +kernel
theorem zd_coder_7 : decode cJ0_coder_7d493 7 = .ok (.getfield 15, 3) := by decide +kernel
theorem zd_coder_10 : decode cJ0_coder_7d493 10 = .ok (.goto 4, 3) := by decide +kernel
theorem zd_coder_13 : decode cJ0_coder_7d493 13 = .ok (.iconst 1, 1) := by decide +kernel
theorem zd_coder_14 : decode cJ0_coder_7d493 14 = .ok (.ireturn, 1) := by decide +kernel
theorem zd_lat_0 : decode cJ0_isLatin1_aae02 0 = .ok (.getstatic 38, 3) := by decide +kernel
theorem zd_lat_3 : decode cJ0_isLatin1_aae02 3 = .ok (.ifCond .eq 14, 3) := by decide +kernel
theorem zd_lat_6 : decode cJ0_isLatin1_aae02 6 = .ok (.aload_n 0, 1) := by decide +kernel
theorem zd_lat_7 : decode cJ0_isLatin1_aae02 7 = .ok (.getfield 15, 3) := by decide +kernel
theorem zd_lat_10 : decode cJ0_isLatin1_aae02 10 = .ok (.ifCond .ne 7, 3) := by decide +kernel
theorem zd_lat_13 : decode cJ0_isLatin1_aae02 13 = .ok (.iconst 1, 1) := by decide +kernel
theorem zd_lat_14 : decode cJ0_isLatin1_aae02 14 = .ok (.goto 4, 3) := by decide +kernel
theorem zd_lat_17 : decode cJ0_isLatin1_aae02 17 = .ok (.iconst 0, 1) := by decide +kernel
theorem zd_lat_18 : decode cJ0_isLatin1_aae02 18 = .ok (.ireturn, 1) := by decide +kernel
theorem zd_lenm_0 : decode cJ0_length_8abf5 0 = .ok (.aload_n 0, 1) := by decide +kernel
theorem zd_lenm_1 : decode cJ0_length_8abf5 1 = .ok (.getfield 9, 3) := by decide +kernel
theorem zd_lenm_4 : decode cJ0_length_8abf5 4 = .ok (.arraylength, 1) := by decide +kernel
theorem zd_lenm_5 : decode cJ0_length_8abf5 5 = .ok (.aload_n 0, 1) := by decide +kernel
theorem zd_lenm_6 : decode cJ0_length_8abf5 6 = .ok (.invokevirtual 335, 3) := by decide +kernel
theorem zd_lenm_9 : decode cJ0_length_8abf5 9 = .ok (.ishr, 1) := by decide +kernel
theorem zd_lenm_10 : decode cJ0_length_8abf5 10 = .ok (.ireturn, 1) := by decide +kernel
theorem zd_pre_0 : decode cJ3_checkIndex_8e157 0 = .ok (.iload_n 0, 1) := by decide +kernel
theorem zd_pre_1 : decode cJ3_checkIndex_8e157 1 = .ok (.ifCond .lt 8, 3) := by decide +kernel
theorem zd_pre_4 : decode cJ3_checkIndex_8e157 4 = .ok (.iload_n 0, 1) := by decide +kernel
theorem zd_pre_5 : decode cJ3_checkIndex_8e157 5 = .ok (.iload_n 1, 1) := by decide +kernel
theorem zd_pre_6 : decode cJ3_checkIndex_8e157 6 = .ok (.if_icmp .lt 10, 3) := by decide +kernel
theorem zd_pre_9 : decode cJ3_checkIndex_8e157 9 = .ok (.aload_n 2, 1) := by decide +kernel
theorem zd_pre_10 : decode cJ3_checkIndex_8e157 10 = .ok (.iload_n 0, 1) := by decide +kernel
theorem zd_pre_11 : decode cJ3_checkIndex_8e157 11 = .ok (.iload_n 1, 1) := by decide +kernel
theorem zd_pre_12 : decode cJ3_checkIndex_8e157 12 = .ok (.invokestatic 95, 3) := by decide +kernel
theorem zd_pre_15 : decode cJ3_checkIndex_8e157 15 = .ok (.athrow, 1) := by decide +kernel
theorem zd_pre_16 : decode cJ3_checkIndex_8e157 16 = .ok (.iload_n 0, 1) := by decide +kernel
theorem zd_pre_17 : decode cJ3_checkIndex_8e157 17 = .ok (.ireturn, 1) := by decide +kernel
theorem zd_chk_0 : decode cJ0_checkIndex_df160 0 = .ok (.iload_n 0, 1) := by decide +kernel
theorem zd_chk_1 : decode cJ0_checkIndex_df160 1 = .ok (.iload_n 1, 1) := by decide +kernel
theorem zd_chk_2 : decode cJ0_checkIndex_df160 2 = .ok (.getstatic 1053, 3) := by decide +kernel
theorem zd_chk_5 : decode cJ0_checkIndex_df160 5 = .ok (.invokestatic 1059, 3) := by decide +kernel
theorem zd_chk_8 : decode cJ0_checkIndex_df160 8 = .ok (.pop, 1) := by decide +kernel
theorem zd_chk_9 : decode cJ0_checkIndex_df160 9 = .ok (.return_, 1) := by decide +kernel
theorem zd_l1_0 : decode cJ1_charAt_3b067 0 = .ok (.iload_n 1, 1) := by decide +kernel
theorem zd_l1_1 : decode cJ1_charAt_3b067 1 = .ok (.aload_n 0, 1) := by decide +kernel
theorem zd_l1_2 : decode cJ1_charAt_3b067 2 = .ok (.arraylength, 1) := by decide +kernel
theorem zd_l1_3 : decode cJ1_charAt_3b067 3 = .ok (.invokestatic 9, 3) := by decide +kernel
theorem zd_l1_6 : decode cJ1_charAt_3b067 6 = .ok (.aload_n 0, 1) := by decide +kernel
theorem zd_l1_7 : decode cJ1_charAt_3b067 7 = .ok (.iload_n 1, 1) := by decide +kernel
theorem zd_l1_8 : decode cJ1_charAt_3b067 8 = .ok (.baload, 1) := by decide +kernel
theorem zd_l1_9 : decode cJ1_charAt_3b067 9 = .ok (.sipush 255, 3) := by decide +kernel
theorem zd_l1_12 : decode cJ1_charAt_3b067 12 = .ok (.iand, 1) := by decide +kernel
theorem zd_l1_13 : decode cJ1_charAt_3b067 13 = .ok (.i2c, 1) := by decide +kernel
theorem zd_l1_14 : decode cJ1_charAt_3b067 14 = .ok (.ireturn, 1) := by decide +kernel
theorem zd_cat_0 : decode cJ0_charAt_5068e 0 = .ok (.aload_n 0, 1) := by decide +kernel
theorem zd_cat_1 : decode cJ0_charAt_5068e 1 = .ok (.invokevirtual 492, 3) := by decide +kernel
theorem zd_cat_4 : decode cJ0_charAt_5068e 4 = .ok (.ifCond .eq 12, 3) := by decide +kernel
theorem zd_cat_7 : decode cJ0_charAt_5068e 7 = .ok (.aload_n 0, 1) := by decide +kernel
theorem zd_cat_8 : decode cJ0_charAt_5068e 8 = .ok (.getfield 9, 3) := by decide +kernel
theorem zd_cat_11 : decode cJ0_charAt_5068e 11 = .ok (.iload_n 1, 1) := by decide +kernel
theorem zd_cat_12 : decode cJ0_charAt_5068e 12 = .ok (.invokestatic 495, 3) := by decide +kernel
theorem zd_cat_15 : decode cJ0_charAt_5068e 15 = .ok (.ireturn, 1) := by decide +kernel
theorem zd_cat_16 : decode cJ0_charAt_5068e 16 = .ok (.aload_n 0, 1) := by decide +kernel
theorem zd_cat_17 : decode cJ0_charAt_5068e 17 = .ok (.getfield 9, 3) := by decide +kernel
theorem zd_cat_20 : decode cJ0_charAt_5068e 20 = .ok (.iload_n 1, 1) := by decide +kernel
theorem zd_cat_21 : decode cJ0_charAt_5068e 21 = .ok (.invokestatic 498, 3) := by decide +kernel
theorem zd_cat_24 : decode cJ0_charAt_5068e 24 = .ok (.ireturn, 1) := by decide +kernel
section
variable {l : Launch} {adK adV : Nat → Nat} {A : Nat → Prop}
/-- a callee's words and room -/
theorem zs_B {R : Room} {s : State} {args : Array Value} {own : String} {idx n : Nat} {M0 M : zM} (hts : ∀ w ∈ zk_ws M0, w.before args s = true) (hc : Cond.code M.y M.b M.n M.rt ∈ zw) (hini : Cond.initialized M.y.cls ∈ zw) (hl : Cond.methodLink own idx M.y ∈ zw) (hz : M.rm.cells = 0 ∧ M.rm.slots = 0) (hd : M.y.cls ≠ "java/lang/invoke/MethodHandle" ∧ M.y.cls ≠ "java/lang/invoke/VarHandle" ∧ (parseMethodDescriptor M.y.desc).map (fun d => d.parameters.length) = some n) (hR : M.rm.frames + 1 ≤ R.frames ∧ 8 + (M.n + 11) + M.rm.locals ≤ R.locals) : CallB R s args own idx M.y M.b M.n M.rt (zk_ws M) M.rm 0 0 n :=
  callB_of n hts (zk_good M0 M hc) rfl hz.1 hz.2 (hts _ (List.mem_cons_of_mem _ hini)) (hts _ (List.mem_cons_of_mem _ hl)) hd hR
theorem zs_coder_ok {i : Nat} (hi : i < 15) : Met l zs_coder.y (zk_ws zs_coder) zs_coder.rm (zs_Pc adK adV A [.ref (adK i)]) (zs_Qc (some (.int 0))) 0 0 (fun _ => False) := by
  refine Met.ofW (cc := cJ0_coder_7d493) (maxL := 1) (ret := some .byte) (by decide) rfl ?_
  intro p e s m args below meth c s₁ B hml hP
  obtain ⟨rfl, hS⟩ := hP
  have hx := B.exec
  have hb := B.bytes
  have hr := B.returns
  have hts := atoms_spec (ws := zk_ws zs_coder) B.pre
  have hown : s.vm.findClass RJ0 = some m.cls := findClass_of_methodNamed B.named
  have hlocks := B.notSynchronized
  have hw : ∀ w ∈ zw, w.before _ s = true := fun w h => hts w (List.mem_cons_of_mem _ h)
  have hl := lv_entry [Value.ref (adK i)] (n := 1) (Nat.le_of_ble_eq_true rfl)
  rw [lg_entry_eq]
  refine va_gets hx hb hS.2.1 va_S.rf hown (hw _ zs_w_f38) (fun _ h => h) zd_coder_0 ?_
  refine lv_if_eq (tgt := 13) hx hb zd_coder_3 (by decide) (fun h => absurd h (by decide)) (fun _ => ?_)
  refine lv_aload_n hx hb zd_coder_6 rfl (lv_at hl 0 rfl) ?_
  refine vk_getf hx hb (hS.1.1 i hi).2.1 va_S.rf hown (hw _ zs_w_f15) (fun _ h => h) zd_coder_7 ?_
  refine lv_goto (tgt := 14) hx hb zd_coder_10 (by decide) ?_
  exact W.zret hx hb hr (by decide) (fun t ht _ => ⟨rfl, ht⟩) (fun q h => by cases h) zd_coder_14
theorem zs_lat_ok {i : Nat} (hi : i < 15) : Met l zs_lat.y (zk_ws zs_lat) zs_lat.rm (zs_Pc adK adV A [.ref (adK i)]) (zs_Qc (some (.int 1))) 0 0 (fun _ => False) := by
  refine Met.ofW (cc := cJ0_isLatin1_aae02) (maxL := 1) (ret := some .boolean) (by decide) rfl ?_
  intro p e s m args below meth c s₁ B hml hP
  obtain ⟨rfl, hS⟩ := hP
  have hx := B.exec
  have hb := B.bytes
  have hr := B.returns
  have hts := atoms_spec (ws := zk_ws zs_lat) B.pre
  have hown : s.vm.findClass RJ0 = some m.cls := findClass_of_methodNamed B.named
  have hlocks := B.notSynchronized
  have hw : ∀ w ∈ zw, w.before _ s = true := fun w h => hts w (List.mem_cons_of_mem _ h)
  have hl := lv_entry [Value.ref (adK i)] (n := 1) (Nat.le_of_ble_eq_true rfl)
  rw [lg_entry_eq]
  refine va_gets hx hb hS.2.1 va_S.rf hown (hw _ zs_w_f38) (fun _ h => h) zd_lat_0 ?_
  refine lv_if_eq (tgt := 17) hx hb zd_lat_3 (by decide) (fun h => absurd h (by decide)) (fun _ => ?_)
  refine lv_aload_n hx hb zd_lat_6 rfl (lv_at hl 0 rfl) ?_
  refine vk_getf hx hb (hS.1.1 i hi).2.1 va_S.rf hown (hw _ zs_w_f15) (fun _ h => h) zd_lat_7 ?_
  refine lv_if_ne (tgt := 17) hx hb zd_lat_10 (by decide) (fun h => absurd rfl h) (fun _ => ?_)
  refine lv_iconst (v := 1) hx hb zd_lat_13 (by decide) ?_
  refine lv_goto (tgt := 18) hx hb zd_lat_14 (by decide) ?_
  exact W.zret hx hb hr (by decide) (fun t ht _ => ⟨rfl, ht⟩) (fun q h => by cases h) zd_lat_18
theorem zs_sh : ∀ i : Fin 15, Int32.ofNat (zs_len.getD i.val 0) >>> ((0 : Int32) &&& 31) = Int32.ofNat (zs_len.getD i.val 0) := by decide +kernel
theorem zs_lenm_ok {i : Nat} (hi : i < 15) : Met l zs_lenm.y (zk_ws zs_lenm) zs_lenm.rm (zs_Pc adK adV A [.ref (adK i)]) (zs_Qc (some (.int (Int32.ofNat (zs_len.getD i 0))))) 0 0 (fun _ => False) := by
  refine Met.ofW (cc := cJ0_length_8abf5) (maxL := 1) (ret := some .int) (by decide) rfl ?_
  intro p e s m args below meth c s₁ B hml hP
  obtain ⟨rfl, hS⟩ := hP
  have hx := B.exec
  have hb := B.bytes
  have hr := B.returns
  have hts := atoms_spec (ws := zk_ws zs_lenm) B.pre
  have hown : s.vm.findClass RJ0 = some m.cls := findClass_of_methodNamed B.named
  have hlocks := B.notSynchronized
  have hw : ∀ w ∈ zw, w.before _ s = true := fun w h => hts w (List.mem_cons_of_mem _ h)
  have hl := lv_entry [Value.ref (adK i)] (n := 1) (Nat.le_of_ble_eq_true rfl)
  rw [lg_entry_eq]
  refine lv_aload_n hx hb zd_lenm_0 rfl (lv_at hl 0 rfl) ?_
  refine vk_getf hx hb (hS.1.1 i hi).2.2.1 va_S.rf hown (hw _ zs_w_f9) (fun _ h => h) zd_lenm_1 ?_
  refine va_tlen hx hb (hS.1.1 i hi).2.2.2 va_S.rf rfl zd_lenm_4 ?_
  refine lv_aload_n hx hb zd_lenm_5 rfl (lv_at hl 0 rfl) ?_
  refine W.callX (W.runV (As := []) (C := "java/lang/String") ⟨hx, hb, hml, hown, hts⟩ (zs_coder_ok (l := l) hi) ⟨zs_B hts zs_w_c_coder zs_w_n_S zs_w_m335 ⟨rfl, rfl⟩ (by decide +kernel) (by decide), hw _ zs_w_i_coder, hw _ zs_w_s_coder⟩ ⟨zs_blind, vk_recv hS.1 hi va_S.rf, fun U hU hW => zs_at hS U hU hW⟩ rfl rfl hl.1 rfl (lv_room (Nat.le_of_ble_eq_true rfl)) zd_lenm_6 (by decide)) (fun x h => h.elim) (fun v st t h1 h2 => ?_)
  obtain ⟨h3, h4⟩ := h2
  cases h3
  rw [h4, h1]
  refine lv_ishr hx hb zd_lenm_9 ?_
  have e := zs_sh ⟨i, hi⟩
  dsimp only at e
  rw [e]
  exact W.iret hx hb hr (fun t ht _ => ⟨rfl, ht⟩) (fun q h => by cases h) zd_lenm_10
end
section
variable {l : Launch} {adK adV : Nat → Nat} {A : Nat → Prop}
theorem zs_pre_ok {x n : Int32} {q : Value} (h0 : ¬ x < 0) (hn : x < n) (hq : q.category = 1) : Met l zs_pre.y (zk_ws zs_pre) zs_pre.rm (zs_Pc adK adV A [.int x, .int n, q]) (zs_Qc (some (.int x))) 0 0 (fun _ => False) := by
  refine Met.ofW (cc := cJ3_checkIndex_8e157) (maxL := 3) (ret := some .int) (by decide) rfl ?_
  intro p e s m args below meth c s₁ B hml hP
  obtain ⟨rfl, hS⟩ := hP
  have hx := B.exec
  have hb := B.bytes
  have hr := B.returns
  have hlocks := B.notSynchronized
  have hsz : (lg_sl [Value.int x, Value.int n, q]).length = 3 := by
    cases q <;> first | rfl | (simp [Value.category] at hq)
  have hl := lv_entry [Value.int x, Value.int n, q] (n := 3) (by rw [hsz]; exact Nat.le_refl _)
  rw [lg_entry_eq]
  have hl2 := lv_sub (l' := [(0, .int x), (1, .int n)]) hl [0, 1] rfl
  refine lv_iload_n hx hb zd_pre_0 rfl (lv_at hl2 0 rfl) ?_
  refine lv_if_lt (tgt := 9) hx hb zd_pre_1 (by decide) (fun h => absurd h h0) (fun _ => ?_)
  refine lv_iload_n hx hb zd_pre_4 rfl (lv_at hl2 0 rfl) ?_
  refine lv_iload_n hx hb zd_pre_5 rfl (lv_at hl2 1 rfl) ?_
  refine lv_icmp_lt (tgt := 16) hx hb zd_pre_6 (by decide) (fun _ => ?_) (fun h => absurd hn h)
  refine lv_iload_n hx hb zd_pre_16 rfl (lv_at hl2 0 rfl) ?_
  exact W.iret hx hb hr (fun t ht _ => ⟨rfl, ht⟩) (fun q h => by cases h) zd_pre_17
theorem zs_chk_ok {x n : Int32} (h0 : ¬ x < 0) (hn : x < n) : Met l zs_chk.y (zk_ws zs_chk) zs_chk.rm (zs_Pc adK adV A [.int x, .int n]) (zs_Qc none) 0 0 (fun _ => False) := by
  refine Met.ofW (cc := cJ0_checkIndex_df160) (maxL := 2) (ret := none) (by decide) rfl ?_
  intro p e s m args below meth c s₁ B hml hP
  obtain ⟨rfl, hS⟩ := hP
  have hx := B.exec
  have hb := B.bytes
  have hr := B.returns
  have hts := atoms_spec (ws := zk_ws zs_chk) B.pre
  have hown : s.vm.findClass RJ0 = some m.cls := findClass_of_methodNamed B.named
  have hlocks := B.notSynchronized
  have hw : ∀ w ∈ zw, w.before _ s = true := fun w h => hts w (List.mem_cons_of_mem _ h)
  have hl := lv_entry [Value.int x, Value.int n] (n := 2) (Nat.le_of_ble_eq_true rfl)
  rw [lg_entry_eq]
  refine lv_iload_n hx hb zd_chk_0 rfl (lv_at hl 0 rfl) ?_
  refine lv_iload_n hx hb zd_chk_1 rfl (lv_at hl 1 rfl) ?_
  have go : ∀ q : Value, q.category = 1 → va_Z "jdk/internal/util/Preconditions" "SIOOBE_FORMATTER" "Ljava/util/function/BiFunction;" q A s s.heap → W p l e zs_chk.rm s m [Value.int x, Value.int n].toArray below meth c s.heap [] 0 0 (MQ below (zs_Qc none) [Value.int x, Value.int n].toArray s 0 0 (fun _ => False)) (F0 m 2 (lg_sl [Value.int x, Value.int n] ++ List.replicate (2 - (lg_sl [Value.int x, Value.int n]).length) Slot.unset).toArray [.int n, .int x]) := by
    intro q hq hZ
    refine va_gets hx hb hZ va_S.rf hown (hw _ zs_w_f1053) (fun _ h => h) zd_chk_2 ?_
    refine W.callX (W.runS (As := [.int x, .int n, q]) (rest := []) ⟨hx, hb, hml, hown, hts⟩ (zs_pre_ok (l := l) (adK := adK) (adV := adV) (A := A) h0 hn hq) ⟨zs_B (n := 3) hts zs_w_c_pre zs_w_n_P zs_w_m1059 ⟨rfl, rfl⟩ (by decide +kernel) (by decide), hw _ zs_w_t_pre⟩ ⟨zs_blind, fun U hU hW => zs_at hS U hU hW⟩ rfl rfl hl.1 rfl (lv_room (Nat.le_of_ble_eq_true rfl)) zd_chk_5 (by decide)) (fun x h => h.elim) (fun v st t h1 h2 => ?_)
    obtain ⟨h3, h4⟩ := h2
    cases h3
    rw [h4, h1]
    refine lv_pop hx hb zd_chk_8 rfl ?_
    exact W.vret hx hb hr (fun t ht _ => ⟨rfl, ht⟩) (fun q h => by cases h) zd_chk_9
  rcases hS.2.2 with hZ | ⟨q, hZ⟩
  · exact go .null rfl hZ
  · exact go (.ref q) rfl hZ
theorem zs_l1_ok {i k : Nat} (hi : i < 15) (hk : k < zs_len.getD i 0) (h0 : ¬ Int32.ofNat k < 0) (hn : Int32.ofNat k < Int32.ofNat (zs_len.getD i 0)) (hin : vp_in (Int32.ofNat k) (zs_len.getD i 0)) {v : Int32} (hv : ((((zs_byt.getD i []).getD (Int32.ofNat k).toNatClampNeg 0) &&& 255).toUInt32 % 65536).toInt32 = v) (hnar : narrow .char (.int v) = .int v) : Met l zs_l1.y (zk_ws zs_l1) zs_l1.rm (zs_Pc adK adV A [.ref (adV i), .int (Int32.ofNat k)]) (zs_Qc (some (.int v))) 0 0 (fun _ => False) := by
  refine Met.ofW (cc := cJ1_charAt_3b067) (maxL := 2) (ret := some .char) (by decide) rfl ?_
  intro p e s m args below meth c s₁ B hml hP
  obtain ⟨rfl, hS⟩ := hP
  have hx := B.exec
  have hb := B.bytes
  have hr := B.returns
  have hts := atoms_spec (ws := zk_ws zs_l1) B.pre
  have hown : s.vm.findClass RJ1 = some m.cls := findClass_of_methodNamed B.named
  have hlocks := B.notSynchronized
  have hw : ∀ w ∈ zw, w.before _ s = true := fun w h => hts w (List.mem_cons_of_mem _ h)
  have hl := lv_entry [Value.ref (adV i), Value.int (Int32.ofNat k)] (n := 2) (Nat.le_of_ble_eq_true rfl)
  rw [lg_entry_eq]
  refine lv_iload_n hx hb zd_l1_0 rfl (lv_at hl 1 rfl) ?_
  refine lv_aload_n hx hb zd_l1_1 rfl (lv_at hl 0 rfl) ?_
  refine va_tlen hx hb (hS.1.1 i hi).2.2.2 va_S.rf rfl zd_l1_2 ?_
  refine W.callX (W.runS (As := [.int (Int32.ofNat k), .int (Int32.ofNat (zs_len.getD i 0))]) (rest := []) ⟨hx, hb, hml, hown, hts⟩ (zs_chk_ok (l := l) (adK := adK) (adV := adV) (A := A) h0 hn) ⟨zs_B (n := 2) hts zs_w_c_chk zs_w_n_S zs_w_m9 ⟨rfl, rfl⟩ (by decide +kernel) (by decide), hw _ zs_w_t_chk⟩ ⟨zs_blind, fun U hU hW => zs_at hS U hU hW⟩ rfl rfl hl.1 rfl (lv_room (Nat.le_of_ble_eq_true rfl)) zd_l1_3 (by decide)) (fun x h => h.elim) (fun v st t h1 h2 => ?_)
  obtain ⟨h3, h4⟩ := h2
  cases h3
  rw [h4, h1]
  refine lv_aload_n hx hb zd_l1_6 rfl (lv_at hl 0 rfl) ?_
  refine lv_iload_n hx hb zd_l1_7 rfl (lv_at hl 1 rfl) ?_
  refine va_tb hx hb (hS.1.1 i hi).2.2.2 va_S.rf hin rfl zd_l1_8 ?_
  refine lv_sipush (v := 255) hx hb zd_l1_9 (by decide) ?_
  refine lv_iand hx hb zd_l1_12 ?_
  refine lv_i2c hx hb zd_l1_13 hv ?_
  exact W.zret hx hb hr hnar (fun t ht _ => ⟨rfl, ht⟩) (fun q h => by cases h) zd_l1_14
theorem zs_cat_ok {i k : Nat} (hi : i < 15) (hk : k < zs_len.getD i 0) (h0 : ¬ Int32.ofNat k < 0) (hn : Int32.ofNat k < Int32.ofNat (zs_len.getD i 0)) (hin : vp_in (Int32.ofNat k) (zs_len.getD i 0)) {v : Int32} (hv : ((((zs_byt.getD i []).getD (Int32.ofNat k).toNatClampNeg 0) &&& 255).toUInt32 % 65536).toInt32 = v) (hnar : narrow .char (.int v) = .int v) : Met l zs_cat.y (zk_ws zs_cat) zs_cat.rm (zs_Pc adK adV A [.ref (adK i), .int (Int32.ofNat k)]) (zs_Qc (some (.int v))) 0 0 (fun _ => False) := by
  refine Met.ofW (cc := cJ0_charAt_5068e) (maxL := 2) (ret := some .char) (by decide) rfl ?_
  intro p e s m args below meth c s₁ B hml hP
  obtain ⟨rfl, hS⟩ := hP
  have hx := B.exec
  have hb := B.bytes
  have hr := B.returns
  have hts := atoms_spec (ws := zk_ws zs_cat) B.pre
  have hown : s.vm.findClass RJ0 = some m.cls := findClass_of_methodNamed B.named
  have hlocks := B.notSynchronized
  have hw : ∀ w ∈ zw, w.before _ s = true := fun w h => hts w (List.mem_cons_of_mem _ h)
  have hl := lv_entry [Value.ref (adK i), Value.int (Int32.ofNat k)] (n := 2) (Nat.le_of_ble_eq_true rfl)
  rw [lg_entry_eq]
  refine lv_aload_n hx hb zd_cat_0 rfl (lv_at hl 0 rfl) ?_
  refine W.callX (W.runV (As := []) (rest := []) (C := "java/lang/String") ⟨hx, hb, hml, hown, hts⟩ (zs_lat_ok (l := l) hi) ⟨zs_B hts zs_w_c_lat zs_w_n_S zs_w_m492 ⟨rfl, rfl⟩ (by decide +kernel) (by decide), hw _ zs_w_i_lat, hw _ zs_w_s_lat⟩ ⟨zs_blind, vk_recv hS.1 hi va_S.rf, fun U hU hW => zs_at hS U hU hW⟩ rfl rfl hl.1 rfl (lv_room (Nat.le_of_ble_eq_true rfl)) zd_cat_1 (by decide)) (fun x h => h.elim) (fun v st t h1 h2 => ?_)
  obtain ⟨h3, h4⟩ := h2
  cases h3
  rw [h4, h1]
  refine lv_if_eq (tgt := 16) hx hb zd_cat_4 rfl (fun h => absurd h (by decide)) (fun _ => ?_)
  refine lv_aload_n hx hb zd_cat_7 rfl (lv_at hl 0 rfl) ?_
  refine vk_getf hx hb (hS.1.1 i hi).2.2.1 va_S.rf hown (hw _ zs_w_f9) (fun _ h => h) zd_cat_8 ?_
  refine lv_iload_n hx hb zd_cat_11 rfl (lv_at hl 1 rfl) ?_
  refine W.callX (W.runS (As := [.ref (adV i), .int (Int32.ofNat k)]) (rest := []) ⟨hx, hb, hml, hown, hts⟩ (zs_l1_ok (l := l) (adK := adK) (adV := adV) (A := A) hi hk h0 hn hin hv hnar) ⟨zs_B (n := 2) hts zs_w_c_l1 zs_w_n_L zs_w_m495 ⟨rfl, rfl⟩ (by decide +kernel) (by decide), hw _ zs_w_t_l1⟩ ⟨zs_blind, fun U hU hW => zs_at hS U hU hW⟩ rfl rfl hl.1 rfl (lv_room (Nat.le_of_ble_eq_true rfl)) zd_cat_12 (by decide)) (fun x h => h.elim) (fun v st t h1 h2 => ?_)
  obtain ⟨h3, h4⟩ := h2
  cases h3
  rw [h4, h1]
  exact W.zret hx hb hr hnar (fun t ht _ => ⟨rfl, ht⟩) (fun q h => by cases h) zd_cat_15
end
/-- the sign at a place of a text -/
def zs_ch (t k : Nat) : Int := ((zs_byt.getD t []).getD k 0).toInt
