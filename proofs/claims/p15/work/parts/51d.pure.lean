/-! THE FACTS, 4: all rules. -/
def zRSl : List zRs := [rS1_86, rS5_86, rS7_86, rS12_86, rS1_88, rS5_88, rS7_88, rS12_88, rS3, rS4, rS9, rS10, rS11, rW1, rW2, rW3, rH1_0, rH2_0, rH3_0, rH4_0, rH1_1, rH2_1, rH3_1, rH4_1, rT1_0, rT2_0, rT3_0, rT1_1, rT2_1, rT3_1, rZ1, rZ2, rZ3, rZ4, rZ5, rD1, rD2, rD3_114, rD4_114, rD3_115, rD4_115, rD3_116, rD4_116, rD3_118, rD4_118, rD5, rD6, rD7, rD8, rD9, rD10, rD11, rD12, rD13, rD14, rZT1A, rZT2A, rZT3A, rZT1B, rZT2B, rZT3B]
def zRUl : List zRu := [rU10, rU11, rU12, rU13, rU14, rU20, rU30, rU32, rU34, rU36, rU31, rU33, rU35, rU37, rU38, rU29, rU39, rU40, rU42, rU44, rU46, rU41, rU43, rU45, rU47, rU48, rU49, rU50, rU51, rU52, rU53, rU54, rU55, rU56, rU57, rU60, rU61, rU62, rU63, rU64, rU65, rU66, rU67, rU68, rU70, rU71, rU72, rU80, rU81, rU82, rU83, rU84, rU85, rU86, rU87, rU88, rU89, rU90, rU91, rU92, rU93, rU94, rU95, rU96, rU97, rU98, rU140, rU141, rU142, rU143, rU144, rU145, rU146, rU147, rU148, rU149, rU150, rU160, rU161, rU162, rU163, rU164, rU165, rU166, rU167, rU168, rU169, rU170, rU151, rU152, rU153, rU177, rU178, rU154, rU155, rU156, rU157, rU158, rU159, rU171, rU172, rU173, rU181, rU182, rU183, rU184, rU185, rU186, rU201, rU202, rU203, rU204, rU205, rU206, rU207, rU208, rU209, rU210, rU211, rU212, rU213, rU214, rU215, rU216, rU217, rU218, rU219, rU220, rU221, rU237, rU239, rU241, rU238, rU240, rU242, rU245, rU281, rU282, rU330, rU331, rU332, rU333, rU334, rU335, rU336, rU337, rU338, rU340, rU341, rU342, rU343, rU344, rU345, rU346, rU347, rU348, rU349]
section
variable {D : zD} {ua : Nat → Nat}
theorem zRS_ok (hD : zk_d2 D ua) : ∀ R ∈ zRSl, zr_okS D R := zr_c (rS1_86_ok hD) (zr_c (rS5_86_ok hD) (zr_c (rS7_86_ok hD) (zr_c (rS12_86_ok hD) (zr_c (rS1_88_ok hD) (zr_c (rS5_88_ok hD) (zr_c (rS7_88_ok hD) (zr_c (rS12_88_ok hD) (zr_c (rS3_ok hD) (zr_c (rS4_ok hD) (zr_c (rS9_ok hD) (zr_c (rS10_ok hD) (zr_c (rS11_ok hD) (zr_c (rW1_ok hD) (zr_c (rW2_ok hD) (zr_c (rW3_ok hD) (zr_c (rH1_0_ok hD) (zr_c (rH2_0_ok hD) (zr_c (rH3_0_ok hD) (zr_c (rH4_0_ok hD) (zr_c (rH1_1_ok hD) (zr_c (rH2_1_ok hD) (zr_c (rH3_1_ok hD) (zr_c (rH4_1_ok hD) (zr_c (rT1_0_ok hD) (zr_c (rT2_0_ok hD) (zr_c (rT3_0_ok hD) (zr_c (rT1_1_ok hD) (zr_c (rT2_1_ok hD) (zr_c (rT3_1_ok hD) (zr_c (rZ1_ok hD) (zr_c (rZ2_ok hD) (zr_c (rZ3_ok hD) (zr_c (rZ4_ok hD) (zr_c (rZ5_ok hD) (zr_c (rD1_ok hD) (zr_c (rD2_ok hD) (zr_c (rD3_114_ok hD) (zr_c (rD4_114_ok hD) (zr_c (rD3_115_ok hD) (zr_c (rD4_115_ok hD) (zr_c (rD3_116_ok hD) (zr_c (rD4_116_ok hD) (zr_c (rD3_118_ok hD) (zr_c (rD4_118_ok hD) (zr_c (rD5_ok hD) (zr_c (rD6_ok hD) (zr_c (rD7_ok hD) (zr_c (rD8_ok hD) (zr_c (rD9_ok hD) (zr_c (rD10_ok hD) (zr_c (rD11_ok hD) (zr_c (rD12_ok hD) (zr_c (rD13_ok hD) (zr_c (rD14_ok hD) (zr_c (rZT1A_ok hD) (zr_c (rZT2A_ok hD) (zr_c (rZT3A_ok hD) (zr_c (rZT1B_ok hD) (zr_c (rZT2B_ok hD) (zr_c (rZT3B_ok hD) ((fun _ h => (by cases h)))))))))))))))))))))))))))))))))))))))))))))))))))))))))))))))
theorem zRU_ok (hD : zk_d2 D ua) : ∀ R ∈ zRUl, zr_okU D R := zr_c (rU10_ok hD) (zr_c (rU11_ok hD) (zr_c (rU12_ok hD) (zr_c (rU13_ok hD) (zr_c (rU14_ok hD) (zr_c (rU20_ok hD) (zr_c (rU30_ok hD) (zr_c (rU32_ok hD) (zr_c (rU34_ok hD) (zr_c (rU36_ok hD) (zr_c (rU31_ok hD) (zr_c (rU33_ok hD) (zr_c (rU35_ok hD) (zr_c (rU37_ok hD) (zr_c (rU38_ok hD) (zr_c (rU29_ok hD) (zr_c (rU39_ok hD) (zr_c (rU40_ok hD) (zr_c (rU42_ok hD) (zr_c (rU44_ok hD) (zr_c (rU46_ok hD) (zr_c (rU41_ok hD) (zr_c (rU43_ok hD) (zr_c (rU45_ok hD) (zr_c (rU47_ok hD) (zr_c (rU48_ok hD) (zr_c (rU49_ok hD) (zr_c (rU50_ok hD) (zr_c (rU51_ok hD) (zr_c (rU52_ok hD) (zr_c (rU53_ok hD) (zr_c (rU54_ok hD) (zr_c (rU55_ok hD) (zr_c (rU56_ok hD) (zr_c (rU57_ok hD) (zr_c (rU60_ok hD) (zr_c (rU61_ok hD) (zr_c (rU62_ok hD) (zr_c (rU63_ok hD) (zr_c (rU64_ok hD) (zr_c (rU65_ok hD) (zr_c (rU66_ok hD) (zr_c (rU67_ok hD) (zr_c (rU68_ok hD) (zr_c (rU70_ok hD) (zr_c (rU71_ok hD) (zr_c (rU72_ok hD) (zr_c (rU80_ok hD) (zr_c (rU81_ok hD) (zr_c (rU82_ok hD) (zr_c (rU83_ok hD) (zr_c (rU84_ok hD) (zr_c (rU85_ok hD) (zr_c (rU86_ok hD) (zr_c (rU87_ok hD) (zr_c (rU88_ok hD) (zr_c (rU89_ok hD) (zr_c (rU90_ok hD) (zr_c (rU91_ok hD) (zr_c (rU92_ok hD) (zr_c (rU93_ok hD) (zr_c (rU94_ok hD) (zr_c (rU95_ok hD) (zr_c (rU96_ok hD) (zr_c (rU97_ok hD) (zr_c (rU98_ok hD) (zr_c (rU140_ok hD) (zr_c (rU141_ok hD) (zr_c (rU142_ok hD) (zr_c (rU143_ok hD) (zr_c (rU144_ok hD) (zr_c (rU145_ok hD) (zr_c (rU146_ok hD) (zr_c (rU147_ok hD) (zr_c (rU148_ok hD) (zr_c (rU149_ok hD) (zr_c (rU150_ok hD) (zr_c (rU160_ok hD) (zr_c (rU161_ok hD) (zr_c (rU162_ok hD) (zr_c (rU163_ok hD) (zr_c (rU164_ok hD) (zr_c (rU165_ok hD) (zr_c (rU166_ok hD) (zr_c (rU167_ok hD) (zr_c (rU168_ok hD) (zr_c (rU169_ok hD) (zr_c (rU170_ok hD) (zr_c (rU151_ok hD) (zr_c (rU152_ok hD) (zr_c (rU153_ok hD) (zr_c (rU177_ok hD) (zr_c (rU178_ok hD) (zr_c (rU154_ok hD) (zr_c (rU155_ok hD) (zr_c (rU156_ok hD) (zr_c (rU157_ok hD) (zr_c (rU158_ok hD) (zr_c (rU159_ok hD) (zr_c (rU171_ok hD) (zr_c (rU172_ok hD) (zr_c (rU173_ok hD) (zr_c (rU181_ok hD) (zr_c (rU182_ok hD) (zr_c (rU183_ok hD) (zr_c (rU184_ok hD) (zr_c (rU185_ok hD) (zr_c (rU186_ok hD) (zr_c (rU201_ok hD) (zr_c (rU202_ok hD) (zr_c (rU203_ok hD) (zr_c (rU204_ok hD) (zr_c (rU205_ok hD) (zr_c (rU206_ok hD) (zr_c (rU207_ok hD) (zr_c (rU208_ok hD) (zr_c (rU209_ok hD) (zr_c (rU210_ok hD) (zr_c (rU211_ok hD) (zr_c (rU212_ok hD) (zr_c (rU213_ok hD) (zr_c (rU214_ok hD) (zr_c (rU215_ok hD) (zr_c (rU216_ok hD) (zr_c (rU217_ok hD) (zr_c (rU218_ok hD) (zr_c (rU219_ok hD) (zr_c (rU220_ok hD) (zr_c (rU221_ok hD) (zr_c (rU237_ok hD) (zr_c (rU239_ok hD) (zr_c (rU241_ok hD) (zr_c (rU238_ok hD) (zr_c (rU240_ok hD) (zr_c (rU242_ok hD) (zr_c (rU245_ok hD) (zr_c (rU281_ok hD) (zr_c (rU282_ok hD) (zr_c (rU330_ok hD) (zr_c (rU331_ok hD) (zr_c (rU332_ok hD) (zr_c (rU333_ok hD) (zr_c (rU334_ok hD) (zr_c (rU335_ok hD) (zr_c (rU336_ok hD) (zr_c (rU337_ok hD) (zr_c (rU338_ok hD) (zr_c (rU340_ok hD) (zr_c (rU341_ok hD) (zr_c (rU342_ok hD) (zr_c (rU343_ok hD) (zr_c (rU344_ok hD) (zr_c (rU345_ok hD) (zr_c (rU346_ok hD) (zr_c (rU347_ok hD) (zr_c (rU348_ok hD) (zr_c (rU349_ok hD) ((fun _ h => (by cases h)))))))))))))))))))))))))))))))))))))))))))))))))))))))))))))))))))))))))))))))))))))))))))))))))))))))))))))))))))))))))))))))))))))))))))))))))))))))))))))))
end
/-- what the facts hang on -/
def zPF : Nat → List (Nat × Nat) := fun j => if Nat.beq j 100 then [(33, 1), (33, 3)] else if Nat.beq j 101 then [(33, 1), (33, 3)] else if Nat.beq j 108 then [(43, 60)] else if Nat.beq j 110 then [(43, 60), (43, 61)] else if Nat.beq j 111 then [(43, 67)] else if Nat.beq j 114 then [(43, 67)] else if Nat.beq j 115 then [(43, 60)] else if Nat.beq j 116 then [(43, 60)] else if Nat.beq j 117 then [(43, 67)] else if Nat.beq j 118 then [(43, 67)] else if Nat.beq j 119 then [(43, 67), (43, 60)] else if Nat.beq j 150 then [(37, 3), (37, 10)] else if Nat.beq j 151 then [(37, 3), (37, 10)] else if Nat.beq j 152 then [(37, 3), (37, 10)] else if Nat.beq j 153 then [(37, 3), (37, 10)] else if Nat.beq j 154 then [(37, 3), (37, 10)] else if Nat.beq j 331 then [(122, 0), (122, 1), (122, 2), (122, 3), (122, 4)] else if Nat.beq j 332 then [(123, 0), (123, 1), (123, 2), (123, 3), (123, 4)] else if Nat.beq j 333 then [(122, 0), (122, 2), (122, 3), (122, 4)] else if Nat.beq j 334 then [(123, 0), (123, 2), (123, 3), (123, 4)] else []
def zPB : Nat → List Nat := fun j => if Nat.beq j 0 then [0, 1, 2, 3, 4, 5, 6, 7, 8, 9, 10, 11, 12, 13, 14, 15, 16, 17, 18, 19, 20, 21, 22, 23, 24, 25, 26, 27, 28, 29] else if Nat.beq j 100 then [53, 55] else if Nat.beq j 101 then [53, 55] else if Nat.beq j 102 then [84, 86, 88] else if Nat.beq j 103 then [84, 86, 88] else if Nat.beq j 104 then [86, 88] else if Nat.beq j 110 then [77, 79, 114, 115, 116, 118] else if Nat.beq j 111 then [77, 79, 114, 115, 116, 118, 119] else if Nat.beq j 112 then [79, 119] else if Nat.beq j 113 then [119] else if Nat.beq j 114 then [77, 79, 114, 115, 116, 118, 119] else if Nat.beq j 115 then [77, 79, 114, 115, 116, 118] else if Nat.beq j 116 then [77, 79, 114, 115, 116, 118] else if Nat.beq j 117 then [119] else if Nat.beq j 118 then [119] else if Nat.beq j 119 then [77, 79, 114, 115, 116, 118, 119] else if Nat.beq j 120 then [105, 106] else if Nat.beq j 121 then [105, 106] else if Nat.beq j 122 then [105, 106] else if Nat.beq j 123 then [105, 106] else if Nat.beq j 124 then [105, 106] else if Nat.beq j 132 then [111, 112] else if Nat.beq j 133 then [111, 112] else if Nat.beq j 134 then [105, 111] else if Nat.beq j 135 then [105, 111] else if Nat.beq j 136 then [111, 112] else if Nat.beq j 137 then [111, 112] else if Nat.beq j 138 then [111, 112] else if Nat.beq j 139 then [111, 112] else if Nat.beq j 150 then [63] else if Nat.beq j 151 then [63] else if Nat.beq j 152 then [63] else if Nat.beq j 153 then [63] else if Nat.beq j 154 then [63] else if Nat.beq j 331 then [124] else if Nat.beq j 332 then [125] else if Nat.beq j 333 then [124] else if Nat.beq j 334 then [125] else []
def zPF1 : Nat → List (Nat × Nat) := fun _ => []
def zPB1 : Nat → List Nat := fun j => if Nat.beq j 0 then [0, 1, 2, 3, 4, 5, 6, 7, 8, 9, 10, 11, 12, 13, 14, 15, 16, 17, 18, 19, 20, 21, 22, 23, 24, 25, 26, 27, 28, 29] else []
section
variable {D : zD} {ua : Nat → Nat} {ty ty' : Nat → Nat} {H H' : Heap} {j : Nat}
theorem zst_ar (hTT : D.TT = zTT) (hz : zty ua ty) (hst : zk_st D (zPF j) (zPB j) ty H ty' H') {q : Nat × Nat} (hq : q ∈ zUt) (h1 : q.2 ∈ zPB j) (h2 : (zTT q.2).1 ≠ 0) (k : Nat) : zi H' (ua q.1) k = zi H (ua q.1) k := by
  have := hst.2.1 _ _ (hz q hq) (by rw [hTT]; exact h2) h1
  unfold zi
  rw [this]
theorem zst_fd (hTT : D.TT = zTT) (hz : zty ua ty) (hst : zk_st D (zPF j) (zPB j) ty H ty' H') (hT : zk_T D ty H) (hT' : zk_T D ty' H') {q : Nat × Nat} (hq : q ∈ zUt) {k : Nat} (h1 : (q.2, k) ∈ zPF j) (h2 : (zTT q.2).1 = 0) (h3 : k < (zTT q.2).2.2.length) {c : Nat} (h4 : (zTT q.2).2.1 = c) : zi H' (ua q.1) (D.dI c k) = zi H (ua q.1) (D.dI c k) := by
  subst h4
  have a1 := zk_T_lt hT (a := ua q.1) (by rw [hz q hq]; omega)
  have a2 := zk_T_lt hT' (a := ua q.1) (by rw [hst.1 _ _ (hz q hq)]; omega)
  have e0 : H[ua q.1]? = some H[ua q.1] := Array.getElem?_eq_getElem a1
  have e1 : H'[ua q.1]? = some H'[ua q.1] := Array.getElem?_eq_getElem a2
  have := hst.2.2 _ _ (hz q hq) (by rw [hTT]; exact h2) k (by rw [hTT]; exact h3) h1 _ _ e0 e1
  rw [hTT] at this
  unfold zi
  rw [e0, e1]
  dsimp only
  rw [this]
theorem zPN_st (hD : zk_d2 D ua) (hTT : D.TT = zTT) (hz : zty ua ty) {vs : List Int} (hst : zk_st D (zPF j) (zPB j) ty H ty' H') (hT : zk_T D ty H) (hT' : zk_T D ty' H') (hp : zPN ua D.dI ty j (zi H) vs) : zPN ua D.dI ty' j (zi H') vs := by
  have sa : ∀ {a t : Nat}, ty a = t + 1 → t ∈ zPB j → (zTT t).1 ≠ 0 → ∀ k, zi H' a k = zi H a k := by
    intro a t h1 h2 h3 k
    have := hst.2.1 _ _ h1 (by rw [hTT]; exact h3) h2
    unfold zi
    rw [this]
  have sf : ∀ {a t : Nat}, ty a = t + 1 → ∀ {k : Nat}, (t, k) ∈ zPF j → (zTT t).1 = 0 → k < (zTT t).2.2.length → (zTT t).2.1 = 9 → zi H' a (D.dI 9 k) = zi H a (D.dI 9 k) := by
    intro a t h1 k h2 h3 h4 h5
    have a1 := zk_T_lt hT (a := a) (by rw [h1]; omega)
    have a2 := zk_T_lt hT' (a := a) (by rw [hst.1 _ _ h1]; omega)
    have e0 : H[a]? = some H[a] := Array.getElem?_eq_getElem a1
    have e1 : H'[a]? = some H'[a] := Array.getElem?_eq_getElem a2
    have := hst.2.2 _ _ h1 (by rw [hTT]; exact h3) k (by rw [hTT]; exact h4) h2 _ _ e0 e1
    rw [hTT, h5] at this
    unfold zi
    rw [e0, e1]
    dsimp only
    rw [this]
  unfold zPN at hp ⊢
  by_cases e : j = 331
  · subst e
    rw [if_pos rfl] at hp ⊢
    obtain ⟨x, h1, ⟨h2, h3, h4⟩, h5⟩ := hp
    refine ⟨x, h1, ?_⟩
    have f0 := sf h3 (k := 0) (by decide) (by decide) (by decide) (by decide)
    have f1 := sf h3 (k := 1) (by decide) (by decide) (by decide) (by decide)
    have f2 := sf h3 (k := 2) (by decide) (by decide) (by decide) (by decide)
    have f3 := sf h3 (k := 3) (by decide) (by decide) (by decide) (by decide)
    have f4 := sf h3 (k := 4) (by decide) (by decide) (by decide) (by decide)
    have a0 := sa h4 (by decide) (by decide)
    unfold zf_tt at h5 ⊢
    simp only [f0, f1, f2, f3, f4, a0]
    exact ⟨⟨h2, hst.1 _ _ h3, hst.1 _ _ h4⟩, h5⟩
  rw [if_neg e] at hp ⊢
  clear e
  by_cases e : j = 332
  · subst e
    rw [if_pos rfl] at hp ⊢
    obtain ⟨x, h1, ⟨h2, h3, h4⟩, h5⟩ := hp
    refine ⟨x, h1, ?_⟩
    have f0 := sf h3 (k := 0) (by decide) (by decide) (by decide) (by decide)
    have f1 := sf h3 (k := 1) (by decide) (by decide) (by decide) (by decide)
    have f2 := sf h3 (k := 2) (by decide) (by decide) (by decide) (by decide)
    have f3 := sf h3 (k := 3) (by decide) (by decide) (by decide) (by decide)
    have f4 := sf h3 (k := 4) (by decide) (by decide) (by decide) (by decide)
    have a0 := sa h4 (by decide) (by decide)
    unfold zf_tt at h5 ⊢
    simp only [f0, f1, f2, f3, f4, a0]
    exact ⟨⟨h2, hst.1 _ _ h3, hst.1 _ _ h4⟩, h5⟩
  rw [if_neg e] at hp ⊢
  clear e
  by_cases e : j = 333
  · subst e
    rw [if_pos rfl] at hp ⊢
    obtain ⟨x, n, h1, ⟨h2, h3, h4⟩, h5⟩ := hp
    refine ⟨x, n, h1, ?_⟩
    have f0 := sf h3 (k := 0) (by decide) (by decide) (by decide) (by decide)
    have f2 := sf h3 (k := 2) (by decide) (by decide) (by decide) (by decide)
    have f3 := sf h3 (k := 3) (by decide) (by decide) (by decide) (by decide)
    have f4 := sf h3 (k := 4) (by decide) (by decide) (by decide) (by decide)
    have a0 := sa h4 (by decide) (by decide)
    unfold zf_tt at h5 ⊢
    simp only [f0, f2, f3, f4, a0]
    exact ⟨⟨h2, hst.1 _ _ h3, hst.1 _ _ h4⟩, h5⟩
  rw [if_neg e] at hp ⊢
  clear e
  by_cases e : j = 334
  · subst e
    rw [if_pos rfl] at hp ⊢
    obtain ⟨x, n, h1, ⟨h2, h3, h4⟩, h5⟩ := hp
    refine ⟨x, n, h1, ?_⟩
    have f0 := sf h3 (k := 0) (by decide) (by decide) (by decide) (by decide)
    have f2 := sf h3 (k := 2) (by decide) (by decide) (by decide) (by decide)
    have f3 := sf h3 (k := 3) (by decide) (by decide) (by decide) (by decide)
    have f4 := sf h3 (k := 4) (by decide) (by decide) (by decide) (by decide)
    have a0 := sa h4 (by decide) (by decide)
    unfold zf_tt at h5 ⊢
    simp only [f0, f2, f3, f4, a0]
    exact ⟨⟨h2, hst.1 _ _ h3, hst.1 _ _ h4⟩, h5⟩
  rw [if_neg e] at hp ⊢
  clear e
  exact hp.elim
theorem zPP_st (hD : zk_d2 D ua) (hTT : D.TT = zTT) (hj : 100 ≤ j) {vs : List Int} (hst : zk_st D (zPF j) (zPB j) ty H ty' H') (hT : zk_T D ty H) (hT' : zk_T D ty' H') (h : D.OP j ty H vs) : D.OP j ty' H' vs := by
  obtain ⟨hz, hp⟩ := (hD.1 j hj _ _ _).mp h
  refine (hD.1 j hj _ _ _).mpr ⟨fun q hq => hst.1 _ _ (hz q hq), ?_⟩
  unfold zPW at hp ⊢
  by_cases h300 : 300 ≤ j
  · rw [if_pos h300] at hp ⊢
    exact zPN_st hD hTT hz hst hT hT' hp
  rw [if_neg h300] at hp ⊢
  unfold zPP at hp ⊢
  split at hp
  · rename_i e
    subst e
    rw [if_pos rfl]
    obtain ⟨h1, h2, h3⟩ := hp
    have e0 := zst_ar hTT hz hst (q := (84, 84)) (by decide) (by decide) (by decide) 0
    refine ⟨h1, by rw [e0]; exact h2, fun i hi h => ?_⟩
    rw [e0] at hi
    rw [zst_ar hTT hz hst (q := (86, 86)) (by decide) (by decide) (by decide)] at h
    rw [zst_ar hTT hz hst (q := (88, 88)) (by decide) (by decide) (by decide)]
    exact h3 i hi h
  rename_i n1
  rw [if_neg n1]
  split at hp
  · rename_i e
    subst e
    rw [if_pos rfl]
    obtain ⟨h1, h2, h3⟩ := hp
    have e0 := zst_ar hTT hz hst (q := (84, 84)) (by decide) (by decide) (by decide) 1
    refine ⟨h1, by rw [e0]; exact h2, fun i hi h => ?_⟩
    rw [e0] at hi
    rw [zst_ar hTT hz hst (q := (86, 86)) (by decide) (by decide) (by decide)] at h
    rw [zst_ar hTT hz hst (q := (88, 88)) (by decide) (by decide) (by decide)]
    exact h3 i hi h
  rename_i n2
  rw [if_neg n2]
  split at hp
  · rename_i e
    subst e
    rw [if_pos rfl]
    obtain ⟨k, h1, h3⟩ := hp
    refine ⟨k, h1, fun i hi h => ?_⟩
    rw [zst_ar hTT hz hst (q := (86, 86)) (by decide) (by decide) (by decide)] at h
    rw [zst_ar hTT hz hst (q := (88, 88)) (by decide) (by decide) (by decide)]
    exact h3 i hi h
  rename_i n3
  rw [if_neg n3]
  have hw : (j = 100 ∨ j = 101) → ∀ e, zf_wy ua D.dI (zi H) e → zf_wy ua D.dI (zi H') e := by
    intro hj e h p hp
    obtain ⟨g1, g2, g3⟩ := h p hp
    have m1 : 53 ∈ zPB j ∧ 55 ∈ zPB j ∧ (33, 1) ∈ zPF j ∧ (33, 3) ∈ zPF j := by rcases hj with rfl | rfl <;> decide
    have q0 : (1000 + p, 33) ∈ zUt ∧ (1010 + p, 53) ∈ zUt ∧ (1020 + p, 55) ∈ zUt := by rcases hp with rfl | rfl <;> decide
    refine ⟨by rw [zst_fd hTT hz hst hT hT' q0.1 m1.2.2.1 (show (zTT 33).1 = 0 by decide) (show 1 < (zTT 33).2.2.length by decide) (show (zTT 33).2.1 = 10 by decide)]; exact g1, by rw [zst_fd hTT hz hst hT hT' q0.1 m1.2.2.2 (show (zTT 33).1 = 0 by decide) (show 3 < (zTT 33).2.2.length by decide) (show (zTT 33).2.1 = 10 by decide)]; exact g2, fun i hi h => ?_⟩
    rw [zst_ar hTT hz hst q0.2.1 m1.1 (show (zTT 53).1 ≠ 0 by decide)] at h
    rw [zst_ar hTT hz hst q0.2.2 m1.2.1 (show (zTT 55).1 ≠ 0 by decide)]
    exact g3 i hi h
  split at hp
  · rename_i e
    subst e
    rw [if_pos rfl]
    exact ⟨hp.1, hw (Or.inl rfl) _ hp.2⟩
  rename_i n4
  rw [if_neg n4]
  split at hp
  · rename_i e
    subst e
    rw [if_pos rfl]
    obtain ⟨x, i, h1, h2⟩ := hp
    exact ⟨x, i, h1, hw (Or.inr rfl) _ h2⟩
  rename_i n5
  rw [if_neg n5]
  have fe : ∀ t, (t, t) ∈ zUt → t ∈ zPB j → (zTT t).1 ≠ 0 → zi H' (ua t) = zi H (ua t) := fun t h1 h2 h3 => funext (zst_ar hTT hz hst (q := (t, t)) h1 h2 h3)
  have fh : ∀ k, (43, k) ∈ zPF j → k < 73 → zi H' (ua 43) (D.dI 12 k) = zi H (ua 43) (D.dI 12 k) := fun k h1 h2 => zst_fd hTT hz hst hT hT' (q := (43, 43)) (by decide) h1 (by decide) h2 (by decide)
  by_cases e150 : 150 ≤ j
  · rw [if_pos e150] at hp ⊢
    have hr : 63 ∈ zPB j → (37, 3) ∈ zPF j → (37, 10) ∈ zPF j → ∀ P, zf_hd ua D.dI (zi H) P → zf_hd ua D.dI (zi H') P := by
      intro m1 m2 m3 P h p hp
      obtain ⟨g1, g2⟩ := h p hp
      have q0 : (1030 + p, 37) ∈ zUt ∧ (1040 + p, 63) ∈ zUt := by rcases hp with rfl | rfl <;> decide
      have f1 : zi H' (ua (1040 + p)) = zi H (ua (1040 + p)) := funext (zst_ar hTT hz hst q0.2 m1 (show (zTT 63).1 ≠ 0 by decide))
      rw [zst_fd hTT hz hst hT hT' q0.1 m2 (show (zTT 37).1 = 0 by decide) (show 3 < (zTT 37).2.2.length by decide) (show (zTT 37).2.1 = 3 by decide), zst_fd hTT hz hst hT hT' q0.1 m3 (show (zTT 37).1 = 0 by decide) (show 10 < (zTT 37).2.2.length by decide) (show (zTT 37).2.1 = 3 by decide), f1]
      exact ⟨g1, g2⟩
    unfold zPR at hp ⊢
    by_cases e : j = 150
    · subst e
      rw [if_pos rfl] at hp ⊢
      obtain ⟨h1, h2⟩ := hp
      exact ⟨h1, hr (by decide) (by decide) (by decide) _ h2⟩
    rw [if_neg e] at hp ⊢
    clear e
    by_cases e : j = 151
    · subst e
      rw [if_pos rfl] at hp ⊢
      obtain ⟨x, c, v, h1, h2⟩ := hp
      exact ⟨x, c, v, h1, hr (by decide) (by decide) (by decide) _ h2⟩
    rw [if_neg e] at hp ⊢
    clear e
    by_cases e : j = 152
    · subst e
      rw [if_pos rfl] at hp ⊢
      obtain ⟨x, v, h1, h2⟩ := hp
      exact ⟨x, v, h1, hr (by decide) (by decide) (by decide) _ h2⟩
    rw [if_neg e] at hp ⊢
    clear e
    by_cases e : j = 153
    · subst e
      rw [if_pos rfl] at hp ⊢
      obtain ⟨x, i, h1, h3, h2⟩ := hp
      exact ⟨x, i, h1, h3, hr (by decide) (by decide) (by decide) _ h2⟩
    rw [if_neg e] at hp ⊢
    clear e
    by_cases e : j = 154
    · subst e
      rw [if_pos rfl] at hp ⊢
      obtain ⟨x, i, n, h1, h3, h4, h5, h2⟩ := hp
      exact ⟨x, i, n, h1, h3, h4, h5, hr (by decide) (by decide) (by decide) _ h2⟩
    rw [if_neg e] at hp ⊢
    clear e
    by_cases e : j = 160
    · subst e
      rw [if_pos rfl] at hp ⊢
      exact hp
    rw [if_neg e] at hp ⊢
    clear e
    by_cases e : j = 161
    · subst e
      rw [if_pos rfl] at hp ⊢
      exact hp
    rw [if_neg e] at hp ⊢
    clear e
    by_cases e : j = 162
    · subst e
      rw [if_pos rfl] at hp ⊢
      exact hp
    rw [if_neg e] at hp ⊢
    clear e
    by_cases e : j = 164
    · subst e
      rw [if_pos rfl] at hp ⊢
      exact hp
    rw [if_neg e] at hp ⊢
    clear e
    by_cases e : j = 170
    · subst e
      rw [if_pos rfl] at hp ⊢
      exact hp
    rw [if_neg e] at hp ⊢
    clear e
    by_cases e : j = 171
    · subst e
      rw [if_pos rfl] at hp ⊢
      exact hp
    rw [if_neg e] at hp ⊢
    clear e
    by_cases e : j = 172
    · subst e
      rw [if_pos rfl] at hp ⊢
      exact hp
    rw [if_neg e] at hp ⊢
    clear e
    by_cases e : j = 173
    · subst e
      rw [if_pos rfl] at hp ⊢
      exact hp
    rw [if_neg e] at hp ⊢
    clear e
    by_cases e : j = 174
    · subst e
      rw [if_pos rfl] at hp ⊢
      exact hp
    rw [if_neg e] at hp ⊢
    clear e
    exact hp
  rw [if_neg e150] at hp ⊢
  by_cases e108 : 108 ≤ j ∧ j ≤ 119
  · rw [if_pos e108] at hp ⊢
    unfold zPS at hp ⊢
    by_cases e : j = 108
    · subst e
      rw [if_pos rfl] at hp ⊢
      rw [fh 60 (by decide) (by decide)]
      exact hp
    rw [if_neg e] at hp ⊢
    clear e
    by_cases e : j = 109
    · subst e
      rw [if_pos rfl] at hp ⊢
      exact hp
    rw [if_neg e] at hp ⊢
    clear e
    by_cases e : j = 110
    · subst e
      rw [if_pos rfl] at hp ⊢
      have f6 : ∀ t ∈ [77, 79, 114, 115, 116, 118], zi H' (ua t) = zi H (ua t) := by
        intro t ht
        simp only [List.mem_cons, List.not_mem_nil, or_false] at ht
        rcases ht with rfl | rfl | rfl | rfl | rfl | rfl
        · exact fe 77 (by decide) (by decide) (by decide)
        · exact fe 79 (by decide) (by decide) (by decide)
        · exact fe 114 (by decide) (by decide) (by decide)
        · exact fe 115 (by decide) (by decide) (by decide)
        · exact fe 116 (by decide) (by decide) (by decide)
        · exact fe 118 (by decide) (by decide) (by decide)
      rw [fh 60 (by decide) (by decide), fh 61 (by decide) (by decide), zf_ch_fun f6]
      exact hp
    rw [if_neg e] at hp ⊢
    clear e
    by_cases e : j = 111
    · subst e
      rw [if_pos rfl] at hp ⊢
      have f6 : ∀ t ∈ [77, 79, 114, 115, 116, 118], zi H' (ua t) = zi H (ua t) := by
        intro t ht
        simp only [List.mem_cons, List.not_mem_nil, or_false] at ht
        rcases ht with rfl | rfl | rfl | rfl | rfl | rfl
        · exact fe 77 (by decide) (by decide) (by decide)
        · exact fe 79 (by decide) (by decide) (by decide)
        · exact fe 114 (by decide) (by decide) (by decide)
        · exact fe 115 (by decide) (by decide) (by decide)
        · exact fe 116 (by decide) (by decide) (by decide)
        · exact fe 118 (by decide) (by decide) (by decide)
      simp only [fh 67 (by decide) (by decide), fe 119 (by decide) (by decide) (by decide), zc_t_fun f6]
      exact hp
    rw [if_neg e] at hp ⊢
    clear e
    by_cases e : j = 112
    · subst e
      rw [if_pos rfl] at hp ⊢
      rw [fe 119 (by decide) (by decide) (by decide), fe 79 (by decide) (by decide) (by decide)]
      exact hp
    rw [if_neg e] at hp ⊢
    clear e
    by_cases e : j = 113
    · subst e
      rw [if_pos rfl] at hp ⊢
      rw [fe 119 (by decide) (by decide) (by decide)]
      exact hp
    rw [if_neg e] at hp ⊢
    clear e
    by_cases e : j = 114
    · subst e
      rw [if_pos rfl] at hp ⊢
      have f6 : ∀ t ∈ [77, 79, 114, 115, 116, 118], zi H' (ua t) = zi H (ua t) := by
        intro t ht
        simp only [List.mem_cons, List.not_mem_nil, or_false] at ht
        rcases ht with rfl | rfl | rfl | rfl | rfl | rfl
        · exact fe 77 (by decide) (by decide) (by decide)
        · exact fe 79 (by decide) (by decide) (by decide)
        · exact fe 114 (by decide) (by decide) (by decide)
        · exact fe 115 (by decide) (by decide) (by decide)
        · exact fe 116 (by decide) (by decide) (by decide)
        · exact fe 118 (by decide) (by decide) (by decide)
      simp only [fh 67 (by decide) (by decide), fe 119 (by decide) (by decide) (by decide), zc_t_fun f6]
      exact hp
    rw [if_neg e] at hp ⊢
    clear e
    by_cases e : j = 115
    · subst e
      rw [if_pos rfl] at hp ⊢
      have f6 : ∀ t ∈ [77, 79, 114, 115, 116, 118], zi H' (ua t) = zi H (ua t) := by
        intro t ht
        simp only [List.mem_cons, List.not_mem_nil, or_false] at ht
        rcases ht with rfl | rfl | rfl | rfl | rfl | rfl
        · exact fe 77 (by decide) (by decide) (by decide)
        · exact fe 79 (by decide) (by decide) (by decide)
        · exact fe 114 (by decide) (by decide) (by decide)
        · exact fe 115 (by decide) (by decide) (by decide)
        · exact fe 116 (by decide) (by decide) (by decide)
        · exact fe 118 (by decide) (by decide) (by decide)
      simp only [fh 60 (by decide) (by decide), zc_t_fun f6]
      exact hp
    rw [if_neg e] at hp ⊢
    clear e
    by_cases e : j = 116
    · subst e
      rw [if_pos rfl] at hp ⊢
      have f6 : ∀ t ∈ [77, 79, 114, 115, 116, 118], zi H' (ua t) = zi H (ua t) := by
        intro t ht
        simp only [List.mem_cons, List.not_mem_nil, or_false] at ht
        rcases ht with rfl | rfl | rfl | rfl | rfl | rfl
        · exact fe 77 (by decide) (by decide) (by decide)
        · exact fe 79 (by decide) (by decide) (by decide)
        · exact fe 114 (by decide) (by decide) (by decide)
        · exact fe 115 (by decide) (by decide) (by decide)
        · exact fe 116 (by decide) (by decide) (by decide)
        · exact fe 118 (by decide) (by decide) (by decide)
      simp only [fh 60 (by decide) (by decide), zf_ch_fun f6]
      exact hp
    rw [if_neg e] at hp ⊢
    clear e
    by_cases e : j = 117
    · subst e
      rw [if_pos rfl] at hp ⊢
      rw [fh 67 (by decide) (by decide), fe 119 (by decide) (by decide) (by decide)]
      exact hp
    rw [if_neg e] at hp ⊢
    clear e
    by_cases e : j = 118
    · subst e
      rw [if_pos rfl] at hp ⊢
      rw [fh 67 (by decide) (by decide), fe 119 (by decide) (by decide) (by decide)]
      exact hp
    rw [if_neg e] at hp ⊢
    clear e
    by_cases e : j = 119
    · subst e
      rw [if_pos rfl] at hp ⊢
      have f6 : ∀ t ∈ [77, 79, 114, 115, 116, 118], zi H' (ua t) = zi H (ua t) := by
        intro t ht
        simp only [List.mem_cons, List.not_mem_nil, or_false] at ht
        rcases ht with rfl | rfl | rfl | rfl | rfl | rfl
        · exact fe 77 (by decide) (by decide) (by decide)
        · exact fe 79 (by decide) (by decide) (by decide)
        · exact fe 114 (by decide) (by decide) (by decide)
        · exact fe 115 (by decide) (by decide) (by decide)
        · exact fe 116 (by decide) (by decide) (by decide)
        · exact fe 118 (by decide) (by decide) (by decide)
      simp only [fh 67 (by decide) (by decide), fh 60 (by decide) (by decide), fe 119 (by decide) (by decide) (by decide), zc_t_fun f6]
      exact hp
    rw [if_neg e] at hp ⊢
    clear e
    exact absurd hp (fun z => z)
  rw [if_neg e108] at hp ⊢
  unfold zPQ at hp ⊢
  by_cases e : j = 120
  · subst e
    rw [if_pos rfl] at hp ⊢
    simp only [zf_sw] at hp ⊢
    rw [fe 105 (by decide) (by decide) (by decide), fe 106 (by decide) (by decide) (by decide)]
    exact hp
  rw [if_neg e] at hp ⊢
  clear e
  by_cases e : j = 121
  · subst e
    rw [if_pos rfl] at hp ⊢
    simp only [zf_in, zf_sw] at hp ⊢
    rw [fe 105 (by decide) (by decide) (by decide), fe 106 (by decide) (by decide) (by decide)]
    exact hp
  rw [if_neg e] at hp ⊢
  clear e
  by_cases e : j = 122
  · subst e
    rw [if_pos rfl] at hp ⊢
    simp only [zf_in, zf_sw] at hp ⊢
    rw [fe 105 (by decide) (by decide) (by decide), fe 106 (by decide) (by decide) (by decide)]
    exact hp
  rw [if_neg e] at hp ⊢
  clear e
  by_cases e : j = 123
  · subst e
    rw [if_pos rfl] at hp ⊢
    simp only [zf_in, zf_sw] at hp ⊢
    rw [fe 105 (by decide) (by decide) (by decide), fe 106 (by decide) (by decide) (by decide)]
    exact hp
  rw [if_neg e] at hp ⊢
  clear e
  by_cases e : j = 124
  · subst e
    rw [if_pos rfl] at hp ⊢
    simp only [zf_in, zf_sw] at hp ⊢
    rw [fe 105 (by decide) (by decide) (by decide), fe 106 (by decide) (by decide) (by decide)]
    exact hp
  rw [if_neg e] at hp ⊢
  clear e
  by_cases e : j = 132
  · subst e
    rw [if_pos rfl] at hp ⊢
    simp only [zf_td] at hp ⊢
    rw [fe 111 (by decide) (by decide) (by decide), fe 112 (by decide) (by decide) (by decide)]
    exact hp
  rw [if_neg e] at hp ⊢
  clear e
  by_cases e : j = 133
  · subst e
    rw [if_pos rfl] at hp ⊢
    simp only [zf_td] at hp ⊢
    rw [fe 111 (by decide) (by decide) (by decide), fe 112 (by decide) (by decide) (by decide)]
    exact hp
  rw [if_neg e] at hp ⊢
  clear e
  by_cases e : j = 134
  · subst e
    rw [if_pos rfl] at hp ⊢
    rw [fe 105 (by decide) (by decide) (by decide), fe 111 (by decide) (by decide) (by decide)]
    exact hp
  rw [if_neg e] at hp ⊢
  clear e
  by_cases e : j = 135
  · subst e
    rw [if_pos rfl] at hp ⊢
    rw [fe 105 (by decide) (by decide) (by decide), fe 111 (by decide) (by decide) (by decide)]
    exact hp
  rw [if_neg e] at hp ⊢
  clear e
  by_cases e : j = 136
  · subst e
    rw [if_pos rfl] at hp ⊢
    simp only [zf_wk] at hp ⊢
    rw [fe 111 (by decide) (by decide) (by decide), fe 112 (by decide) (by decide) (by decide)]
    exact hp
  rw [if_neg e] at hp ⊢
  clear e
  by_cases e : j = 137
  · subst e
    rw [if_pos rfl] at hp ⊢
    simp only [zf_wk] at hp ⊢
    rw [fe 111 (by decide) (by decide) (by decide), fe 112 (by decide) (by decide) (by decide)]
    exact hp
  rw [if_neg e] at hp ⊢
  clear e
  by_cases e : j = 138
  · subst e
    rw [if_pos rfl] at hp ⊢
    simp only [zf_wk] at hp ⊢
    rw [fe 111 (by decide) (by decide) (by decide), fe 112 (by decide) (by decide) (by decide)]
    exact hp
  rw [if_neg e] at hp ⊢
  clear e
  by_cases e : j = 139
  · subst e
    rw [if_pos rfl] at hp ⊢
    simp only [zf_wk] at hp ⊢
    rw [fe 111 (by decide) (by decide) (by decide), fe 112 (by decide) (by decide) (by decide)]
    exact hp
  rw [if_neg e] at hp ⊢
  clear e
  exact absurd hp (fun z => z)
end
