/-! THE LAW, 4: what is known at the start (printed by wip/t6/mklaw4.py). -/
def zs_tm (i : Nat) : Term := match zk_str[i]? with | some q => Term.string q.1 q.2.1 | none => Term.string "" 0
theorem zs_n1 : ∀ i, i < 15 → Cond.exactly (zs_tm i) "java/lang/String" ∈ flatC (Jvm.Cond.and given_1 narrow_1) := by decide +kernel
theorem zs_n2 : ∀ i, i < 15 → Cond.eq (.field (zs_tm i) "java/lang/String" "coder" "B") (.int 0) ∈ flatC (Jvm.Cond.and given_1 narrow_1) := by decide +kernel
theorem zs_n3 : ∀ i, i < 15 → Cond.arrayOf (.field (zs_tm i) "java/lang/String" "value" "[B") .byte ∈ flatC (Jvm.Cond.and given_1 narrow_1) := by decide +kernel
theorem zs_n4 : ∀ i, i < 15 → Cond.eq (.length (.field (zs_tm i) "java/lang/String" "value" "[B")) (.int (Int32.ofNat (zs_len.getD i 0))) ∈ flatC (Jvm.Cond.and given_1 narrow_1) := by decide +kernel
theorem zs_n5 : ∀ i, i < 15 → ∀ j, j < zs_len.getD i 0 → Cond.eq (.elem (.field (zs_tm i) "java/lang/String" "value" "[B") (.int (Int32.ofNat j))) (.int ((zs_byt.getD i []).getD j 0)) ∈ flatC (Jvm.Cond.and given_1 narrow_1) := by decide +kernel
