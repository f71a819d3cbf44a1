/-! THE LAW, 5: its run, behind the constructors. -/
abbrev lw_chk (q : Nat × List zA) : Bool := q.2.all (fun B => lw_ex2 q.1 B && zk_pos B.2.2.1 (B.2.2.2.2.2.1.1, B.2.2.2.2.2.1.2 + 1))
theorem lw_app {pc : Nat} {B : zA} {l : List zA} (h1 : lw_chk (pc, [B]) = true) (h2 : lw_chk (pc, l) = true) : lw_chk (pc, B :: l) = true := by
  have a : ((lw_ex2 pc B && zk_pos B.2.2.1 (B.2.2.2.2.2.1.1, B.2.2.2.2.2.1.2 + 1)) && true) = true := h1
  have b : l.all (fun B => lw_ex2 pc B && zk_pos B.2.2.1 (B.2.2.2.2.2.1.1, B.2.2.2.2.2.1.2 + 1)) = true := h2
  show ((lw_ex2 pc B && zk_pos B.2.2.1 (B.2.2.2.2.2.1.1, B.2.2.2.2.2.1.2 + 1)) && l.all (fun B => lw_ex2 pc B && zk_pos B.2.2.1 (B.2.2.2.2.2.1.1, B.2.2.2.2.2.1.2 + 1))) = true
  rw [b]
  exact a
theorem lw_e2 : lw_ex2 16 lwA2 = true := by decide +kernel
theorem lw_b0 : lw_chk lwK0 = true := by decide +kernel
theorem lw_b1 : lw_chk lwK1 = true := by decide +kernel
theorem lw_b2 : lw_chk lwK2 = true := by decide +kernel
