/-! FURTHER FACTS (for now none but 0). -/
def zPF : Nat → List (Nat × Nat) := fun _ => []
def zPB : Nat → List Nat := fun j => if j = 0 then List.range 30 else []
def zSUf : zSU := zk_noSU
def zULf : Nat → zA → List zA := zk_noUL
