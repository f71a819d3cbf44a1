/-! FURTHER FACTS (for now none but 0); contracts of this world. -/
def zPF : Nat → List (Nat × Nat) := fun _ => []
def zPB : Nat → List Nat := fun j => if j = 0 then List.range 30 else []
def zSUf : zSU := zk_noSU
def zULf : Nat → zA → List zA := zk_noUL
def zC (D : zD) (l : Launch) (M : zM) : Prop := zk_con D zcl l M.y (zk_ws M) M.rm M.cs
def zCs (D : zD) (l : Launch) : List zX → Prop
  | [] => True
  | x :: t => zC D l x.2.2.2 ∧ zCs D l t
theorem zCs_ok {D : zD} {l : Launch} : ∀ {HX : List zX}, zCs D l HX → ∀ x ∈ HX, zk_con D zcl l x.2.2.2.y (zk_ws x.2.2.2) x.2.2.2.rm x.2.2.2.cs
  | [], _, x, hx => by cases hx
  | y :: t, h, x, hx => by
    rcases List.mem_cons.mp hx with e | e
    · subst e; exact h.1
    · exact zCs_ok h.2 x e
theorem zk_methC {D : zD} {l : Launch} {L : zL} {own : String} {oc : Nat} {ini : Bool} {M : zM} {FTl : List (Nat × List (Nat × Instr × Nat))} {h : zH} {HX : List zX} {fuel : Nat} {ps : List (Nat × Nat × Nat × Nat × Nat)}
    (hD : zk_wd D zcl zft zTT zPF zPB zSUf zULf) (hL : zk_pool zcl own L) (hid : zk_idb zcl own oc ini M = true) (hTX : zk_txok own h.2.2.2.2.1) (hFT : zk_ftb M.b FTl = true) (hC : zCs D l HX) (hw : zk_hwsb zcl own M.rm HX ps = true) (hrun : zk_run zcl zft zTT zPF zPB zSUf L oc ini M FTl h zULf HX fuel = true) : zC D l M :=
  zk_meth hD hL hid hTX hFT (zk_hcs (zCs_ok hC) hw) hrun
