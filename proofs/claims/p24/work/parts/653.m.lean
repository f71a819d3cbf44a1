/-! METHODS (printed by wip/t6) -/
theorem ecX12_choices_a : ∀ q ∈ hcX12_choices.1, ∀ B ∈ q.2, vcX12_choices q.1 B = true := (fun x (h : x ∈ ([] : List (Nat × List zA))) => absurd h List.not_mem_nil)
theorem ecX12_choices : zk_run zcl zft zTT zPF zPB zSUf zLX12 12 false mcX12_choices ftX12_choices hcX12_choices zULf xcX12_choices 691 = true := zk_run_of ecX12_choices_e ecX12_choices_a
theorem gcX12_choices {D : zD} {l : Launch} (hD : zWD D) : zCs D l xcX12_choices := trivial
theorem tcX12_choices {D : zD} {l : Launch} (hD : zWD D) : zC D l mcX12_choices := zk_methC ⟨rfl, rfl⟩ hD poolX12 icX12_choices jcX12_choices ftX12_choices_ok (gcX12_choices hD) wcX12_choices ecX12_choices
