/-! METHODS (printed by wip/t4) -/
theorem ecX12_readLine_a : ∀ q ∈ hcX12_readLine.1, ∀ B ∈ q.2, vcX12_readLine q.1 B = true := (fun x (h : x ∈ ([] : List (Nat × List zA))) => absurd h List.not_mem_nil)
theorem ecX12_readLine : zk_run zcl zft zTT zPF zPB zSUf zLX12 12 false mcX12_readLine ftX12_readLine hcX12_readLine zULf xcX12_readLine 121 = true := zk_run_of ecX12_readLine_e ecX12_readLine_a
theorem gcX12_readLine {D : zD} {l : Launch} (hD : zWD D) : zCs D l xcX12_readLine := ⟨tcX12_scan_m hD, tcX12_scan hD, tcX12_fails hD, tcX12_in hD, tcX12_readSemi_m hD, tcX12_readSemi hD, tcX12_readBag hD, trivial⟩
theorem tcX12_readLine {D : zD} {l : Launch} (hD : zWD D) : zC D l mcX12_readLine := zk_methC ⟨rfl, rfl⟩ hD poolX12 icX12_readLine jcX12_readLine ftX12_readLine_ok (gcX12_readLine hD) wcX12_readLine ecX12_readLine
