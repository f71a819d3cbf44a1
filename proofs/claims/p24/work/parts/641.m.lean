/-! METHODS (printed by wip/t6) -/
theorem ecX12_readLine_tk_a : ∀ q ∈ hcX12_readLine_tk.1, ∀ B ∈ q.2, vcX12_readLine_tk q.1 B = true := (fun x (h : x ∈ ([] : List (Nat × List zA))) => absurd h List.not_mem_nil)
theorem ecX12_readLine_tk : zk_run zcl zft zTT zPF zPB zSUf zLX12 12 false mcX12_readLine_tk ftX12_readLine hcX12_readLine_tk zULf xcX12_readLine_tk 121 = true := zk_run_of ecX12_readLine_tk_e ecX12_readLine_tk_a
theorem gcX12_readLine_tk {D : zD} {l : Launch} (hD : zWD D) : zCs D l xcX12_readLine_tk := ⟨tcX12_scan_tk hD, tcX12_fails_tk hD, tcX12_in_tk hD, tcX12_readSemi_tk hD, tcX12_readBag_t2_k0 hD, tcX12_readBag_t2_k1 hD, tcX12_readBag_t4_k0 hD, tcX12_readBag_t4_k1 hD, trivial⟩
theorem tcX12_readLine_tk {D : zD} {l : Launch} (hD : zWD D) : zC D l mcX12_readLine_tk := zk_methC ⟨rfl, rfl⟩ hD poolX12 icX12_readLine_tk jcX12_readLine_tk ftX12_readLine_ok (gcX12_readLine_tk hD) wcX12_readLine_tk ecX12_readLine_tk
