section
-- ===== PART A: goes FIRST, ahead of the names: the tables' words, and 'selects' of the private methods out of them =====
/-- a private method of a class that the tables say can be made, by its rows of tables_1 -/
def lw_okq (q : MethodName × Nat) : Prop := (q.1.cls ≠ "java/lang/invoke/MethodHandle" ∧ q.1.cls ≠ "java/lang/invoke/VarHandle") ∧ Cond.instantiable q.1.cls q.2 ∈ tables_1 ∧ Cond.privateMethod q.1 ∈ tables_1 ∧ Cond.instanceMethod q.1 ∈ tables_1
theorem lw_p0 : lw_okq (⟨"BothLists$Reader", "begin", "()V"⟩, 7) := ⟨⟨by decide +kernel, by decide +kernel⟩, List.mem_of_getElem? (i := 65) (by decide +kernel), List.mem_of_getElem? (i := 452) (by decide +kernel), List.mem_of_getElem? (i := 453) (by decide +kernel)⟩
theorem lw_p1 : lw_okq (⟨"BothLists$Tape", "takeWord", "()V"⟩, 8) := ⟨⟨by decide +kernel, by decide +kernel⟩, List.mem_of_getElem? (i := 28) (by decide +kernel), List.mem_of_getElem? (i := 471) (by decide +kernel), List.mem_of_getElem? (i := 472) (by decide +kernel)⟩
theorem lw_p2 : lw_okq (⟨"BothLists$Tape", "takeNumber", "()V"⟩, 8) := ⟨⟨by decide +kernel, by decide +kernel⟩, List.mem_of_getElem? (i := 28) (by decide +kernel), List.mem_of_getElem? (i := 478) (by decide +kernel), List.mem_of_getElem? (i := 479) (by decide +kernel)⟩
theorem lw_p3 : lw_okq (⟨"BothLists$Reader", "readSame", "(LBothLists$Speller;)Z"⟩, 7) := ⟨⟨by decide +kernel, by decide +kernel⟩, List.mem_of_getElem? (i := 65) (by decide +kernel), List.mem_of_getElem? (i := 535) (by decide +kernel), List.mem_of_getElem? (i := 536) (by decide +kernel)⟩
theorem lw_p4 : lw_okq (⟨"BothLists$Reader", "isNewLetter", "(LBothLists$Speller;)Z"⟩, 7) := ⟨⟨by decide +kernel, by decide +kernel⟩, List.mem_of_getElem? (i := 65) (by decide +kernel), List.mem_of_getElem? (i := 539) (by decide +kernel), List.mem_of_getElem? (i := 540) (by decide +kernel)⟩
theorem lw_p5 : lw_okq (⟨"BothLists$Reader", "fail", "(I)Z"⟩, 7) := ⟨⟨by decide +kernel, by decide +kernel⟩, List.mem_of_getElem? (i := 65) (by decide +kernel), List.mem_of_getElem? (i := 547) (by decide +kernel), List.mem_of_getElem? (i := 548) (by decide +kernel)⟩
theorem lw_p6 : lw_okq (⟨"BothLists$Reader", "readDrop", "(LBothLists$Speller;)Z"⟩, 7) := ⟨⟨by decide +kernel, by decide +kernel⟩, List.mem_of_getElem? (i := 65) (by decide +kernel), List.mem_of_getElem? (i := 560) (by decide +kernel), List.mem_of_getElem? (i := 561) (by decide +kernel)⟩
theorem lw_p7 : lw_okq (⟨"BothLists$Reader", "readDouble", "(LBothLists$Speller;)Z"⟩, 7) := ⟨⟨by decide +kernel, by decide +kernel⟩, List.mem_of_getElem? (i := 65) (by decide +kernel), List.mem_of_getElem? (i := 565) (by decide +kernel), List.mem_of_getElem? (i := 566) (by decide +kernel)⟩
theorem lw_p8 : lw_okq (⟨"BothLists$Reader", "takeSemicolon", "()Z"⟩, 7) := ⟨⟨by decide +kernel, by decide +kernel⟩, List.mem_of_getElem? (i := 65) (by decide +kernel), List.mem_of_getElem? (i := 569) (by decide +kernel), List.mem_of_getElem? (i := 570) (by decide +kernel)⟩
theorem lw_p9 : lw_okq (⟨"BothLists$Reader", "readFirst", "(LBothLists$Speller;)Z"⟩, 7) := ⟨⟨by decide +kernel, by decide +kernel⟩, List.mem_of_getElem? (i := 65) (by decide +kernel), List.mem_of_getElem? (i := 574) (by decide +kernel), List.mem_of_getElem? (i := 575) (by decide +kernel)⟩
theorem lw_p10 : lw_okq (⟨"BothLists$Reader", "takeNumber", "(II)Z"⟩, 7) := ⟨⟨by decide +kernel, by decide +kernel⟩, List.mem_of_getElem? (i := 65) (by decide +kernel), List.mem_of_getElem? (i := 578) (by decide +kernel), List.mem_of_getElem? (i := 579) (by decide +kernel)⟩
theorem lw_p11 : lw_okq (⟨"BothLists", "forgetChanges", "()V"⟩, 16) := ⟨⟨by decide +kernel, by decide +kernel⟩, List.mem_of_getElem? (i := 20) (by decide +kernel), List.mem_of_getElem? (i := 586) (by decide +kernel), List.mem_of_getElem? (i := 587) (by decide +kernel)⟩
theorem lw_p12 : lw_okq (⟨"BothLists$Reader", "readNames", "(LBothLists$Names;LBothLists$Speller;IZ)Z"⟩, 7) := ⟨⟨by decide +kernel, by decide +kernel⟩, List.mem_of_getElem? (i := 65) (by decide +kernel), List.mem_of_getElem? (i := 605) (by decide +kernel), List.mem_of_getElem? (i := 606) (by decide +kernel)⟩
theorem lw_p13 : lw_okq (⟨"BothLists$Reader", "isNewName", "(LBothLists$Names;LBothLists$Speller;I)Z"⟩, 7) := ⟨⟨by decide +kernel, by decide +kernel⟩, List.mem_of_getElem? (i := 65) (by decide +kernel), List.mem_of_getElem? (i := 610) (by decide +kernel), List.mem_of_getElem? (i := 611) (by decide +kernel)⟩
theorem lw_p14 : lw_okq (⟨"BothLists", "takeSpare", "(I)V"⟩, 16) := ⟨⟨by decide +kernel, by decide +kernel⟩, List.mem_of_getElem? (i := 20) (by decide +kernel), List.mem_of_getElem? (i := 637) (by decide +kernel), List.mem_of_getElem? (i := 638) (by decide +kernel)⟩
theorem lw_p15 : lw_okq (⟨"BothLists", "forgetAgreements", "()V"⟩, 16) := ⟨⟨by decide +kernel, by decide +kernel⟩, List.mem_of_getElem? (i := 20) (by decide +kernel), List.mem_of_getElem? (i := 649) (by decide +kernel), List.mem_of_getElem? (i := 650) (by decide +kernel)⟩
def lw_privs_1 : List (MethodName × Nat) := [(⟨"BothLists$Reader", "begin", "()V"⟩, 7), (⟨"BothLists$Tape", "takeWord", "()V"⟩, 8), (⟨"BothLists$Tape", "takeNumber", "()V"⟩, 8), (⟨"BothLists$Reader", "readSame", "(LBothLists$Speller;)Z"⟩, 7), (⟨"BothLists$Reader", "isNewLetter", "(LBothLists$Speller;)Z"⟩, 7), (⟨"BothLists$Reader", "fail", "(I)Z"⟩, 7), (⟨"BothLists$Reader", "readDrop", "(LBothLists$Speller;)Z"⟩, 7), (⟨"BothLists$Reader", "readDouble", "(LBothLists$Speller;)Z"⟩, 7), (⟨"BothLists$Reader", "takeSemicolon", "()Z"⟩, 7), (⟨"BothLists$Reader", "readFirst", "(LBothLists$Speller;)Z"⟩, 7), (⟨"BothLists$Reader", "takeNumber", "(II)Z"⟩, 7), (⟨"BothLists", "forgetChanges", "()V"⟩, 16), (⟨"BothLists$Reader", "readNames", "(LBothLists$Names;LBothLists$Speller;IZ)Z"⟩, 7), (⟨"BothLists$Reader", "isNewName", "(LBothLists$Names;LBothLists$Speller;I)Z"⟩, 7), (⟨"BothLists", "takeSpare", "(I)V"⟩, 16), (⟨"BothLists", "forgetAgreements", "()V"⟩, 16)]
theorem lw_r1 : ∀ q ∈ lw_privs_1, lw_okq q := List.forall_mem_cons.mpr ⟨lw_p0, List.forall_mem_cons.mpr ⟨lw_p1, List.forall_mem_cons.mpr ⟨lw_p2, List.forall_mem_cons.mpr ⟨lw_p3, List.forall_mem_cons.mpr ⟨lw_p4, List.forall_mem_cons.mpr ⟨lw_p5, List.forall_mem_cons.mpr ⟨lw_p6, List.forall_mem_cons.mpr ⟨lw_p7, List.forall_mem_cons.mpr ⟨lw_p8, List.forall_mem_cons.mpr ⟨lw_p9, List.forall_mem_cons.mpr ⟨lw_p10, List.forall_mem_cons.mpr ⟨lw_p11, List.forall_mem_cons.mpr ⟨lw_p12, List.forall_mem_cons.mpr ⟨lw_p13, List.forall_mem_cons.mpr ⟨lw_p14, List.forall_mem_cons.mpr ⟨lw_p15, fun _ h => absurd h List.not_mem_nil⟩⟩⟩⟩⟩⟩⟩⟩⟩⟩⟩⟩⟩⟩⟩⟩
theorem lw_p16 : lw_okq (⟨"BothLists$Reader", "readLine", "(LBothLists$Way;)Z"⟩, 7) := ⟨⟨by decide +kernel, by decide +kernel⟩, List.mem_of_getElem? (i := 65) (by decide +kernel), List.mem_of_getElem? (i := 665) (by decide +kernel), List.mem_of_getElem? (i := 666) (by decide +kernel)⟩
theorem lw_p17 : lw_okq (⟨"BothLists$Reader", "takeAct", "()Z"⟩, 7) := ⟨⟨by decide +kernel, by decide +kernel⟩, List.mem_of_getElem? (i := 65) (by decide +kernel), List.mem_of_getElem? (i := 671) (by decide +kernel), List.mem_of_getElem? (i := 672) (by decide +kernel)⟩
theorem lw_p18 : lw_okq (⟨"BothLists$Reader", "takeBag", "(LBothLists$Way;I)Z"⟩, 7) := ⟨⟨by decide +kernel, by decide +kernel⟩, List.mem_of_getElem? (i := 65) (by decide +kernel), List.mem_of_getElem? (i := 683) (by decide +kernel), List.mem_of_getElem? (i := 684) (by decide +kernel)⟩
theorem lw_p19 : lw_okq (⟨"BothLists$Turning", "plus", "(II)I"⟩, 5) := ⟨⟨by decide +kernel, by decide +kernel⟩, List.mem_of_getElem? (i := 205) (by decide +kernel), List.mem_of_getElem? (i := 737) (by decide +kernel), List.mem_of_getElem? (i := 738) (by decide +kernel)⟩
theorem lw_p20 : lw_okq (⟨"BothLists$Play", "make", "(ILBothLists$Bag;)V"⟩, 4) := ⟨⟨by decide +kernel, by decide +kernel⟩, List.mem_of_getElem? (i := 228) (by decide +kernel), List.mem_of_getElem? (i := 816) (by decide +kernel), List.mem_of_getElem? (i := 817) (by decide +kernel)⟩
theorem lw_p21 : lw_okq (⟨"BothLists$Play", "turn", "(LBothLists$Hand;LBothLists$Bag;)V"⟩, 4) := ⟨⟨by decide +kernel, by decide +kernel⟩, List.mem_of_getElem? (i := 228) (by decide +kernel), List.mem_of_getElem? (i := 828) (by decide +kernel), List.mem_of_getElem? (i := 829) (by decide +kernel)⟩
theorem lw_p22 : lw_okq (⟨"BothLists$Play", "send", "(LBothLists$Bag;LBothLists$Hand;I)V"⟩, 4) := ⟨⟨by decide +kernel, by decide +kernel⟩, List.mem_of_getElem? (i := 228) (by decide +kernel), List.mem_of_getElem? (i := 837) (by decide +kernel), List.mem_of_getElem? (i := 838) (by decide +kernel)⟩
theorem lw_p23 : lw_okq (⟨"BothLists$Play", "pad", "(LBothLists$Hand;LBothLists$Bag;I)V"⟩, 4) := ⟨⟨by decide +kernel, by decide +kernel⟩, List.mem_of_getElem? (i := 228) (by decide +kernel), List.mem_of_getElem? (i := 855) (by decide +kernel), List.mem_of_getElem? (i := 856) (by decide +kernel)⟩
theorem lw_p24 : lw_okq (⟨"BothLists$Play", "meet", "(ILBothLists$Bag;LBothLists$Bag;)V"⟩, 4) := ⟨⟨by decide +kernel, by decide +kernel⟩, List.mem_of_getElem? (i := 228) (by decide +kernel), List.mem_of_getElem? (i := 867) (by decide +kernel), List.mem_of_getElem? (i := 868) (by decide +kernel)⟩
theorem lw_p25 : lw_okq (⟨"BothLists$Play", "sum", "(LBothLists$Hand;)V"⟩, 4) := ⟨⟨by decide +kernel, by decide +kernel⟩, List.mem_of_getElem? (i := 228) (by decide +kernel), List.mem_of_getElem? (i := 875) (by decide +kernel), List.mem_of_getElem? (i := 876) (by decide +kernel)⟩
theorem lw_p26 : lw_okq (⟨"BothLists$Agreement", "loadKnown", "(LBothLists$Names;I)V"⟩, 7) := ⟨⟨by decide +kernel, by decide +kernel⟩, List.mem_of_getElem? (i := 354) (by decide +kernel), List.mem_of_getElem? (i := 907) (by decide +kernel), List.mem_of_getElem? (i := 908) (by decide +kernel)⟩
theorem lw_p27 : lw_okq (⟨"BothLists$Agreement", "loadChosen", "(LBothLists$Hand;I)V"⟩, 7) := ⟨⟨by decide +kernel, by decide +kernel⟩, List.mem_of_getElem? (i := 354) (by decide +kernel), List.mem_of_getElem? (i := 914) (by decide +kernel), List.mem_of_getElem? (i := 915) (by decide +kernel)⟩
theorem lw_p28 : lw_okq (⟨"BothLists$Agreement", "agrees", "(LBothLists$Play;LBothLists$Way;I)Z"⟩, 7) := ⟨⟨by decide +kernel, by decide +kernel⟩, List.mem_of_getElem? (i := 354) (by decide +kernel), List.mem_of_getElem? (i := 918) (by decide +kernel), List.mem_of_getElem? (i := 919) (by decide +kernel)⟩
theorem lw_p29 : lw_okq (⟨"BothLists", "isReadable", "(II)Z"⟩, 16) := ⟨⟨by decide +kernel, by decide +kernel⟩, List.mem_of_getElem? (i := 20) (by decide +kernel), List.mem_of_getElem? (i := 957) (by decide +kernel), List.mem_of_getElem? (i := 958) (by decide +kernel)⟩
theorem lw_p30 : lw_okq (⟨"BothLists", "numbersOf", "(I)I"⟩, 16) := ⟨⟨by decide +kernel, by decide +kernel⟩, List.mem_of_getElem? (i := 20) (by decide +kernel), List.mem_of_getElem? (i := 973) (by decide +kernel), List.mem_of_getElem? (i := 974) (by decide +kernel)⟩
theorem lw_p31 : lw_okq (⟨"BothLists", "rowOf", "(III)J"⟩, 16) := ⟨⟨by decide +kernel, by decide +kernel⟩, List.mem_of_getElem? (i := 20) (by decide +kernel), List.mem_of_getElem? (i := 977) (by decide +kernel), List.mem_of_getElem? (i := 978) (by decide +kernel)⟩
def lw_privs_2 : List (MethodName × Nat) := [(⟨"BothLists$Reader", "readLine", "(LBothLists$Way;)Z"⟩, 7), (⟨"BothLists$Reader", "takeAct", "()Z"⟩, 7), (⟨"BothLists$Reader", "takeBag", "(LBothLists$Way;I)Z"⟩, 7), (⟨"BothLists$Turning", "plus", "(II)I"⟩, 5), (⟨"BothLists$Play", "make", "(ILBothLists$Bag;)V"⟩, 4), (⟨"BothLists$Play", "turn", "(LBothLists$Hand;LBothLists$Bag;)V"⟩, 4), (⟨"BothLists$Play", "send", "(LBothLists$Bag;LBothLists$Hand;I)V"⟩, 4), (⟨"BothLists$Play", "pad", "(LBothLists$Hand;LBothLists$Bag;I)V"⟩, 4), (⟨"BothLists$Play", "meet", "(ILBothLists$Bag;LBothLists$Bag;)V"⟩, 4), (⟨"BothLists$Play", "sum", "(LBothLists$Hand;)V"⟩, 4), (⟨"BothLists$Agreement", "loadKnown", "(LBothLists$Names;I)V"⟩, 7), (⟨"BothLists$Agreement", "loadChosen", "(LBothLists$Hand;I)V"⟩, 7), (⟨"BothLists$Agreement", "agrees", "(LBothLists$Play;LBothLists$Way;I)Z"⟩, 7), (⟨"BothLists", "isReadable", "(II)Z"⟩, 16), (⟨"BothLists", "numbersOf", "(I)I"⟩, 16), (⟨"BothLists", "rowOf", "(III)J"⟩, 16)]
theorem lw_r2 : ∀ q ∈ lw_privs_2, lw_okq q := List.forall_mem_cons.mpr ⟨lw_p16, List.forall_mem_cons.mpr ⟨lw_p17, List.forall_mem_cons.mpr ⟨lw_p18, List.forall_mem_cons.mpr ⟨lw_p19, List.forall_mem_cons.mpr ⟨lw_p20, List.forall_mem_cons.mpr ⟨lw_p21, List.forall_mem_cons.mpr ⟨lw_p22, List.forall_mem_cons.mpr ⟨lw_p23, List.forall_mem_cons.mpr ⟨lw_p24, List.forall_mem_cons.mpr ⟨lw_p25, List.forall_mem_cons.mpr ⟨lw_p26, List.forall_mem_cons.mpr ⟨lw_p27, List.forall_mem_cons.mpr ⟨lw_p28, List.forall_mem_cons.mpr ⟨lw_p29, List.forall_mem_cons.mpr ⟨lw_p30, List.forall_mem_cons.mpr ⟨lw_p31, fun _ h => absurd h List.not_mem_nil⟩⟩⟩⟩⟩⟩⟩⟩⟩⟩⟩⟩⟩⟩⟩⟩
theorem lw_p32 : lw_okq (⟨"BothLists", "seemingIn", "(JII)I"⟩, 16) := ⟨⟨by decide +kernel, by decide +kernel⟩, List.mem_of_getElem? (i := 20) (by decide +kernel), List.mem_of_getElem? (i := 988) (by decide +kernel), List.mem_of_getElem? (i := 989) (by decide +kernel)⟩
theorem lw_p33 : lw_okq (⟨"BothLists", "differentNumbers", "(I)I"⟩, 16) := ⟨⟨by decide +kernel, by decide +kernel⟩, List.mem_of_getElem? (i := 20) (by decide +kernel), List.mem_of_getElem? (i := 993) (by decide +kernel), List.mem_of_getElem? (i := 994) (by decide +kernel)⟩
theorem lw_p34 : lw_okq (⟨"BothLists", "isNextDay", "(I)Z"⟩, 16) := ⟨⟨by decide +kernel, by decide +kernel⟩, List.mem_of_getElem? (i := 20) (by decide +kernel), List.mem_of_getElem? (i := 1013) (by decide +kernel), List.mem_of_getElem? (i := 1014) (by decide +kernel)⟩
theorem lw_p35 : lw_okq (⟨"BothLists", "countChange", "(I)I"⟩, 16) := ⟨⟨by decide +kernel, by decide +kernel⟩, List.mem_of_getElem? (i := 20) (by decide +kernel), List.mem_of_getElem? (i := 1023) (by decide +kernel), List.mem_of_getElem? (i := 1024) (by decide +kernel)⟩
theorem lw_p36 : lw_okq (⟨"BothListsModel", "plain", "()V"⟩, 73) := ⟨⟨by decide +kernel, by decide +kernel⟩, List.mem_of_getElem? (i := 1066) (by decide +kernel), List.mem_of_getElem? (i := 1072) (by decide +kernel), List.mem_of_getElem? (i := 1073) (by decide +kernel)⟩
theorem lw_p37 : lw_okq (⟨"BothListsModel", "take", "()V"⟩, 73) := ⟨⟨by decide +kernel, by decide +kernel⟩, List.mem_of_getElem? (i := 1066) (by decide +kernel), List.mem_of_getElem? (i := 1312) (by decide +kernel), List.mem_of_getElem? (i := 1313) (by decide +kernel)⟩
theorem lw_p38 : lw_okq (⟨"BothListsModel", "scan", "()V"⟩, 73) := ⟨⟨by decide +kernel, by decide +kernel⟩, List.mem_of_getElem? (i := 1066) (by decide +kernel), List.mem_of_getElem? (i := 1316) (by decide +kernel), List.mem_of_getElem? (i := 1317) (by decide +kernel)⟩
theorem lw_p39 : lw_okq (⟨"BothListsModel", "see", "(I)I"⟩, 73) := ⟨⟨by decide +kernel, by decide +kernel⟩, List.mem_of_getElem? (i := 1066) (by decide +kernel), List.mem_of_getElem? (i := 1320) (by decide +kernel), List.mem_of_getElem? (i := 1321) (by decide +kernel)⟩
theorem lw_p40 : lw_okq (⟨"BothListsModel", "keyAt", "(II)I"⟩, 73) := ⟨⟨by decide +kernel, by decide +kernel⟩, List.mem_of_getElem? (i := 1066) (by decide +kernel), List.mem_of_getElem? (i := 1329) (by decide +kernel), List.mem_of_getElem? (i := 1330) (by decide +kernel)⟩
theorem lw_p41 : lw_okq (⟨"BothListsModel", "fresh", "()V"⟩, 73) := ⟨⟨by decide +kernel, by decide +kernel⟩, List.mem_of_getElem? (i := 1066) (by decide +kernel), List.mem_of_getElem? (i := 1339) (by decide +kernel), List.mem_of_getElem? (i := 1340) (by decide +kernel)⟩
theorem lw_p42 : lw_okq (⟨"BothListsModel", "readClause", "()Z"⟩, 73) := ⟨⟨by decide +kernel, by decide +kernel⟩, List.mem_of_getElem? (i := 1066) (by decide +kernel), List.mem_of_getElem? (i := 1343) (by decide +kernel), List.mem_of_getElem? (i := 1344) (by decide +kernel)⟩
theorem lw_p43 : lw_okq (⟨"BothListsModel", "fails", "(I)Z"⟩, 73) := ⟨⟨by decide +kernel, by decide +kernel⟩, List.mem_of_getElem? (i := 1066) (by decide +kernel), List.mem_of_getElem? (i := 1351) (by decide +kernel), List.mem_of_getElem? (i := 1352) (by decide +kernel)⟩
theorem lw_p44 : lw_okq (⟨"BothListsModel", "readLetters", "(Z)Z"⟩, 73) := ⟨⟨by decide +kernel, by decide +kernel⟩, List.mem_of_getElem? (i := 1066) (by decide +kernel), List.mem_of_getElem? (i := 1356) (by decide +kernel), List.mem_of_getElem? (i := 1357) (by decide +kernel)⟩
theorem lw_p45 : lw_okq (⟨"BothListsModel", "letter", "()I"⟩, 73) := ⟨⟨by decide +kernel, by decide +kernel⟩, List.mem_of_getElem? (i := 1066) (by decide +kernel), List.mem_of_getElem? (i := 1360) (by decide +kernel), List.mem_of_getElem? (i := 1361) (by decide +kernel)⟩
theorem lw_p46 : lw_okq (⟨"BothListsModel", "readSemi", "()Z"⟩, 73) := ⟨⟨by decide +kernel, by decide +kernel⟩, List.mem_of_getElem? (i := 1066) (by decide +kernel), List.mem_of_getElem? (i := 1364) (by decide +kernel), List.mem_of_getElem? (i := 1365) (by decide +kernel)⟩
theorem lw_p47 : lw_okq (⟨"BothListsModel", "readList", "(Z)Z"⟩, 73) := ⟨⟨by decide +kernel, by decide +kernel⟩, List.mem_of_getElem? (i := 1066) (by decide +kernel), List.mem_of_getElem? (i := 1375) (by decide +kernel), List.mem_of_getElem? (i := 1376) (by decide +kernel)⟩
def lw_privs_3 : List (MethodName × Nat) := [(⟨"BothLists", "seemingIn", "(JII)I"⟩, 16), (⟨"BothLists", "differentNumbers", "(I)I"⟩, 16), (⟨"BothLists", "isNextDay", "(I)Z"⟩, 16), (⟨"BothLists", "countChange", "(I)I"⟩, 16), (⟨"BothListsModel", "plain", "()V"⟩, 73), (⟨"BothListsModel", "take", "()V"⟩, 73), (⟨"BothListsModel", "scan", "()V"⟩, 73), (⟨"BothListsModel", "see", "(I)I"⟩, 73), (⟨"BothListsModel", "keyAt", "(II)I"⟩, 73), (⟨"BothListsModel", "fresh", "()V"⟩, 73), (⟨"BothListsModel", "readClause", "()Z"⟩, 73), (⟨"BothListsModel", "fails", "(I)Z"⟩, 73), (⟨"BothListsModel", "readLetters", "(Z)Z"⟩, 73), (⟨"BothListsModel", "letter", "()I"⟩, 73), (⟨"BothListsModel", "readSemi", "()Z"⟩, 73), (⟨"BothListsModel", "readList", "(Z)Z"⟩, 73)]
theorem lw_r3 : ∀ q ∈ lw_privs_3, lw_okq q := List.forall_mem_cons.mpr ⟨lw_p32, List.forall_mem_cons.mpr ⟨lw_p33, List.forall_mem_cons.mpr ⟨lw_p34, List.forall_mem_cons.mpr ⟨lw_p35, List.forall_mem_cons.mpr ⟨lw_p36, List.forall_mem_cons.mpr ⟨lw_p37, List.forall_mem_cons.mpr ⟨lw_p38, List.forall_mem_cons.mpr ⟨lw_p39, List.forall_mem_cons.mpr ⟨lw_p40, List.forall_mem_cons.mpr ⟨lw_p41, List.forall_mem_cons.mpr ⟨lw_p42, List.forall_mem_cons.mpr ⟨lw_p43, List.forall_mem_cons.mpr ⟨lw_p44, List.forall_mem_cons.mpr ⟨lw_p45, List.forall_mem_cons.mpr ⟨lw_p46, List.forall_mem_cons.mpr ⟨lw_p47, fun _ h => absurd h List.not_mem_nil⟩⟩⟩⟩⟩⟩⟩⟩⟩⟩⟩⟩⟩⟩⟩⟩
theorem lw_p48 : lw_okq (⟨"BothListsModel", "keyOf", "(J)J"⟩, 73) := ⟨⟨by decide +kernel, by decide +kernel⟩, List.mem_of_getElem? (i := 1066) (by decide +kernel), List.mem_of_getElem? (i := 1379) (by decide +kernel), List.mem_of_getElem? (i := 1380) (by decide +kernel)⟩
theorem lw_p49 : lw_okq (⟨"BothListsModel", "isName", "(IJ)Z"⟩, 73) := ⟨⟨by decide +kernel, by decide +kernel⟩, List.mem_of_getElem? (i := 1066) (by decide +kernel), List.mem_of_getElem? (i := 1384) (by decide +kernel), List.mem_of_getElem? (i := 1385) (by decide +kernel)⟩
theorem lw_p50 : lw_okq (⟨"BothListsModel", "settle", "(I)I"⟩, 73) := ⟨⟨by decide +kernel, by decide +kernel⟩, List.mem_of_getElem? (i := 1066) (by decide +kernel), List.mem_of_getElem? (i := 1389) (by decide +kernel), List.mem_of_getElem? (i := 1390) (by decide +kernel)⟩
theorem lw_p51 : lw_okq (⟨"BothListsModel", "numberOf", "(J)I"⟩, 73) := ⟨⟨by decide +kernel, by decide +kernel⟩, List.mem_of_getElem? (i := 1066) (by decide +kernel), List.mem_of_getElem? (i := 1416) (by decide +kernel), List.mem_of_getElem? (i := 1417) (by decide +kernel)⟩
theorem lw_p52 : lw_okq (⟨"BothListsModel", "mayTurn", "(II)Z"⟩, 73) := ⟨⟨by decide +kernel, by decide +kernel⟩, List.mem_of_getElem? (i := 1066) (by decide +kernel), List.mem_of_getElem? (i := 1425) (by decide +kernel), List.mem_of_getElem? (i := 1426) (by decide +kernel)⟩
theorem lw_p53 : lw_okq (⟨"BothListsModel", "turn", "(III)I"⟩, 73) := ⟨⟨by decide +kernel, by decide +kernel⟩, List.mem_of_getElem? (i := 1066) (by decide +kernel), List.mem_of_getElem? (i := 1436) (by decide +kernel), List.mem_of_getElem? (i := 1437) (by decide +kernel)⟩
theorem lw_p54 : lw_okq (⟨"BothListsModel", "power", "(JJ)J"⟩, 73) := ⟨⟨by decide +kernel, by decide +kernel⟩, List.mem_of_getElem? (i := 1066) (by decide +kernel), List.mem_of_getElem? (i := 1440) (by decide +kernel), List.mem_of_getElem? (i := 1441) (by decide +kernel)⟩
theorem lw_p55 : lw_okq (⟨"BothListsModel", "readLine", "()Z"⟩, 73) := ⟨⟨by decide +kernel, by decide +kernel⟩, List.mem_of_getElem? (i := 1066) (by decide +kernel), List.mem_of_getElem? (i := 1464) (by decide +kernel), List.mem_of_getElem? (i := 1465) (by decide +kernel)⟩
theorem lw_p56 : lw_okq (⟨"BothListsModel", "readBag", "(II)I"⟩, 73) := ⟨⟨by decide +kernel, by decide +kernel⟩, List.mem_of_getElem? (i := 1066) (by decide +kernel), List.mem_of_getElem? (i := 1470) (by decide +kernel), List.mem_of_getElem? (i := 1471) (by decide +kernel)⟩
theorem lw_p57 : lw_okq (⟨"BothListsModel", "asTold", "(I)V"⟩, 73) := ⟨⟨by decide +kernel, by decide +kernel⟩, List.mem_of_getElem? (i := 1066) (by decide +kernel), List.mem_of_getElem? (i := 1479) (by decide +kernel), List.mem_of_getElem? (i := 1480) (by decide +kernel)⟩
theorem lw_p58 : lw_okq (⟨"BothListsModel", "runs", "()V"⟩, 73) := ⟨⟨by decide +kernel, by decide +kernel⟩, List.mem_of_getElem? (i := 1066) (by decide +kernel), List.mem_of_getElem? (i := 1483) (by decide +kernel), List.mem_of_getElem? (i := 1484) (by decide +kernel)⟩
theorem lw_p59 : lw_okq (⟨"BothListsModel", "mix", "(I)V"⟩, 73) := ⟨⟨by decide +kernel, by decide +kernel⟩, List.mem_of_getElem? (i := 1066) (by decide +kernel), List.mem_of_getElem? (i := 1487) (by decide +kernel), List.mem_of_getElem? (i := 1488) (by decide +kernel)⟩
theorem lw_p60 : lw_okq (⟨"BothListsModel", "sends", "(III)V"⟩, 73) := ⟨⟨by decide +kernel, by decide +kernel⟩, List.mem_of_getElem? (i := 1066) (by decide +kernel), List.mem_of_getElem? (i := 1491) (by decide +kernel), List.mem_of_getElem? (i := 1492) (by decide +kernel)⟩
theorem lw_p61 : lw_okq (⟨"BothListsModel", "tell", "(II)V"⟩, 73) := ⟨⟨by decide +kernel, by decide +kernel⟩, List.mem_of_getElem? (i := 1066) (by decide +kernel), List.mem_of_getElem? (i := 1495) (by decide +kernel), List.mem_of_getElem? (i := 1496) (by decide +kernel)⟩
theorem lw_p62 : lw_okq (⟨"BothListsModel", "meets", "(IIIZ)V"⟩, 73) := ⟨⟨by decide +kernel, by decide +kernel⟩, List.mem_of_getElem? (i := 1066) (by decide +kernel), List.mem_of_getElem? (i := 1503) (by decide +kernel), List.mem_of_getElem? (i := 1504) (by decide +kernel)⟩
theorem lw_p63 : lw_okq (⟨"BothListsModel", "isInBag", "(II)Z"⟩, 73) := ⟨⟨by decide +kernel, by decide +kernel⟩, List.mem_of_getElem? (i := 1066) (by decide +kernel), List.mem_of_getElem? (i := 1507) (by decide +kernel), List.mem_of_getElem? (i := 1508) (by decide +kernel)⟩
def lw_privs_4 : List (MethodName × Nat) := [(⟨"BothListsModel", "keyOf", "(J)J"⟩, 73), (⟨"BothListsModel", "isName", "(IJ)Z"⟩, 73), (⟨"BothListsModel", "settle", "(I)I"⟩, 73), (⟨"BothListsModel", "numberOf", "(J)I"⟩, 73), (⟨"BothListsModel", "mayTurn", "(II)Z"⟩, 73), (⟨"BothListsModel", "turn", "(III)I"⟩, 73), (⟨"BothListsModel", "power", "(JJ)J"⟩, 73), (⟨"BothListsModel", "readLine", "()Z"⟩, 73), (⟨"BothListsModel", "readBag", "(II)I"⟩, 73), (⟨"BothListsModel", "asTold", "(I)V"⟩, 73), (⟨"BothListsModel", "runs", "()V"⟩, 73), (⟨"BothListsModel", "mix", "(I)V"⟩, 73), (⟨"BothListsModel", "sends", "(III)V"⟩, 73), (⟨"BothListsModel", "tell", "(II)V"⟩, 73), (⟨"BothListsModel", "meets", "(IIIZ)V"⟩, 73), (⟨"BothListsModel", "isInBag", "(II)Z"⟩, 73)]
theorem lw_r4 : ∀ q ∈ lw_privs_4, lw_okq q := List.forall_mem_cons.mpr ⟨lw_p48, List.forall_mem_cons.mpr ⟨lw_p49, List.forall_mem_cons.mpr ⟨lw_p50, List.forall_mem_cons.mpr ⟨lw_p51, List.forall_mem_cons.mpr ⟨lw_p52, List.forall_mem_cons.mpr ⟨lw_p53, List.forall_mem_cons.mpr ⟨lw_p54, List.forall_mem_cons.mpr ⟨lw_p55, List.forall_mem_cons.mpr ⟨lw_p56, List.forall_mem_cons.mpr ⟨lw_p57, List.forall_mem_cons.mpr ⟨lw_p58, List.forall_mem_cons.mpr ⟨lw_p59, List.forall_mem_cons.mpr ⟨lw_p60, List.forall_mem_cons.mpr ⟨lw_p61, List.forall_mem_cons.mpr ⟨lw_p62, List.forall_mem_cons.mpr ⟨lw_p63, fun _ h => absurd h List.not_mem_nil⟩⟩⟩⟩⟩⟩⟩⟩⟩⟩⟩⟩⟩⟩⟩⟩
theorem lw_p64 : lw_okq (⟨"BothListsModel", "makeAgreeing", "(I)V"⟩, 73) := ⟨⟨by decide +kernel, by decide +kernel⟩, List.mem_of_getElem? (i := 1066) (by decide +kernel), List.mem_of_getElem? (i := 1527) (by decide +kernel), List.mem_of_getElem? (i := 1528) (by decide +kernel)⟩
theorem lw_p65 : lw_okq (⟨"BothListsModel", "isAsSeen", "(I)Z"⟩, 73) := ⟨⟨by decide +kernel, by decide +kernel⟩, List.mem_of_getElem? (i := 1066) (by decide +kernel), List.mem_of_getElem? (i := 1531) (by decide +kernel), List.mem_of_getElem? (i := 1532) (by decide +kernel)⟩
theorem lw_p66 : lw_okq (⟨"BothListsModel", "wasSent", "(II)Z"⟩, 73) := ⟨⟨by decide +kernel, by decide +kernel⟩, List.mem_of_getElem? (i := 1066) (by decide +kernel), List.mem_of_getElem? (i := 1543) (by decide +kernel), List.mem_of_getElem? (i := 1544) (by decide +kernel)⟩
theorem lw_p67 : lw_okq (⟨"BothListsModel", "rowOf", "(III)J"⟩, 73) := ⟨⟨by decide +kernel, by decide +kernel⟩, List.mem_of_getElem? (i := 1066) (by decide +kernel), List.mem_of_getElem? (i := 1555) (by decide +kernel), List.mem_of_getElem? (i := 1556) (by decide +kernel)⟩
theorem lw_p68 : lw_okq (⟨"BothListsModel", "strangersOf", "(III)I"⟩, 73) := ⟨⟨by decide +kernel, by decide +kernel⟩, List.mem_of_getElem? (i := 1066) (by decide +kernel), List.mem_of_getElem? (i := 1567) (by decide +kernel), List.mem_of_getElem? (i := 1568) (by decide +kernel)⟩
theorem lw_p69 : lw_okq (⟨"BothListsModel", "hasNumber", "(II)Z"⟩, 73) := ⟨⟨by decide +kernel, by decide +kernel⟩, List.mem_of_getElem? (i := 1066) (by decide +kernel), List.mem_of_getElem? (i := 1571) (by decide +kernel), List.mem_of_getElem? (i := 1572) (by decide +kernel)⟩
theorem lw_p70 : lw_okq (⟨"BothListsModel", "asOf", "(II)V"⟩, 73) := ⟨⟨by decide +kernel, by decide +kernel⟩, List.mem_of_getElem? (i := 1066) (by decide +kernel), List.mem_of_getElem? (i := 1588) (by decide +kernel), List.mem_of_getElem? (i := 1589) (by decide +kernel)⟩
theorem lw_p71 : lw_okq (⟨"BothListsModel", "placeOf", "(J)I"⟩, 73) := ⟨⟨by decide +kernel, by decide +kernel⟩, List.mem_of_getElem? (i := 1066) (by decide +kernel), List.mem_of_getElem? (i := 1592) (by decide +kernel), List.mem_of_getElem? (i := 1593) (by decide +kernel)⟩
theorem lw_p72 : lw_okq (⟨"BothListsModel", "change", "(IIJIZ)I"⟩, 73) := ⟨⟨by decide +kernel, by decide +kernel⟩, List.mem_of_getElem? (i := 1066) (by decide +kernel), List.mem_of_getElem? (i := 1596) (by decide +kernel), List.mem_of_getElem? (i := 1597) (by decide +kernel)⟩
theorem lw_p73 : lw_okq (⟨"BothListsModel", "odds", "(III)V"⟩, 73) := ⟨⟨by decide +kernel, by decide +kernel⟩, List.mem_of_getElem? (i := 1066) (by decide +kernel), List.mem_of_getElem? (i := 1620) (by decide +kernel), List.mem_of_getElem? (i := 1621) (by decide +kernel)⟩
def lw_privs_5 : List (MethodName × Nat) := [(⟨"BothListsModel", "makeAgreeing", "(I)V"⟩, 73), (⟨"BothListsModel", "isAsSeen", "(I)Z"⟩, 73), (⟨"BothListsModel", "wasSent", "(II)Z"⟩, 73), (⟨"BothListsModel", "rowOf", "(III)J"⟩, 73), (⟨"BothListsModel", "strangersOf", "(III)I"⟩, 73), (⟨"BothListsModel", "hasNumber", "(II)Z"⟩, 73), (⟨"BothListsModel", "asOf", "(II)V"⟩, 73), (⟨"BothListsModel", "placeOf", "(J)I"⟩, 73), (⟨"BothListsModel", "change", "(IIJIZ)I"⟩, 73), (⟨"BothListsModel", "odds", "(III)V"⟩, 73)]
theorem lw_r5 : ∀ q ∈ lw_privs_5, lw_okq q := List.forall_mem_cons.mpr ⟨lw_p64, List.forall_mem_cons.mpr ⟨lw_p65, List.forall_mem_cons.mpr ⟨lw_p66, List.forall_mem_cons.mpr ⟨lw_p67, List.forall_mem_cons.mpr ⟨lw_p68, List.forall_mem_cons.mpr ⟨lw_p69, List.forall_mem_cons.mpr ⟨lw_p70, List.forall_mem_cons.mpr ⟨lw_p71, List.forall_mem_cons.mpr ⟨lw_p72, List.forall_mem_cons.mpr ⟨lw_p73, fun _ h => absurd h List.not_mem_nil⟩⟩⟩⟩⟩⟩⟩⟩⟩⟩
def lw_privs : List (MethodName × Nat) := lw_privs_1 ++ (lw_privs_2 ++ (lw_privs_3 ++ (lw_privs_4 ++ (lw_privs_5))))
def lw_tbl : List Cond := k2_sels lw_privs ++ tables_1
theorem lw_privs_ok : ∀ q ∈ lw_privs, lw_okq q := by
  show ∀ q ∈ lw_privs_1 ++ (lw_privs_2 ++ (lw_privs_3 ++ (lw_privs_4 ++ (lw_privs_5)))), lw_okq q
  exact List.forall_mem_append.mpr ⟨lw_r1, List.forall_mem_append.mpr ⟨lw_r2, List.forall_mem_append.mpr ⟨lw_r3, List.forall_mem_append.mpr ⟨lw_r4, lw_r5⟩⟩⟩⟩
-- ===== end of PART A; then your names; then what follows =====
end
section
/-! NAMES (printed by wip/tools/emit.py out of claim/NAMES.whole.lean.txt): classes, fields, methods. -/
def RX0 : String := "BothLists$Agreement"
def TX0 : u_T := fun k => match k with
  | 0 => ("BothLists$Agreement", "keyNumbers", "[I", true)
  | 1 => ("BothLists$Agreement", "numbers", "[I", true)
  | 2 => ("BothLists$Agreement", "trial", "LBothLists$Play;", true)
  | 3 => ("BothLists$Agreement", "guess", "LBothLists$Turning;", true)
  | 4 => ("BothLists$Agreement", "fresh", "Z", false)
  | 5 => ("BothLists$Agreement", "subsets", "I", false)
  | _ => ("BothLists$Agreement", "linesThatShow", "I", false)
def tyX0 : Nat → FieldType := fun k => match k with
  | 0 => .array .int
  | 1 => .array .int
  | 2 => .object "BothLists$Play"
  | 3 => .object "BothLists$Turning"
  | 4 => .boolean
  | 5 => .int
  | _ => .int
theorem nmX0 : ∀ a, a < 7 → ∀ b, b < 7 → a ≠ b → (TX0 a).2.1 ≠ (TX0 b).2.1 := by decide +kernel
theorem tyX0_ok : ∀ k, k < 7 → parseFieldDescriptor (TX0 k).2.2.1 = some (tyX0 k) := by decide +kernel
abbrev cX0_init : ByteArray := prog_2_method_1_code
def yX0_init : MethodName := ⟨RX0, "<init>", "(LBothLists$Play;LBothLists$Turning;)V"⟩
abbrev cX0_search : ByteArray := prog_2_method_2_code
def yX0_search : MethodName := ⟨RX0, "search", "(LBothLists$Play;LBothLists$Way;LBothLists$Names;I)V"⟩
abbrev cX0_loadKnown : ByteArray := prog_2_method_3_code
def yX0_loadKnown : MethodName := ⟨RX0, "loadKnown", "(LBothLists$Names;I)V"⟩
abbrev cX0_loadChosen : ByteArray := prog_2_method_4_code
def yX0_loadChosen : MethodName := ⟨RX0, "loadChosen", "(LBothLists$Hand;I)V"⟩
abbrev cX0_agrees : ByteArray := prog_2_method_5_code
def yX0_agrees : MethodName := ⟨RX0, "agrees", "(LBothLists$Play;LBothLists$Way;I)Z"⟩
abbrev cX0_agreeingLists : ByteArray := prog_2_method_6_code
def yX0_agreeingLists : MethodName := ⟨RX0, "agreeingLists", "()I"⟩
abbrev cX0_agreeingListsWith : ByteArray := prog_2_method_7_code
def yX0_agreeingListsWith : MethodName := ⟨RX0, "agreeingListsWith", "(I)I"⟩
abbrev cX0_pairs : ByteArray := prog_2_method_8_code
def yX0_pairs : MethodName := ⟨RX0, "pairs", "()I"⟩
abbrev cX0_isEven : ByteArray := prog_2_method_9_code
def yX0_isEven : MethodName := ⟨RX0, "isEven", "()Z"⟩
abbrev cX0_leastList : ByteArray := prog_2_method_10_code
def yX0_leastList : MethodName := ⟨RX0, "leastList", "()I"⟩
def RX1 : String := "BothLists$Arithmetic"
def TX1 : u_T := fun k => match k with
  | _ => ("", "", "", false)
def tyX1 : Nat → FieldType := fun k => match k with
  | _ => .int
theorem nmX1 : ∀ a, a < 0 → ∀ b, b < 0 → a ≠ b → (TX1 a).2.1 ≠ (TX1 b).2.1 := by decide +kernel
theorem tyX1_ok : ∀ k, k < 0 → parseFieldDescriptor (TX1 k).2.2.1 = some (tyX1 k) := by decide +kernel
abbrev cX1_isPrime : ByteArray := prog_3_method_2_code
def yX1_isPrime : MethodName := ⟨RX1, "isPrime", "(I)Z"⟩
abbrev cX1_commonFactor : ByteArray := prog_3_method_3_code
def yX1_commonFactor : MethodName := ⟨RX1, "commonFactor", "(JJ)J"⟩
abbrev cX1_times : ByteArray := prog_3_method_4_code
def yX1_times : MethodName := ⟨RX1, "times", "(JJI)I"⟩
abbrev cX1_power : ByteArray := prog_3_method_5_code
def yX1_power : MethodName := ⟨RX1, "power", "(III)I"⟩
abbrev cX1_inverse : ByteArray := prog_3_method_6_code
def yX1_inverse : MethodName := ⟨RX1, "inverse", "(II)I"⟩
abbrev cX1_choose : ByteArray := prog_3_method_7_code
def yX1_choose : MethodName := ⟨RX1, "choose", "(II)J"⟩
def RX2 : String := "BothLists$Bag"
def TX2 : u_T := fun k => match k with
  | 0 => ("BothLists$Bag", "numbers", "[I", true)
  | 1 => ("BothLists$Bag", "size", "I", false)
  | 2 => ("BothLists$Bag", "maker", "I", false)
  | 3 => ("BothLists$Bag", "isCounted", "Z", false)
  | _ => ("BothLists$Bag", "isMixed", "Z", false)
def tyX2 : Nat → FieldType := fun k => match k with
  | 0 => .array .int
  | 1 => .int
  | 2 => .int
  | 3 => .boolean
  | _ => .boolean
theorem nmX2 : ∀ a, a < 5 → ∀ b, b < 5 → a ≠ b → (TX2 a).2.1 ≠ (TX2 b).2.1 := by decide +kernel
theorem tyX2_ok : ∀ k, k < 5 → parseFieldDescriptor (TX2 k).2.2.1 = some (tyX2 k) := by decide +kernel
abbrev cX2_init : ByteArray := prog_4_method_1_code
def yX2_init : MethodName := ⟨RX2, "<init>", "()V"⟩
abbrev cX2_begin : ByteArray := prog_4_method_2_code
def yX2_begin : MethodName := ⟨RX2, "begin", "(I)V"⟩
abbrev cX2_put : ByteArray := prog_4_method_3_code
def yX2_put : MethodName := ⟨RX2, "put", "(I)V"⟩
abbrev cX2_copy : ByteArray := prog_4_method_4_code
def yX2_copy : MethodName := ⟨RX2, "copy", "(LBothLists$Bag;)V"⟩
abbrev cX2_mix : ByteArray := prog_4_method_5_code
def yX2_mix : MethodName := ⟨RX2, "mix", "()V"⟩
abbrev cX2_has : ByteArray := prog_4_method_6_code
def yX2_has : MethodName := ⟨RX2, "has", "(I)Z"⟩
def RX3 : String := "BothLists$Hand"
def TX3 : u_T := fun k => match k with
  | 0 => ("BothLists$Hand", "list", "[I", true)
  | 1 => ("BothLists$Hand", "dowries", "[I", true)
  | 2 => ("BothLists$Hand", "bags", "[LBothLists$Bag;", true)
  | 3 => ("BothLists$Hand", "seen", "[I", true)
  | 4 => ("BothLists$Hand", "isOnTrial", "Z", true)
  | 5 => ("BothLists$Hand", "sawOther", "Z", false)
  | 6 => ("BothLists$Hand", "listSize", "I", false)
  | 7 => ("BothLists$Hand", "turning", "LBothLists$Turning;", false)
  | 8 => ("BothLists$Hand", "seed", "I", false)
  | 9 => ("BothLists$Hand", "draw", "J", false)
  | 10 => ("BothLists$Hand", "seenSize", "I", false)
  | 11 => ("BothLists$Hand", "outKind", "I", false)
  | 12 => ("BothLists$Hand", "outValue", "I", false)
  | _ => ("BothLists$Hand", "outPlaces", "J", false)
def tyX3 : Nat → FieldType := fun k => match k with
  | 0 => .array .int
  | 1 => .array .int
  | 2 => .array (.object "BothLists$Bag")
  | 3 => .array .int
  | 4 => .boolean
  | 5 => .boolean
  | 6 => .int
  | 7 => .object "BothLists$Turning"
  | 8 => .int
  | 9 => .long
  | 10 => .int
  | 11 => .int
  | 12 => .int
  | _ => .long
theorem nmX3 : ∀ a, a < 14 → ∀ b, b < 14 → a ≠ b → (TX3 a).2.1 ≠ (TX3 b).2.1 := by decide +kernel
theorem tyX3_ok : ∀ k, k < 14 → parseFieldDescriptor (TX3 k).2.2.1 = some (tyX3 k) := by decide +kernel
abbrev cX3_init : ByteArray := prog_5_method_1_code
def yX3_init : MethodName := ⟨RX3, "<init>", "(LBothLists$Turning;[IZ)V"⟩
abbrev cX3_load : ByteArray := prog_5_method_2_code
def yX3_load : MethodName := ⟨RX3, "load", "(LBothLists$Names;II)V"⟩
abbrev cX3_loadLike : ByteArray := prog_5_method_3_code
def yX3_loadLike : MethodName := ⟨RX3, "loadLike", "(LBothLists$Hand;)V"⟩
abbrev cX3_start : ByteArray := prog_5_method_4_code
def yX3_start : MethodName := ⟨RX3, "start", "()V"⟩
abbrev cX3_nextDraw : ByteArray := prog_5_method_5_code
def yX3_nextDraw : MethodName := ⟨RX3, "nextDraw", "(I)I"⟩
abbrev cX3_see : ByteArray := prog_5_method_6_code
def yX3_see : MethodName := ⟨RX3, "see", "(I)V"⟩
abbrev cX3_seeBag : ByteArray := prog_5_method_7_code
def yX3_seeBag : MethodName := ⟨RX3, "seeBag", "(LBothLists$Bag;)V"⟩
abbrev cX3_hasSeen : ByteArray := prog_5_method_8_code
def yX3_hasSeen : MethodName := ⟨RX3, "hasSeen", "(I)Z"⟩
def RX4 : String := "BothLists$Names"
def TX4 : u_T := fun k => match k with
  | 0 => ("BothLists$Names", "words", "[J", true)
  | 1 => ("BothLists$Names", "keys", "[J", true)
  | 2 => ("BothLists$Names", "dowries", "[I", true)
  | 3 => ("BothLists$Names", "from", "[I", true)
  | 4 => ("BothLists$Names", "gone", "[I", true)
  | 5 => ("BothLists$Names", "told", "I", false)
  | _ => ("BothLists$Names", "all", "I", false)
def tyX4 : Nat → FieldType := fun k => match k with
  | 0 => .array .long
  | 1 => .array .long
  | 2 => .array .int
  | 3 => .array .int
  | 4 => .array .int
  | 5 => .int
  | _ => .int
theorem nmX4 : ∀ a, a < 7 → ∀ b, b < 7 → a ≠ b → (TX4 a).2.1 ≠ (TX4 b).2.1 := by decide +kernel
theorem tyX4_ok : ∀ k, k < 7 → parseFieldDescriptor (TX4 k).2.2.1 = some (tyX4 k) := by decide +kernel
abbrev cX4_init : ByteArray := prog_6_method_1_code
def yX4_init : MethodName := ⟨RX4, "<init>", "()V"⟩
abbrev cX4_clear : ByteArray := prog_6_method_2_code
def yX4_clear : MethodName := ⟨RX4, "clear", "()V"⟩
abbrev cX4_forgetChanges : ByteArray := prog_6_method_3_code
def yX4_forgetChanges : MethodName := ⟨RX4, "forgetChanges", "()V"⟩
abbrev cX4_add : ByteArray := prog_6_method_4_code
def yX4_add : MethodName := ⟨RX4, "add", "(JJII)V"⟩
abbrev cX4_tell : ByteArray := prog_6_method_5_code
def yX4_tell : MethodName := ⟨RX4, "tell", "(JJI)V"⟩
abbrev cX4_isOn : ByteArray := prog_6_method_6_code
def yX4_isOn : MethodName := ⟨RX4, "isOn", "(II)Z"⟩
abbrev cX4_find : ByteArray := prog_6_method_7_code
def yX4_find : MethodName := ⟨RX4, "find", "(JI)I"⟩
abbrev cX4_sizeAt : ByteArray := prog_6_method_8_code
def yX4_sizeAt : MethodName := ⟨RX4, "sizeAt", "(I)I"⟩
abbrev cX4_dowriesAt : ByteArray := prog_6_method_9_code
def yX4_dowriesAt : MethodName := ⟨RX4, "dowriesAt", "(I)I"⟩
def RX5 : String := "BothLists$Play"
def TX5 : u_T := fun k => match k with
  | 0 => ("BothLists$Play", "hands", "[LBothLists$Hand;", true)
  | 1 => ("BothLists$Play", "p", "I", false)
  | 2 => ("BothLists$Play", "turnsDone", "I", false)
  | _ => ("BothLists$Play", "bytesSent", "I", false)
def tyX5 : Nat → FieldType := fun k => match k with
  | 0 => .array (.object "BothLists$Hand")
  | 1 => .int
  | 2 => .int
  | _ => .int
theorem nmX5 : ∀ a, a < 4 → ∀ b, b < 4 → a ≠ b → (TX5 a).2.1 ≠ (TX5 b).2.1 := by decide +kernel
theorem tyX5_ok : ∀ k, k < 4 → parseFieldDescriptor (TX5 k).2.2.1 = some (tyX5 k) := by decide +kernel
abbrev cX5_init : ByteArray := prog_7_method_1_code
def yX5_init : MethodName := ⟨RX5, "<init>", "(LBothLists$Hand;LBothLists$Hand;)V"⟩
abbrev cX5_start : ByteArray := prog_7_method_2_code
def yX5_start : MethodName := ⟨RX5, "start", "(I)V"⟩
abbrev cX5_doLine : ByteArray := prog_7_method_3_code
def yX5_doLine : MethodName := ⟨RX5, "doLine", "(LBothLists$Way;I)V"⟩
abbrev cX5_make : ByteArray := prog_7_method_4_code
def yX5_make : MethodName := ⟨RX5, "make", "(ILBothLists$Bag;)V"⟩
abbrev cX5_turn : ByteArray := prog_7_method_5_code
def yX5_turn : MethodName := ⟨RX5, "turn", "(LBothLists$Hand;LBothLists$Bag;)V"⟩
abbrev cX5_send : ByteArray := prog_7_method_6_code
def yX5_send : MethodName := ⟨RX5, "send", "(LBothLists$Bag;LBothLists$Hand;I)V"⟩
abbrev cX5_pad : ByteArray := prog_7_method_7_code
def yX5_pad : MethodName := ⟨RX5, "pad", "(LBothLists$Hand;LBothLists$Bag;I)V"⟩
abbrev cX5_meet : ByteArray := prog_7_method_8_code
def yX5_meet : MethodName := ⟨RX5, "meet", "(ILBothLists$Bag;LBothLists$Bag;)V"⟩
abbrev cX5_sum : ByteArray := prog_7_method_9_code
def yX5_sum : MethodName := ⟨RX5, "sum", "(LBothLists$Hand;)V"⟩
def RX6 : String := "BothLists$Reader"
def TX6 : u_T := fun k => match k with
  | 0 => ("BothLists$Reader", "tape", "LBothLists$Tape;", true)
  | 1 => ("BothLists$Reader", "faultKind", "I", false)
  | 2 => ("BothLists$Reader", "faultPlace", "I", false)
  | 3 => ("BothLists$Reader", "word", "J", false)
  | 4 => ("BothLists$Reader", "dowry", "I", false)
  | 5 => ("BothLists$Reader", "act", "I", false)
  | _ => ("BothLists$Reader", "letter", "I", false)
def tyX6 : Nat → FieldType := fun k => match k with
  | 0 => .object "BothLists$Tape"
  | 1 => .int
  | 2 => .int
  | 3 => .long
  | 4 => .int
  | 5 => .int
  | _ => .int
theorem nmX6 : ∀ a, a < 7 → ∀ b, b < 7 → a ≠ b → (TX6 a).2.1 ≠ (TX6 b).2.1 := by decide +kernel
theorem tyX6_ok : ∀ k, k < 7 → parseFieldDescriptor (TX6 k).2.2.1 = some (tyX6 k) := by decide +kernel
abbrev cX6_init : ByteArray := prog_8_method_1_code
def yX6_init : MethodName := ⟨RX6, "<init>", "(LBothLists$Tape;)V"⟩
abbrev cX6_begin : ByteArray := prog_8_method_2_code
def yX6_begin : MethodName := ⟨RX6, "begin", "()V"⟩
abbrev cX6_fail : ByteArray := prog_8_method_3_code
def yX6_fail : MethodName := ⟨RX6, "fail", "(I)Z"⟩
abbrev cX6_takeSemicolon : ByteArray := prog_8_method_4_code
def yX6_takeSemicolon : MethodName := ⟨RX6, "takeSemicolon", "()Z"⟩
abbrev cX6_takeNumber : ByteArray := prog_8_method_5_code
def yX6_takeNumber : MethodName := ⟨RX6, "takeNumber", "(II)Z"⟩
abbrev cX6_readSpelling : ByteArray := prog_8_method_6_code
def yX6_readSpelling : MethodName := ⟨RX6, "readSpelling", "(LBothLists$Speller;)Z"⟩
abbrev cX6_readSame : ByteArray := prog_8_method_7_code
def yX6_readSame : MethodName := ⟨RX6, "readSame", "(LBothLists$Speller;)Z"⟩
abbrev cX6_readDrop : ByteArray := prog_8_method_8_code
def yX6_readDrop : MethodName := ⟨RX6, "readDrop", "(LBothLists$Speller;)Z"⟩
abbrev cX6_isNewLetter : ByteArray := prog_8_method_9_code
def yX6_isNewLetter : MethodName := ⟨RX6, "isNewLetter", "(LBothLists$Speller;)Z"⟩
abbrev cX6_readDouble : ByteArray := prog_8_method_10_code
def yX6_readDouble : MethodName := ⟨RX6, "readDouble", "(LBothLists$Speller;)Z"⟩
abbrev cX6_readFirst : ByteArray := prog_8_method_11_code
def yX6_readFirst : MethodName := ⟨RX6, "readFirst", "(LBothLists$Speller;)Z"⟩
abbrev cX6_readList : ByteArray := prog_8_method_12_code
def yX6_readList : MethodName := ⟨RX6, "readList", "(LBothLists$Names;LBothLists$Speller;)Z"⟩
abbrev cX6_readKnown : ByteArray := prog_8_method_13_code
def yX6_readKnown : MethodName := ⟨RX6, "readKnown", "(LBothLists$Names;LBothLists$Speller;)Z"⟩
abbrev cX6_readNames : ByteArray := prog_8_method_14_code
def yX6_readNames : MethodName := ⟨RX6, "readNames", "(LBothLists$Names;LBothLists$Speller;IZ)Z"⟩
abbrev cX6_isNewName : ByteArray := prog_8_method_15_code
def yX6_isNewName : MethodName := ⟨RX6, "isNewName", "(LBothLists$Names;LBothLists$Speller;I)Z"⟩
abbrev cX6_readWay : ByteArray := prog_8_method_16_code
def yX6_readWay : MethodName := ⟨RX6, "readWay", "(LBothLists$Way;)Z"⟩
abbrev cX6_readLine : ByteArray := prog_8_method_17_code
def yX6_readLine : MethodName := ⟨RX6, "readLine", "(LBothLists$Way;)Z"⟩
abbrev cX6_takeAct : ByteArray := prog_8_method_18_code
def yX6_takeAct : MethodName := ⟨RX6, "takeAct", "()Z"⟩
abbrev cX6_takeBag : ByteArray := prog_8_method_19_code
def yX6_takeBag : MethodName := ⟨RX6, "takeBag", "(LBothLists$Way;I)Z"⟩
abbrev cX6_readWord : ByteArray := prog_8_method_20_code
def yX6_readWord : MethodName := ⟨RX6, "readWord", "()Z"⟩
abbrev cX6_readNewcomer : ByteArray := prog_8_method_21_code
def yX6_readNewcomer : MethodName := ⟨RX6, "readNewcomer", "()Z"⟩
def RX7 : String := "BothLists$Speller"
def TX7 : u_T := fun k => match k with
  | 0 => ("BothLists$Speller", "image", "[I", true)
  | 1 => ("BothLists$Speller", "isTold", "[Z", true)
  | 2 => ("BothLists$Speller", "doubles", "Z", false)
  | 3 => ("BothLists$Speller", "first", "I", false)
  | _ => ("BothLists$Speller", "clauses", "I", false)
def tyX7 : Nat → FieldType := fun k => match k with
  | 0 => .array .int
  | 1 => .array .boolean
  | 2 => .boolean
  | 3 => .int
  | _ => .int
theorem nmX7 : ∀ a, a < 5 → ∀ b, b < 5 → a ≠ b → (TX7 a).2.1 ≠ (TX7 b).2.1 := by decide +kernel
theorem tyX7_ok : ∀ k, k < 5 → parseFieldDescriptor (TX7 k).2.2.1 = some (tyX7 k) := by decide +kernel
abbrev cX7_init : ByteArray := prog_9_method_1_code
def yX7_init : MethodName := ⟨RX7, "<init>", "()V"⟩
abbrev cX7_clear : ByteArray := prog_9_method_2_code
def yX7_clear : MethodName := ⟨RX7, "clear", "()V"⟩
abbrev cX7_has : ByteArray := prog_9_method_3_code
def yX7_has : MethodName := ⟨RX7, "has", "(I)Z"⟩
abbrev cX7_tell : ByteArray := prog_9_method_4_code
def yX7_tell : MethodName := ⟨RX7, "tell", "(II)V"⟩
abbrev cX7_keyOf : ByteArray := prog_9_method_5_code
def yX7_keyOf : MethodName := ⟨RX7, "keyOf", "(J)J"⟩
def RX8 : String := "BothLists$Tape"
def TX8 : u_T := fun k => match k with
  | 0 => ("BothLists$Tape", "bytes", "[B", true)
  | 1 => ("BothLists$Tape", "length", "I", false)
  | 2 => ("BothLists$Tape", "next", "I", false)
  | 3 => ("BothLists$Tape", "kind", "I", false)
  | 4 => ("BothLists$Tape", "place", "I", false)
  | 5 => ("BothLists$Tape", "signs", "I", false)
  | 6 => ("BothLists$Tape", "word", "J", false)
  | _ => ("BothLists$Tape", "value", "I", false)
def tyX8 : Nat → FieldType := fun k => match k with
  | 0 => .array .byte
  | 1 => .int
  | 2 => .int
  | 3 => .int
  | 4 => .int
  | 5 => .int
  | 6 => .long
  | _ => .int
theorem nmX8 : ∀ a, a < 8 → ∀ b, b < 8 → a ≠ b → (TX8 a).2.1 ≠ (TX8 b).2.1 := by decide +kernel
theorem tyX8_ok : ∀ k, k < 8 → parseFieldDescriptor (TX8 k).2.2.1 = some (tyX8 k) := by decide +kernel
abbrev cX8_init : ByteArray := prog_10_method_1_code
def yX8_init : MethodName := ⟨RX8, "<init>", "()V"⟩
abbrev cX8_put : ByteArray := prog_10_method_2_code
def yX8_put : MethodName := ⟨RX8, "put", "(I)V"⟩
abbrev cX8_rewind : ByteArray := prog_10_method_3_code
def yX8_rewind : MethodName := ⟨RX8, "rewind", "()V"⟩
abbrev cX8_step : ByteArray := prog_10_method_4_code
def yX8_step : MethodName := ⟨RX8, "step", "()V"⟩
abbrev cX8_takeWord : ByteArray := prog_10_method_5_code
def yX8_takeWord : MethodName := ⟨RX8, "takeWord", "()V"⟩
abbrev cX8_takeNumber : ByteArray := prog_10_method_6_code
def yX8_takeNumber : MethodName := ⟨RX8, "takeNumber", "()V"⟩
abbrev cX8_says : ByteArray := prog_10_method_7_code
def yX8_says : MethodName := ⟨RX8, "says", "(Ljava/lang/String;)Z"⟩
abbrev cX8_oneLetter : ByteArray := prog_10_method_8_code
def yX8_oneLetter : MethodName := ⟨RX8, "oneLetter", "()I"⟩
abbrev cX8_isBlank : ByteArray := prog_10_method_9_code
def yX8_isBlank : MethodName := ⟨RX8, "isBlank", "(B)Z"⟩
abbrev cX8_isSmall : ByteArray := prog_10_method_10_code
def yX8_isSmall : MethodName := ⟨RX8, "isSmall", "(B)Z"⟩
abbrev cX8_isDigit : ByteArray := prog_10_method_11_code
def yX8_isDigit : MethodName := ⟨RX8, "isDigit", "(B)Z"⟩
def RX9 : String := "BothLists$Turning"
def TX9 : u_T := fun k => match k with
  | 0 => ("BothLists$Turning", "answers", "[I", true)
  | 1 => ("BothLists$Turning", "hasAnswers", "Z", false)
  | 2 => ("BothLists$Turning", "kind", "I", false)
  | 3 => ("BothLists$Turning", "k", "I", false)
  | _ => ("BothLists$Turning", "p", "I", false)
def tyX9 : Nat → FieldType := fun k => match k with
  | 0 => .array .int
  | 1 => .boolean
  | 2 => .int
  | 3 => .int
  | _ => .int
theorem nmX9 : ∀ a, a < 5 → ∀ b, b < 5 → a ≠ b → (TX9 a).2.1 ≠ (TX9 b).2.1 := by decide +kernel
theorem tyX9_ok : ∀ k, k < 5 → parseFieldDescriptor (TX9 k).2.2.1 = some (tyX9 k) := by decide +kernel
abbrev cX9_init : ByteArray := prog_11_method_1_code
def yX9_init : MethodName := ⟨RX9, "<init>", "()V"⟩
abbrev cX9_allows : ByteArray := prog_11_method_2_code
def yX9_allows : MethodName := ⟨RX9, "allows", "(III)Z"⟩
abbrev cX9_become : ByteArray := prog_11_method_3_code
def yX9_become : MethodName := ⟨RX9, "become", "(III)V"⟩
abbrev cX9_apply : ByteArray := prog_11_method_4_code
def yX9_apply : MethodName := ⟨RX9, "apply", "(I)I"⟩
abbrev cX9_undo : ByteArray := prog_11_method_5_code
def yX9_undo : MethodName := ⟨RX9, "undo", "(I)I"⟩
abbrev cX9_plus : ByteArray := prog_11_method_6_code
def yX9_plus : MethodName := ⟨RX9, "plus", "(II)I"⟩
abbrev cX9_fixedNumbers : ByteArray := prog_11_method_7_code
def yX9_fixedNumbers : MethodName := ⟨RX9, "fixedNumbers", "()I"⟩
abbrev cX9_lastToLookAt : ByteArray := prog_11_method_8_code
def yX9_lastToLookAt : MethodName := ⟨RX9, "lastToLookAt", "(LBothLists$Turning;LBothLists$Turning;)I"⟩
def RX10 : String := "BothLists$Way"
def TX10 : u_T := fun k => match k with
  | 0 => ("BothLists$Way", "who", "[I", true)
  | 1 => ("BothLists$Way", "act", "[I", true)
  | 2 => ("BothLists$Way", "bag", "[I", true)
  | 3 => ("BothLists$Way", "more", "[I", true)
  | 4 => ("BothLists$Way", "has", "[Z", true)
  | 5 => ("BothLists$Way", "isCounted", "[Z", true)
  | _ => ("BothLists$Way", "lines", "I", false)
def tyX10 : Nat → FieldType := fun k => match k with
  | 0 => .array .int
  | 1 => .array .int
  | 2 => .array .int
  | 3 => .array .int
  | 4 => .array .boolean
  | 5 => .array .boolean
  | _ => .int
theorem nmX10 : ∀ a, a < 7 → ∀ b, b < 7 → a ≠ b → (TX10 a).2.1 ≠ (TX10 b).2.1 := by decide +kernel
theorem tyX10_ok : ∀ k, k < 7 → parseFieldDescriptor (TX10 k).2.2.1 = some (tyX10 k) := by decide +kernel
abbrev cX10_init : ByteArray := prog_12_method_1_code
def yX10_init : MethodName := ⟨RX10, "<init>", "()V"⟩
abbrev cX10_clear : ByteArray := prog_12_method_2_code
def yX10_clear : MethodName := ⟨RX10, "clear", "()V"⟩
abbrev cX10_placeOf : ByteArray := prog_12_method_3_code
def yX10_placeOf : MethodName := ⟨RX10, "placeOf", "(II)I"⟩
abbrev cX10_faultOf : ByteArray := prog_12_method_4_code
def yX10_faultOf : MethodName := ⟨RX10, "faultOf", "(III)I"⟩
abbrev cX10_onlyTells : ByteArray := prog_12_method_5_code
def yX10_onlyTells : MethodName := ⟨RX10, "onlyTells", "(I)Z"⟩
abbrev cX10_linesToLastSentBy : ByteArray := prog_12_method_6_code
def yX10_linesToLastSentBy : MethodName := ⟨RX10, "linesToLastSentBy", "(I)I"⟩
abbrev cX10_add : ByteArray := prog_12_method_7_code
def yX10_add : MethodName := ⟨RX10, "add", "(IIII)V"⟩
def RX11 : String := "BothLists"
def TX11 : u_T := fun k => match k with
  | 0 => ("BothLists", "tape", "LBothLists$Tape;", true)
  | 1 => ("BothLists", "reader", "LBothLists$Reader;", true)
  | 2 => ("BothLists", "speller", "LBothLists$Speller;", false)
  | 3 => ("BothLists", "spareSpeller", "LBothLists$Speller;", false)
  | 4 => ("BothLists", "names", "[LBothLists$Names;", true)
  | 5 => ("BothLists", "way", "LBothLists$Way;", false)
  | 6 => ("BothLists", "spareWay", "LBothLists$Way;", false)
  | 7 => ("BothLists", "p", "I", false)
  | 8 => ("BothLists", "turnings", "[LBothLists$Turning;", true)
  | 9 => ("BothLists", "seeds", "[I", true)
  | 10 => ("BothLists", "numbers", "[I", true)
  | 11 => ("BothLists", "done", "LBothLists$Play;", true)
  | 12 => ("BothLists", "agreements", "[LBothLists$Agreement;", true)
  | 13 => ("BothLists", "ran", "Z", false)
  | 14 => ("BothLists", "changes", "I", false)
  | _ => ("BothLists", "latestDay", "I", false)
def tyX11 : Nat → FieldType := fun k => match k with
  | 0 => .object "BothLists$Tape"
  | 1 => .object "BothLists$Reader"
  | 2 => .object "BothLists$Speller"
  | 3 => .object "BothLists$Speller"
  | 4 => .array (.object "BothLists$Names")
  | 5 => .object "BothLists$Way"
  | 6 => .object "BothLists$Way"
  | 7 => .int
  | 8 => .array (.object "BothLists$Turning")
  | 9 => .array .int
  | 10 => .array .int
  | 11 => .object "BothLists$Play"
  | 12 => .array (.object "BothLists$Agreement")
  | 13 => .boolean
  | 14 => .int
  | _ => .int
theorem nmX11 : ∀ a, a < 16 → ∀ b, b < 16 → a ≠ b → (TX11 a).2.1 ≠ (TX11 b).2.1 := by decide +kernel
theorem tyX11_ok : ∀ k, k < 16 → parseFieldDescriptor (TX11 k).2.2.1 = some (tyX11 k) := by decide +kernel
abbrev cX11_init : ByteArray := prog_1_method_1_code
def yX11_init : MethodName := ⟨RX11, "<init>", "()V"⟩
abbrev cX11_feed : ByteArray := prog_1_method_2_code
def yX11_feed : MethodName := ⟨RX11, "feed", "(IIIII)I"⟩
abbrev cX11_end : ByteArray := prog_1_method_3_code
def yX11_end : MethodName := ⟨RX11, "end", "(I)I"⟩
abbrev cX11_spelling : ByteArray := prog_1_method_4_code
def yX11_spelling : MethodName := ⟨RX11, "spelling", "()I"⟩
abbrev cX11_list : ByteArray := prog_1_method_5_code
def yX11_list : MethodName := ⟨RX11, "list", "(I)I"⟩
abbrev cX11_known : ByteArray := prog_1_method_6_code
def yX11_known : MethodName := ⟨RX11, "known", "()I"⟩
abbrev cX11_way : ByteArray := prog_1_method_7_code
def yX11_way : MethodName := ⟨RX11, "way", "()I"⟩
abbrev cX11_fault : ByteArray := prog_1_method_8_code
def yX11_fault : MethodName := ⟨RX11, "fault", "(I)I"⟩
abbrev cX11_key : ByteArray := prog_1_method_9_code
def yX11_key : MethodName := ⟨RX11, "key", "(I)I"⟩
abbrev cX11_prime : ByteArray := prog_1_method_10_code
def yX11_prime : MethodName := ⟨RX11, "prime", "(I)I"⟩
abbrev cX11_number : ByteArray := prog_1_method_11_code
def yX11_number : MethodName := ⟨RX11, "number", "(II)I"⟩
abbrev cX11_turning : ByteArray := prog_1_method_12_code
def yX11_turning : MethodName := ⟨RX11, "turning", "(III)I"⟩
abbrev cX11_turned : ByteArray := prog_1_method_13_code
def yX11_turned : MethodName := ⟨RX11, "turned", "(IIZ)I"⟩
abbrev cX11_fixed : ByteArray := prog_1_method_14_code
def yX11_fixed : MethodName := ⟨RX11, "fixed", "(I)I"⟩
abbrev cX11_unlike : ByteArray := prog_1_method_15_code
def yX11_unlike : MethodName := ⟨RX11, "unlike", "()I"⟩
abbrev cX11_seed : ByteArray := prog_1_method_16_code
def yX11_seed : MethodName := ⟨RX11, "seed", "(II)I"⟩
abbrev cX11_run : ByteArray := prog_1_method_17_code
def yX11_run : MethodName := ⟨RX11, "run", "()I"⟩
abbrev cX11_out : ByteArray := prog_1_method_18_code
def yX11_out : MethodName := ⟨RX11, "out", "(II)I"⟩
abbrev cX11_saw : ByteArray := prog_1_method_19_code
def yX11_saw : MethodName := ⟨RX11, "saw", "(II)I"⟩
abbrev cX11_cost : ByteArray := prog_1_method_20_code
def yX11_cost : MethodName := ⟨RX11, "cost", "(I)I"⟩
abbrev cX11_agree : ByteArray := prog_1_method_21_code
def yX11_agree : MethodName := ⟨RX11, "agree", "(II)I"⟩
abbrev cX11_surely : ByteArray := prog_1_method_22_code
def yX11_surely : MethodName := ⟨RX11, "surely", "(II)I"⟩
abbrev cX11_read : ByteArray := prog_1_method_23_code
def yX11_read : MethodName := ⟨RX11, "read", "(I)I"⟩
abbrev cX11_thrown : ByteArray := prog_1_method_24_code
def yX11_thrown : MethodName := ⟨RX11, "thrown", "(III)J"⟩
abbrev cX11_strangers : ByteArray := prog_1_method_25_code
def yX11_strangers : MethodName := ⟨RX11, "strangers", "(III)I"⟩
abbrev cX11_cheapest : ByteArray := prog_1_method_26_code
def yX11_cheapest : MethodName := ⟨RX11, "cheapest", "(II)I"⟩
abbrev cX11_near : ByteArray := prog_1_method_27_code
def yX11_near : MethodName := ⟨RX11, "near", "()I"⟩
abbrev cX11_comes : ByteArray := prog_1_method_28_code
def yX11_comes : MethodName := ⟨RX11, "comes", "(II)I"⟩
abbrev cX11_goes : ByteArray := prog_1_method_29_code
def yX11_goes : MethodName := ⟨RX11, "goes", "(II)I"⟩
abbrev cX11_both : ByteArray := prog_1_method_30_code
def yX11_both : MethodName := ⟨RX11, "both", "(I)I"⟩
abbrev cX11_size : ByteArray := prog_1_method_31_code
def yX11_size : MethodName := ⟨RX11, "size", "(III)I"⟩
abbrev cX11_caught : ByteArray := prog_1_method_32_code
def yX11_caught : MethodName := ⟨RX11, "caught", "(IIII)J"⟩
abbrev cX11_opened : ByteArray := prog_1_method_33_code
def yX11_opened : MethodName := ⟨RX11, "opened", "(IIII)I"⟩
abbrev cX11_count : ByteArray := prog_1_method_34_code
def yX11_count : MethodName := ⟨RX11, "count", "(I)I"⟩
abbrev cX11_isSide : ByteArray := prog_1_method_35_code
def yX11_isSide : MethodName := ⟨RX11, "isSide", "(I)Z"⟩
abbrev cX11_isDay : ByteArray := prog_1_method_36_code
def yX11_isDay : MethodName := ⟨RX11, "isDay", "(I)Z"⟩
abbrev cX11_isNextDay : ByteArray := prog_1_method_37_code
def yX11_isNextDay : MethodName := ⟨RX11, "isNextDay", "(I)Z"⟩
abbrev cX11_isRow : ByteArray := prog_1_method_38_code
def yX11_isRow : MethodName := ⟨RX11, "isRow", "(II)Z"⟩
abbrev cX11_isLot : ByteArray := prog_1_method_39_code
def yX11_isLot : MethodName := ⟨RX11, "isLot", "(II)Z"⟩
abbrev cX11_letterAt : ByteArray := prog_1_method_40_code
def yX11_letterAt : MethodName := ⟨RX11, "letterAt", "(JI)I"⟩
abbrev cX11_lettersOf : ByteArray := prog_1_method_41_code
def yX11_lettersOf : MethodName := ⟨RX11, "lettersOf", "(J)I"⟩
abbrev cX11_numberOf : ByteArray := prog_1_method_42_code
def yX11_numberOf : MethodName := ⟨RX11, "numberOf", "(JI)I"⟩
abbrev cX11_takeSpare : ByteArray := prog_1_method_43_code
def yX11_takeSpare : MethodName := ⟨RX11, "takeSpare", "(I)V"⟩
abbrev cX11_forgetChanges : ByteArray := prog_1_method_44_code
def yX11_forgetChanges : MethodName := ⟨RX11, "forgetChanges", "()V"⟩
abbrev cX11_countChange : ByteArray := prog_1_method_45_code
def yX11_countChange : MethodName := ⟨RX11, "countChange", "(I)I"⟩
abbrev cX11_forgetAgreements : ByteArray := prog_1_method_46_code
def yX11_forgetAgreements : MethodName := ⟨RX11, "forgetAgreements", "()V"⟩
abbrev cX11_isReadable : ByteArray := prog_1_method_47_code
def yX11_isReadable : MethodName := ⟨RX11, "isReadable", "(II)Z"⟩
abbrev cX11_bitsOf : ByteArray := prog_1_method_48_code
def yX11_bitsOf : MethodName := ⟨RX11, "bitsOf", "(III)J"⟩
abbrev cX11_numbersOf : ByteArray := prog_1_method_49_code
def yX11_numbersOf : MethodName := ⟨RX11, "numbersOf", "(I)I"⟩
abbrev cX11_rowOf : ByteArray := prog_1_method_50_code
def yX11_rowOf : MethodName := ⟨RX11, "rowOf", "(III)J"⟩
abbrev cX11_seemingIn : ByteArray := prog_1_method_51_code
def yX11_seemingIn : MethodName := ⟨RX11, "seemingIn", "(JII)I"⟩
abbrev cX11_differentNumbers : ByteArray := prog_1_method_52_code
def yX11_differentNumbers : MethodName := ⟨RX11, "differentNumbers", "(I)I"⟩
def RX12 : String := "BothListsModel"
def TX12 : u_T := fun k => match k with
  | 0 => ("BothListsModel", "tape", "[B", true)
  | 1 => ("BothListsModel", "taped", "I", false)
  | 2 => ("BothListsModel", "size", "I", false)
  | 3 => ("BothListsModel", "sort", "I", false)
  | 4 => ("BothListsModel", "key", "I", false)
  | 5 => ("BothListsModel", "at", "I", false)
  | 6 => ("BothListsModel", "end", "I", false)
  | 7 => ("BothListsModel", "number", "I", false)
  | 8 => ("BothListsModel", "faultKind", "I", false)
  | 9 => ("BothListsModel", "faultPlace", "I", false)
  | 10 => ("BothListsModel", "word", "J", false)
  | 11 => ("BothListsModel", "clauses", "I", false)
  | 12 => ("BothListsModel", "stands", "[I", true)
  | 13 => ("BothListsModel", "doubles", "[Z", true)
  | 14 => ("BothListsModel", "firsts", "[I", true)
  | 15 => ("BothListsModel", "usedLetters", "I", false)
  | 16 => ("BothListsModel", "usedWords", "I", false)
  | 17 => ("BothListsModel", "many", "[I", true)
  | 18 => ("BothListsModel", "words", "[J", true)
  | 19 => ("BothListsModel", "keys", "[J", true)
  | 20 => ("BothListsModel", "dowries", "[I", true)
  | 21 => ("BothListsModel", "prime", "I", false)
  | 22 => ("BothListsModel", "turnKind", "[I", true)
  | 23 => ("BothListsModel", "turnKey", "[I", true)
  | 24 => ("BothListsModel", "seeds", "[J", true)
  | 25 => ("BothListsModel", "lineMany", "[I", true)
  | 26 => ("BothListsModel", "lineSide", "[I", true)
  | 27 => ("BothListsModel", "lineAct", "[I", true)
  | 28 => ("BothListsModel", "lineBag", "[I", true)
  | 29 => ("BothListsModel", "lineOther", "[I", true)
  | 30 => ("BothListsModel", "lineNumber", "[I", true)
  | 31 => ("BothListsModel", "isThere", "[Z", true)
  | 32 => ("BothListsModel", "isCounted", "[Z", true)
  | 33 => ("BothListsModel", "rMany", "[I", true)
  | 34 => ("BothListsModel", "rNumber", "[I", true)
  | 35 => ("BothListsModel", "rDowry", "[I", true)
  | 36 => ("BothListsModel", "rKey", "[I", true)
  | 37 => ("BothListsModel", "rSeed", "[J", true)
  | 38 => ("BothListsModel", "bag", "[I", true)
  | 39 => ("BothListsModel", "bagMany", "[I", true)
  | 40 => ("BothListsModel", "bagOf", "[I", true)
  | 41 => ("BothListsModel", "bagMixed", "[Z", true)
  | 42 => ("BothListsModel", "bagCounted", "[Z", true)
  | 43 => ("BothListsModel", "outKind", "[I", true)
  | 44 => ("BothListsModel", "outNumber", "[I", true)
  | 45 => ("BothListsModel", "outPlaces", "[J", true)
  | 46 => ("BothListsModel", "saw", "[I", true)
  | 47 => ("BothListsModel", "sawMany", "[I", true)
  | 48 => ("BothListsModel", "turns", "I", false)
  | 49 => ("BothListsModel", "bytes", "I", false)
  | 50 => ("BothListsModel", "hasRun", "Z", false)
  | 51 => ("BothListsModel", "toldKind", "[I", true)
  | 52 => ("BothListsModel", "toldNumber", "[I", true)
  | 53 => ("BothListsModel", "toldPlaces", "[J", true)
  | 54 => ("BothListsModel", "toldMany", "[I", true)
  | 55 => ("BothListsModel", "toldSaw", "[I", true)
  | 56 => ("BothListsModel", "toldMany2", "[I", true)
  | 57 => ("BothListsModel", "toldTurns", "I", false)
  | 58 => ("BothListsModel", "toldBytes", "I", false)
  | 59 => ("BothListsModel", "agreeing", "[I", true)
  | 60 => ("BothListsModel", "changes", "I", false)
  | 61 => ("BothListsModel", "lastDay", "I", false)
  | 62 => ("BothListsModel", "chSide", "[I", true)
  | 63 => ("BothListsModel", "chDay", "[I", true)
  | 64 => ("BothListsModel", "chKey", "[J", true)
  | 65 => ("BothListsModel", "chDowry", "[I", true)
  | 66 => ("BothListsModel", "chComes", "[Z", true)
  | 67 => ("BothListsModel", "asMany", "I", false)
  | 68 => ("BothListsModel", "asKey", "[J", true)
  | 69 => ("BothListsModel", "asDowry", "[I", true)
  | 70 => ("BothListsModel", "firstKeys", "[J", true)
  | 71 => ("BothListsModel", "upper", "J", false)
  | _ => ("BothListsModel", "lower", "J", false)
def tyX12 : Nat → FieldType := fun k => match k with
  | 0 => .array .byte
  | 1 => .int
  | 2 => .int
  | 3 => .int
  | 4 => .int
  | 5 => .int
  | 6 => .int
  | 7 => .int
  | 8 => .int
  | 9 => .int
  | 10 => .long
  | 11 => .int
  | 12 => .array .int
  | 13 => .array .boolean
  | 14 => .array .int
  | 15 => .int
  | 16 => .int
  | 17 => .array .int
  | 18 => .array .long
  | 19 => .array .long
  | 20 => .array .int
  | 21 => .int
  | 22 => .array .int
  | 23 => .array .int
  | 24 => .array .long
  | 25 => .array .int
  | 26 => .array .int
  | 27 => .array .int
  | 28 => .array .int
  | 29 => .array .int
  | 30 => .array .int
  | 31 => .array .boolean
  | 32 => .array .boolean
  | 33 => .array .int
  | 34 => .array .int
  | 35 => .array .int
  | 36 => .array .int
  | 37 => .array .long
  | 38 => .array .int
  | 39 => .array .int
  | 40 => .array .int
  | 41 => .array .boolean
  | 42 => .array .boolean
  | 43 => .array .int
  | 44 => .array .int
  | 45 => .array .long
  | 46 => .array .int
  | 47 => .array .int
  | 48 => .int
  | 49 => .int
  | 50 => .boolean
  | 51 => .array .int
  | 52 => .array .int
  | 53 => .array .long
  | 54 => .array .int
  | 55 => .array .int
  | 56 => .array .int
  | 57 => .int
  | 58 => .int
  | 59 => .array .int
  | 60 => .int
  | 61 => .int
  | 62 => .array .int
  | 63 => .array .int
  | 64 => .array .long
  | 65 => .array .int
  | 66 => .array .boolean
  | 67 => .int
  | 68 => .array .long
  | 69 => .array .int
  | 70 => .array .long
  | 71 => .long
  | _ => .long
theorem nmX12 : ∀ a, a < 73 → ∀ b, b < 73 → a ≠ b → (TX12 a).2.1 ≠ (TX12 b).2.1 := by decide +kernel
theorem tyX12_ok : ∀ k, k < 73 → parseFieldDescriptor (TX12 k).2.2.1 = some (tyX12 k) := by decide +kernel
abbrev cX12_init : ByteArray := prog_14_method_1_code
def yX12_init : MethodName := ⟨RX12, "<init>", "()V"⟩
abbrev cX12_in : ByteArray := prog_14_method_2_code
def yX12_in : MethodName := ⟨RX12, "in", "(JJJ)Z"⟩
abbrev cX12_feed : ByteArray := prog_14_method_3_code
def yX12_feed : MethodName := ⟨RX12, "feed", "(IIIII)I"⟩
abbrev cX12_end : ByteArray := prog_14_method_4_code
def yX12_end : MethodName := ⟨RX12, "end", "(I)I"⟩
abbrev cX12_see : ByteArray := prog_14_method_5_code
def yX12_see : MethodName := ⟨RX12, "see", "(I)I"⟩
abbrev cX12_isSmall : ByteArray := prog_14_method_6_code
def yX12_isSmall : MethodName := ⟨RX12, "isSmall", "(I)Z"⟩
abbrev cX12_isDigit : ByteArray := prog_14_method_7_code
def yX12_isDigit : MethodName := ⟨RX12, "isDigit", "(I)Z"⟩
abbrev cX12_keyAt : ByteArray := prog_14_method_8_code
def yX12_keyAt : MethodName := ⟨RX12, "keyAt", "(II)I"⟩
abbrev cX12_scan : ByteArray := prog_14_method_9_code
def yX12_scan : MethodName := ⟨RX12, "scan", "()V"⟩
abbrev cX12_take : ByteArray := prog_14_method_10_code
def yX12_take : MethodName := ⟨RX12, "take", "()V"⟩
abbrev cX12_fresh : ByteArray := prog_14_method_11_code
def yX12_fresh : MethodName := ⟨RX12, "fresh", "()V"⟩
abbrev cX12_fails : ByteArray := prog_14_method_12_code
def yX12_fails : MethodName := ⟨RX12, "fails", "(I)Z"⟩
abbrev cX12_readSemi : ByteArray := prog_14_method_13_code
def yX12_readSemi : MethodName := ⟨RX12, "readSemi", "()Z"⟩
abbrev cX12_letter : ByteArray := prog_14_method_14_code
def yX12_letter : MethodName := ⟨RX12, "letter", "()I"⟩
abbrev cX12_fault : ByteArray := prog_14_method_15_code
def yX12_fault : MethodName := ⟨RX12, "fault", "(I)I"⟩
abbrev cX12_plain : ByteArray := prog_14_method_16_code
def yX12_plain : MethodName := ⟨RX12, "plain", "()V"⟩
abbrev cX12_readLetters : ByteArray := prog_14_method_17_code
def yX12_readLetters : MethodName := ⟨RX12, "readLetters", "(Z)Z"⟩
abbrev cX12_readClause : ByteArray := prog_14_method_18_code
def yX12_readClause : MethodName := ⟨RX12, "readClause", "()Z"⟩
abbrev cX12_spelling : ByteArray := prog_14_method_19_code
def yX12_spelling : MethodName := ⟨RX12, "spelling", "()I"⟩
abbrev cX12_keyOf : ByteArray := prog_14_method_20_code
def yX12_keyOf : MethodName := ⟨RX12, "keyOf", "(J)J"⟩
abbrev cX12_lengthOf : ByteArray := prog_14_method_21_code
def yX12_lengthOf : MethodName := ⟨RX12, "lengthOf", "(J)I"⟩
abbrev cX12_isName : ByteArray := prog_14_method_22_code
def yX12_isName : MethodName := ⟨RX12, "isName", "(IJ)Z"⟩
abbrev cX12_readList : ByteArray := prog_14_method_23_code
def yX12_readList : MethodName := ⟨RX12, "readList", "(Z)Z"⟩
abbrev cX12_settle : ByteArray := prog_14_method_24_code
def yX12_settle : MethodName := ⟨RX12, "settle", "(I)I"⟩
abbrev cX12_isSide : ByteArray := prog_14_method_25_code
def yX12_isSide : MethodName := ⟨RX12, "isSide", "(I)Z"⟩
abbrev cX12_list : ByteArray := prog_14_method_26_code
def yX12_list : MethodName := ⟨RX12, "list", "(I)I"⟩
abbrev cX12_known : ByteArray := prog_14_method_27_code
def yX12_known : MethodName := ⟨RX12, "known", "()I"⟩
abbrev cX12_key : ByteArray := prog_14_method_28_code
def yX12_key : MethodName := ⟨RX12, "key", "(I)I"⟩
abbrev cX12_numberOf : ByteArray := prog_14_method_29_code
def yX12_numberOf : MethodName := ⟨RX12, "numberOf", "(J)I"⟩
abbrev cX12_isPrime : ByteArray := prog_14_method_30_code
def yX12_isPrime : MethodName := ⟨RX12, "isPrime", "(I)Z"⟩
abbrev cX12_prime : ByteArray := prog_14_method_31_code
def yX12_prime : MethodName := ⟨RX12, "prime", "(I)I"⟩
abbrev cX12_number : ByteArray := prog_14_method_32_code
def yX12_number : MethodName := ⟨RX12, "number", "(II)I"⟩
abbrev cX12_common : ByteArray := prog_14_method_33_code
def yX12_common : MethodName := ⟨RX12, "common", "(JJ)J"⟩
abbrev cX12_mayTurn : ByteArray := prog_14_method_34_code
def yX12_mayTurn : MethodName := ⟨RX12, "mayTurn", "(II)Z"⟩
abbrev cX12_turning : ByteArray := prog_14_method_35_code
def yX12_turning : MethodName := ⟨RX12, "turning", "(III)I"⟩
abbrev cX12_power : ByteArray := prog_14_method_36_code
def yX12_power : MethodName := ⟨RX12, "power", "(JJ)J"⟩
abbrev cX12_turn : ByteArray := prog_14_method_37_code
def yX12_turn : MethodName := ⟨RX12, "turn", "(III)I"⟩
abbrev cX12_undoing : ByteArray := prog_14_method_38_code
def yX12_undoing : MethodName := ⟨RX12, "undoing", "(JJ)J"⟩
abbrev cX12_turned : ByteArray := prog_14_method_39_code
def yX12_turned : MethodName := ⟨RX12, "turned", "(IIZ)I"⟩
abbrev cX12_fixed : ByteArray := prog_14_method_40_code
def yX12_fixed : MethodName := ⟨RX12, "fixed", "(I)I"⟩
abbrev cX12_unlike : ByteArray := prog_14_method_41_code
def yX12_unlike : MethodName := ⟨RX12, "unlike", "()I"⟩
abbrev cX12_seed : ByteArray := prog_14_method_42_code
def yX12_seed : MethodName := ⟨RX12, "seed", "(II)I"⟩
abbrev cX12_readBag : ByteArray := prog_14_method_43_code
def yX12_readBag : MethodName := ⟨RX12, "readBag", "(II)I"⟩
abbrev cX12_readLine : ByteArray := prog_14_method_44_code
def yX12_readLine : MethodName := ⟨RX12, "readLine", "()Z"⟩
abbrev cX12_way : ByteArray := prog_14_method_45_code
def yX12_way : MethodName := ⟨RX12, "way", "()I"⟩
abbrev cX12_mix : ByteArray := prog_14_method_46_code
def yX12_mix : MethodName := ⟨RX12, "mix", "(I)V"⟩
abbrev cX12_tell : ByteArray := prog_14_method_47_code
def yX12_tell : MethodName := ⟨RX12, "tell", "(II)V"⟩
abbrev cX12_sends : ByteArray := prog_14_method_48_code
def yX12_sends : MethodName := ⟨RX12, "sends", "(III)V"⟩
abbrev cX12_isInBag : ByteArray := prog_14_method_49_code
def yX12_isInBag : MethodName := ⟨RX12, "isInBag", "(II)Z"⟩
abbrev cX12_meets : ByteArray := prog_14_method_50_code
def yX12_meets : MethodName := ⟨RX12, "meets", "(IIIZ)V"⟩
abbrev cX12_runs : ByteArray := prog_14_method_51_code
def yX12_runs : MethodName := ⟨RX12, "runs", "()V"⟩
abbrev cX12_asTold : ByteArray := prog_14_method_52_code
def yX12_asTold : MethodName := ⟨RX12, "asTold", "(I)V"⟩
abbrev cX12_run : ByteArray := prog_14_method_53_code
def yX12_run : MethodName := ⟨RX12, "run", "()I"⟩
abbrev cX12_out : ByteArray := prog_14_method_54_code
def yX12_out : MethodName := ⟨RX12, "out", "(II)I"⟩
abbrev cX12_saw : ByteArray := prog_14_method_55_code
def yX12_saw : MethodName := ⟨RX12, "saw", "(II)I"⟩
abbrev cX12_cost : ByteArray := prog_14_method_56_code
def yX12_cost : MethodName := ⟨RX12, "cost", "(I)I"⟩
abbrev cX12_isAsSeen : ByteArray := prog_14_method_57_code
def yX12_isAsSeen : MethodName := ⟨RX12, "isAsSeen", "(I)Z"⟩
abbrev cX12_makeAgreeing : ByteArray := prog_14_method_58_code
def yX12_makeAgreeing : MethodName := ⟨RX12, "makeAgreeing", "(I)V"⟩
abbrev cX12_agree : ByteArray := prog_14_method_59_code
def yX12_agree : MethodName := ⟨RX12, "agree", "(II)I"⟩
abbrev cX12_surely : ByteArray := prog_14_method_60_code
def yX12_surely : MethodName := ⟨RX12, "surely", "(II)I"⟩
abbrev cX12_wasSent : ByteArray := prog_14_method_61_code
def yX12_wasSent : MethodName := ⟨RX12, "wasSent", "(II)Z"⟩
abbrev cX12_read : ByteArray := prog_14_method_62_code
def yX12_read : MethodName := ⟨RX12, "read", "(I)I"⟩
abbrev cX12_isRow : ByteArray := prog_14_method_63_code
def yX12_isRow : MethodName := ⟨RX12, "isRow", "(II)Z"⟩
abbrev cX12_bit : ByteArray := prog_14_method_64_code
def yX12_bit : MethodName := ⟨RX12, "bit", "(JII)I"⟩
abbrev cX12_rowOf : ByteArray := prog_14_method_65_code
def yX12_rowOf : MethodName := ⟨RX12, "rowOf", "(III)J"⟩
abbrev cX12_thrown : ByteArray := prog_14_method_66_code
def yX12_thrown : MethodName := ⟨RX12, "thrown", "(III)J"⟩
abbrev cX12_hasNumber : ByteArray := prog_14_method_67_code
def yX12_hasNumber : MethodName := ⟨RX12, "hasNumber", "(II)Z"⟩
abbrev cX12_strangersOf : ByteArray := prog_14_method_68_code
def yX12_strangersOf : MethodName := ⟨RX12, "strangersOf", "(III)I"⟩
abbrev cX12_strangers : ByteArray := prog_14_method_69_code
def yX12_strangers : MethodName := ⟨RX12, "strangers", "(III)I"⟩
abbrev cX12_cheapest : ByteArray := prog_14_method_70_code
def yX12_cheapest : MethodName := ⟨RX12, "cheapest", "(II)I"⟩
abbrev cX12_near : ByteArray := prog_14_method_71_code
def yX12_near : MethodName := ⟨RX12, "near", "()I"⟩
abbrev cX12_placeOf : ByteArray := prog_14_method_72_code
def yX12_placeOf : MethodName := ⟨RX12, "placeOf", "(J)I"⟩
abbrev cX12_asOf : ByteArray := prog_14_method_73_code
def yX12_asOf : MethodName := ⟨RX12, "asOf", "(II)V"⟩
abbrev cX12_change : ByteArray := prog_14_method_74_code
def yX12_change : MethodName := ⟨RX12, "change", "(IIJIZ)I"⟩
abbrev cX12_comes : ByteArray := prog_14_method_75_code
def yX12_comes : MethodName := ⟨RX12, "comes", "(II)I"⟩
abbrev cX12_goes : ByteArray := prog_14_method_76_code
def yX12_goes : MethodName := ⟨RX12, "goes", "(II)I"⟩
abbrev cX12_both : ByteArray := prog_14_method_77_code
def yX12_both : MethodName := ⟨RX12, "both", "(I)I"⟩
abbrev cX12_size : ByteArray := prog_14_method_78_code
def yX12_size : MethodName := ⟨RX12, "size", "(III)I"⟩
abbrev cX12_choices : ByteArray := prog_14_method_79_code
def yX12_choices : MethodName := ⟨RX12, "choices", "(II)J"⟩
abbrev cX12_odds : ByteArray := prog_14_method_80_code
def yX12_odds : MethodName := ⟨RX12, "odds", "(III)V"⟩
abbrev cX12_isCase : ByteArray := prog_14_method_81_code
def yX12_isCase : MethodName := ⟨RX12, "isCase", "(II)Z"⟩
abbrev cX12_caught : ByteArray := prog_14_method_82_code
def yX12_caught : MethodName := ⟨RX12, "caught", "(IIII)J"⟩
abbrev cX12_opened : ByteArray := prog_14_method_83_code
def yX12_opened : MethodName := ⟨RX12, "opened", "(IIII)I"⟩
abbrev cX12_count : ByteArray := prog_14_method_84_code
def yX12_count : MethodName := ⟨RX12, "count", "(I)I"⟩
def RJ9 : String := "java/lang/Math"
abbrev cJ9_floorMod_f86c9 : ByteArray := prog_15_method_52_code
def yJ9_floorMod_f86c9 : MethodName := ⟨RJ9, "floorMod", "(JJ)J"⟩
def RJ0 : String := "java/lang/String"
abbrev cJ0_length_8abf5 : ByteArray := prog_16_method_54_code
def yJ0_length_8abf5 : MethodName := ⟨RJ0, "length", "()I"⟩
abbrev cJ0_charAt_5068e : ByteArray := prog_16_method_56_code
def yJ0_charAt_5068e : MethodName := ⟨RJ0, "charAt", "(I)C"⟩
abbrev cJ0_coder_7d493 : ByteArray := prog_16_method_152_code
def yJ0_coder_7d493 : MethodName := ⟨RJ0, "coder", "()B"⟩
abbrev cJ0_isLatin1_aae02 : ByteArray := prog_16_method_154_code
def yJ0_isLatin1_aae02 : MethodName := ⟨RJ0, "isLatin1", "()Z"⟩
abbrev cJ0_checkIndex_df160 : ByteArray := prog_16_method_155_code
def yJ0_checkIndex_df160 : MethodName := ⟨RJ0, "checkIndex", "(II)V"⟩
def RJ1 : String := "java/lang/StringLatin1"
abbrev cJ1_charAt_3b067 : ByteArray := prog_17_method_2_code
def yJ1_charAt_3b067 : MethodName := ⟨RJ1, "charAt", "([BI)C"⟩
def RJ2 : String := "java/lang/StringUTF16"
abbrev cJ2_getChar_3b067 : ByteArray := prog_18_method_5_code
def yJ2_getChar_3b067 : MethodName := ⟨RJ2, "getChar", "([BI)C"⟩
abbrev cJ2_length_9d52b : ByteArray := prog_18_method_6_code
def yJ2_length_9d52b : MethodName := ⟨RJ2, "length", "([B)I"⟩
abbrev cJ2_charAt_3b067 : ByteArray := prog_18_method_83_code
def yJ2_charAt_3b067 : MethodName := ⟨RJ2, "charAt", "([BI)C"⟩
abbrev cJ2_checkIndex_2214a : ByteArray := prog_18_method_91_code
def yJ2_checkIndex_2214a : MethodName := ⟨RJ2, "checkIndex", "(I[B)V"⟩
def RJ3 : String := "jdk/internal/util/Preconditions"
abbrev cJ3_checkIndex_8e157 : ByteArray := prog_19_method_11_code
def yJ3_checkIndex_8e157 : MethodName := ⟨RJ3, "checkIndex", "(IILjava/util/function/BiFunction;)I"⟩
end
section
/-! THE CHECKER, 1: symbolic whole numbers. A value is (tag, symbol, offset): tag 0 int, 1 long, 2 reference, 3 null; a valuation gives each symbol a whole number; symbol 0 is 0. -/
abbrev zV : Type := Nat × Nat × Int
/-- what is known of the numbers: intervals (x, lo, hi); differences (x, y, c): x ≤ y + c; answers of lcmp (r, v, w); x ≠ c -/
abbrev zP : Type := List (Nat × Int × Int) × List (Nat × Nat × Int) × List (Nat × zV × zV) × List (Nat × Int)
def zk_n (r : Nat → Int) (v : zV) : Int := r v.2.1 + v.2.2
def zk_k (t : Nat) (z : Int) : Value := match t with
  | 0 => .int (Int32.ofInt z)
  | 1 => .long (Int64.ofInt z)
  | 2 => .ref z.toNat
  | _ => .null
def zk_c (r : Nat → Int) (v : zV) : Value := zk_k v.1 (zk_n r v)
def zk_sg (a b c : Int) : Prop := (a < 0 ↔ b < c) ∧ (a = 0 ↔ b = c) ∧ (0 < a ↔ c < b)
def zk_P (r : Nat → Int) (P : zP) : Prop := (∀ q ∈ P.1, q.2.1 ≤ r q.1 ∧ r q.1 ≤ q.2.2) ∧ (∀ q ∈ P.2.1, r q.1 ≤ r q.2.1 + q.2.2) ∧ (∀ q ∈ P.2.2.1, zk_sg (r q.1) (zk_n r q.2.1) (zk_n r q.2.2)) ∧ (∀ q ∈ P.2.2.2, r q.1 ≠ q.2)
def zk_iv : List (Nat × Int × Int) → Nat → Option (Int × Int)
  | [], _ => none
  | q :: l, x => if q.1 = x then some q.2 else zk_iv l x
theorem zk_iv_mem : ∀ {l : List (Nat × Int × Int)} {x : Nat} {q : Int × Int}, zk_iv l x = some q → (x, q) ∈ l
  | [], _, _, h => by simp [zk_iv] at h
  | y :: l, x, q, h => by
    unfold zk_iv at h
    split at h
    · rename_i h1
      cases h
      rw [← h1]
      exact List.mem_cons_self
    · exact List.mem_cons_of_mem _ (zk_iv_mem h)
/-- the bounds of a value -/
def zk_r (P : zP) (v : zV) : Option (Int × Int) := match zk_iv P.1 v.2.1 with
  | none => none
  | some q => some (q.1 + v.2.2, q.2 + v.2.2)
theorem zk_r_ok {r : Nat → Int} {P : zP} (h : zk_P r P) {v : zV} {q : Int × Int} (hq : zk_r P v = some q) : q.1 ≤ zk_n r v ∧ zk_n r v ≤ q.2 := by
  unfold zk_r at hq
  split at hq
  · cases hq
  · rename_i q1 h1
    have h2 := h.1 _ (zk_iv_mem h1)
    cases hq
    unfold zk_n
    dsimp only at h2 ⊢
    omega
def zk_set : List (Nat × Int × Int) → Nat → Int → Int → List (Nat × Int × Int)
  | [], x, lo, hi => [(x, lo, hi)]
  | q :: l, x, lo, hi => if q.1 = x then (x, lo, hi) :: l else q :: zk_set l x lo hi
theorem zk_set_ok {r : Nat → Int} {x : Nat} {lo hi : Int} (h2 : lo ≤ r x ∧ r x ≤ hi) : ∀ {l : List (Nat × Int × Int)}, (∀ q ∈ l, q.2.1 ≤ r q.1 ∧ r q.1 ≤ q.2.2) → ∀ q ∈ zk_set l x lo hi, q.2.1 ≤ r q.1 ∧ r q.1 ≤ q.2.2
  | [], _, q, hq => by
    simp only [zk_set, List.mem_singleton] at hq
    subst hq
    exact h2
  | y :: l, h, q, hq => by
    unfold zk_set at hq
    split at hq
    · rcases List.mem_cons.mp hq with rfl | hq
      · exact h2
      · exact h q (List.mem_cons_of_mem _ hq)
    · rcases List.mem_cons.mp hq with rfl | hq
      · exact h _ List.mem_cons_self
      · exact zk_set_ok h2 (fun z hz => h z (List.mem_cons_of_mem _ hz)) q hq
/-- known: v ≤ w + c -/
def zk_leb (P : zP) (v w : zV) (c : Int) : Bool :=
  (v.2.1 = w.2.1 && decide (v.2.2 ≤ w.2.2 + c)) || (match zk_r P v, zk_r P w with
    | some a, some b => decide (a.2 ≤ b.1 + c)
    | _, _ => false) || P.2.1.any (fun q => q.1 = v.2.1 && q.2.1 = w.2.1 && decide (q.2.2 + v.2.2 ≤ w.2.2 + c))
theorem zk_leb_ok {r : Nat → Int} {P : zP} (h : zk_P r P) {v w : zV} {c : Int} (hb : zk_leb P v w c = true) : zk_n r v ≤ zk_n r w + c := by
  unfold zk_leb at hb
  simp only [Bool.or_eq_true, Bool.and_eq_true, decide_eq_true_eq, List.any_eq_true] at hb
  rcases hb with (⟨h1, h2⟩ | hb) | ⟨q, hq, ⟨h1, h2⟩, h3⟩
  · unfold zk_n; rw [h1]; omega
  · split at hb
    · rename_i a b ha hb2
      have h1 := zk_r_ok h ha
      have h2 := zk_r_ok h hb2
      simp only [decide_eq_true_eq] at hb
      omega
    · cases hb
  · have h4 := h.2.1 q hq
    rw [h1, h2] at h4
    unfold zk_n
    omega
/-- taken: v ≤ w + c. none: that can't be -/
def zk_le (P : zP) (v w : zV) (c : Int) : Option zP :=
  if v.2.1 = w.2.1 then (if v.2.2 ≤ w.2.2 + c then some P else none) else
  match zk_r P v, zk_r P w with
  | some a, some b => if zk_leb P w v (-c - 1) then none else
      some (if b.1 < a.1 - c then zk_set (if b.2 + c < a.2 then zk_set P.1 v.2.1 (a.1 - v.2.2) (b.2 + c - v.2.2) else P.1) w.2.1 (a.1 - c - w.2.2) (b.2 - w.2.2) else (if b.2 + c < a.2 then zk_set P.1 v.2.1 (a.1 - v.2.2) (b.2 + c - v.2.2) else P.1), if v.2.1 = 0 ∨ w.2.1 = 0 then P.2.1 else (v.2.1, w.2.1, w.2.2 + c - v.2.2) :: P.2.1, P.2.2)
  | _, _ => some P
theorem zk_le_ok {r : Nat → Int} {P : zP} (h : zk_P r P) {v w : zV} {c : Int} (hv : zk_n r v ≤ zk_n r w + c) : ∃ P', zk_le P v w c = some P' ∧ zk_P r P' := by
  unfold zk_le
  split
  · rename_i e
    rw [if_pos (by unfold zk_n at hv; rw [e] at hv; omega)]
    exact ⟨P, rfl, h⟩
  split
  · rename_i a b ha hb
    have h1 := zk_r_ok h ha
    have h2 := zk_r_ok h hb
    rw [if_neg (fun z => by
      have := zk_leb_ok h z
      omega)]
    refine ⟨_, rfl, ?_, ?_, h.2.2⟩
    · have s1 : ∀ q ∈ (if b.2 + c < a.2 then zk_set P.1 v.2.1 (a.1 - v.2.2) (b.2 + c - v.2.2) else P.1), q.2.1 ≤ r q.1 ∧ r q.1 ≤ q.2.2 := by
        split
        · exact zk_set_ok (by unfold zk_n at *; omega) h.1
        · exact h.1
      dsimp only
      split
      · refine zk_set_ok ?_ s1
        unfold zk_n at *
        omega
      · exact s1
    · intro q hq
      dsimp only at hq
      split at hq
      · exact h.2.1 q hq
      · rcases List.mem_cons.mp hq with rfl | hq
        · unfold zk_n at hv
          dsimp only
          omega
        · exact h.2.1 q hq
  · exact ⟨P, rfl, h⟩
/-- taken: v ≠ w -/
def zk_ne (P : zP) (v w : zV) : Option zP :=
  if v.2.1 = w.2.1 then (if v.2.2 = w.2.2 then none else some P) else
  match zk_r P v, zk_r P w with
  | some a, some b =>
    if b.1 = b.2 then
      (if a.1 = b.1 then (if a.2 = b.1 then none else some (zk_set P.1 v.2.1 (a.1 + 1 - v.2.2) (a.2 - v.2.2), P.2))
      else if a.2 = b.1 then some (zk_set P.1 v.2.1 (a.1 - v.2.2) (a.2 - 1 - v.2.2), P.2)
      else some (P.1, P.2.1, P.2.2.1, (v.2.1, b.1 - v.2.2) :: P.2.2.2))
    else if a.1 = a.2 then
      (if b.1 = a.1 then some (zk_set P.1 w.2.1 (b.1 + 1 - w.2.2) (b.2 - w.2.2), P.2)
      else if b.2 = a.1 then some (zk_set P.1 w.2.1 (b.1 - w.2.2) (b.2 - 1 - w.2.2), P.2)
      else some (P.1, P.2.1, P.2.2.1, (w.2.1, a.1 - w.2.2) :: P.2.2.2))
    else if zk_leb P v w 0 && zk_leb P w v 0 then none else some P
  | _, _ => some P
theorem zk_ne_ok {r : Nat → Int} {P : zP} (h : zk_P r P) {v w : zV} (hv : zk_n r v ≠ zk_n r w) : ∃ P', zk_ne P v w = some P' ∧ zk_P r P' := by
  unfold zk_ne
  split
  · rename_i e1
    split
    · rename_i e2
      exact absurd (by unfold zk_n; rw [e1, e2]) hv
    · exact ⟨_, rfl, h⟩
  split
  · rename_i a b ha hb
    have h1 := zk_r_ok h ha
    have h2 := zk_r_ok h hb
    split
    · split
      · split
        · exact absurd (by omega) hv
        · exact ⟨_, rfl, zk_set_ok (by unfold zk_n at *; omega) h.1, h.2⟩
      · split
        · exact ⟨_, rfl, zk_set_ok (by unfold zk_n at *; omega) h.1, h.2⟩
        · refine ⟨_, rfl, h.1, h.2.1, h.2.2.1, fun q hq => ?_⟩
          rcases List.mem_cons.mp hq with rfl | hq
          · unfold zk_n at *
            dsimp only
            omega
          · exact h.2.2.2 q hq
    · split
      · split
        · exact ⟨_, rfl, zk_set_ok (by unfold zk_n at *; omega) h.1, h.2⟩
        · split
          · exact ⟨_, rfl, zk_set_ok (by unfold zk_n at *; omega) h.1, h.2⟩
          · refine ⟨_, rfl, h.1, h.2.1, h.2.2.1, fun q hq => ?_⟩
            rcases List.mem_cons.mp hq with rfl | hq
            · unfold zk_n at *
              dsimp only
              omega
            · exact h.2.2.2 q hq
      · split
        · rename_i e
          simp only [Bool.and_eq_true] at e
          have k1 := zk_leb_ok h e.1
          have k2 := zk_leb_ok h e.2
          exact absurd (by omega) hv
        · exact ⟨_, rfl, h⟩
  · exact ⟨_, rfl, h⟩
/-- taken: v = w -/
def zk_eq (P : zP) (v w : zV) : Option zP := match zk_le P v w 0 with
  | none => none
  | some P1 => zk_le P1 w v 0
theorem zk_eq_ok {r : Nat → Int} {P : zP} (h : zk_P r P) {v w : zV} (hv : zk_n r v = zk_n r w) : ∃ P', zk_eq P v w = some P' ∧ zk_P r P' := by
  unfold zk_eq
  obtain ⟨P1, e1, h1⟩ := zk_le_ok h (v := v) (w := w) (c := 0) (by omega)
  rw [e1]
  exact zk_le_ok h1 (by omega)
/-- known: v ≠ 0 -/
def zk_nz (P : zP) (v : zV) : Bool := (match zk_r P v with
    | some a => decide (0 < a.1) || decide (a.2 < 0)
    | none => false) || P.2.2.2.any (fun q => q.1 = v.2.1 && decide (q.2 + v.2.2 = 0))
theorem zk_nz_ok {r : Nat → Int} {P : zP} (h : zk_P r P) {v : zV} (hb : zk_nz P v = true) : zk_n r v ≠ 0 := by
  unfold zk_nz at hb
  simp only [Bool.or_eq_true, Bool.and_eq_true, decide_eq_true_eq, List.any_eq_true] at hb
  rcases hb with hb | ⟨q, hq, h1, h2⟩
  · split at hb
    · rename_i a ha
      have h1 := zk_r_ok h ha
      simp only [Bool.or_eq_true, decide_eq_true_eq] at hb
      omega
    · cases hb
  · have h3 := h.2.2.2 q hq
    rw [h1] at h3
    unfold zk_n
    omega
/-- known: v lies in an interval -/
def zk_inb (P : zP) (v : zV) (lo hi : Int) : Bool := match zk_r P v with
  | some a => decide (lo ≤ a.1) && decide (a.2 ≤ hi)
  | none => false
theorem zk_inb_ok {r : Nat → Int} {P : zP} (h : zk_P r P) {v : zV} {lo hi : Int} (hb : zk_inb P v lo hi = true) : lo ≤ zk_n r v ∧ zk_n r v ≤ hi := by
  unfold zk_inb at hb
  split at hb
  · rename_i a ha
    have h1 := zk_r_ok h ha
    simp only [Bool.and_eq_true, decide_eq_true_eq] at hb
    omega
  · cases hb
theorem zk_i32 {a : Int} (h1 : -2147483648 ≤ a) (h2 : a ≤ 2147483647) : (Int32.ofInt a).toInt = a := Int32.toInt_ofInt_of_le (by omega) (by omega)
theorem zk_i64 {a : Int} (h1 : -9223372036854775808 ≤ a) (h2 : a ≤ 9223372036854775807) : (Int64.ofInt a).toInt = a := Int64.toInt_ofInt_of_le (by omega) (by omega)
theorem zk_b32 (x : Int32) : -2147483648 ≤ x.toInt ∧ x.toInt ≤ 2147483647 := by
  have h1 := x.minValue_le_toInt
  have h2 := x.toInt_le
  have e1 : Int32.minValue.toInt = -2147483648 := by decide
  have e2 : Int32.maxValue.toInt = 2147483647 := by decide
  omega
theorem zk_b64 (x : Int64) : -9223372036854775808 ≤ x.toInt ∧ x.toInt ≤ 9223372036854775807 := by
  have h1 := x.minValue_le_toInt
  have h2 := x.toInt_le
  have e1 : Int64.minValue.toInt = -9223372036854775808 := by decide
  have e2 : Int64.maxValue.toInt = 9223372036854775807 := by decide
  omega
end
section
/-! THE CHECKER, 2: arithmetic. A new symbol n is above all that are known. -/
def zk_u (r : Nat → Int) (n : Nat) (z : Int) : Nat → Int := fun x => if x = n then z else r x
theorem zk_u_n {r : Nat → Int} {n : Nat} {z : Int} : zk_u r n z n = z := by simp [zk_u]
theorem zk_u_ne {r : Nat → Int} {n x : Nat} {z : Int} (h : x < n) : zk_u r n z x = r x := by
  unfold zk_u; rw [if_neg (by omega)]
/-- all symbols are below n -/
def zk_fP (n : Nat) (P : zP) : Bool := P.1.all (fun q => Nat.blt q.1 n) && P.2.1.all (fun q => Nat.blt q.1 n && Nat.blt q.2.1 n) && P.2.2.1.all (fun q => Nat.blt q.1 n && (Nat.blt q.2.1.2.1 n && Nat.blt q.2.2.2.1 n)) && P.2.2.2.all (fun q => Nat.blt q.1 n)
theorem zk_blt {a b : Nat} (h : Nat.blt a b = true) : a < b := Nat.blt_eq.mp h
theorem zk_P_new {r r' : Nat → Int} {n : Nat} {P : zP} (hf : zk_fP n P = true) (he : ∀ x, x < n → r' x = r x) (h : zk_P r P) : zk_P r' P := by
  simp only [zk_fP, Bool.and_eq_true, List.all_eq_true] at hf
  obtain ⟨⟨⟨f1, f2⟩, f3⟩, f4⟩ := hf
  refine ⟨fun q hq => ?_, fun q hq => ?_, fun q hq => ?_, fun q hq => ?_⟩
  · rw [he _ (zk_blt (f1 q hq))]; exact h.1 q hq
  · rw [he _ (zk_blt (f2 q hq).1), he _ (zk_blt (f2 q hq).2)]; exact h.2.1 q hq
  · have h3 := h.2.2.1 q hq
    unfold zk_n at h3 ⊢
    rw [he _ (zk_blt (f3 q hq).1), he _ (zk_blt (f3 q hq).2.1), he _ (zk_blt (f3 q hq).2.2)]
    exact h3
  · rw [he _ (zk_blt (f4 q hq))]; exact h.2.2.2 q hq
def zk_nw (t n : Nat) (lo hi : Int) (ds : List (Nat × Nat × Int)) (P : zP) : zV × zP := ((t, n, 0), ((n, lo, hi) :: P.1, ds ++ P.2.1, P.2.2))
theorem zk_fresh {r : Nat → Int} {n : Nat} {P : zP} (hf : zk_fP n P = true) (h : zk_P r P) {z lo hi : Int} (hz : lo ≤ z ∧ z ≤ hi) {ds : List (Nat × Nat × Int)} (hd : ∀ q ∈ ds, zk_u r n z q.1 ≤ zk_u r n z q.2.1 + q.2.2) (t : Nat) : zk_P (zk_u r n z) (zk_nw t n lo hi ds P).2 := by
  have h1 := zk_P_new (r' := zk_u r n z) hf (fun x hx => zk_u_ne hx) h
  refine ⟨fun q hq => ?_, fun q hq => ?_, h1.2.2⟩
  · rcases List.mem_cons.mp hq with rfl | hq
    · rw [zk_u_n]; exact hz
    · exact h1.1 q hq
  · rcases List.mem_append.mp hq with hq | hq
    · exact hd q hq
    · exact h1.2.1 q hq
theorem zk_n_new {r : Nat → Int} {n : Nat} {v : zV} {z : Int} (hv : v.2.1 < n) : zk_n (zk_u r n z) v = zk_n r v := by
  unfold zk_n; rw [zk_u_ne hv]
theorem zk_n_n {r : Nat → Int} {t n : Nat} {z : Int} : zk_n (zk_u r n z) (t, n, 0) = z := by
  unfold zk_n; dsimp only; rw [zk_u_n]; omega
/-- what an operation of two numbers does on the machine: int 0 .. 10, long 20 .. 30 -/
def zk_f (o : Nat) (x y : Value) : Option Value := match x, y with
  | .int a, .int b => (match o with
    | 0 => some (.int (a + b)) | 1 => some (.int (a - b)) | 2 => some (.int (a * b)) | 3 => some (.int (a / b)) | 4 => some (.int (a - a / b * b))
    | 5 => some (.int (a &&& b)) | 6 => some (.int (a ||| b)) | 7 => some (.int (a ^^^ b)) | 8 => some (.int (a <<< (b &&& 31))) | 9 => some (.int (a >>> (b &&& 31)))
    | 10 => some (.int (a.toUInt32 >>> (b.toUInt32 &&& Int32.toUInt32 31)).toInt32) | _ => none)
  | .long a, .long b => (match o with
    | 20 => some (.long (a + b)) | 21 => some (.long (a - b)) | 22 => some (.long (a * b)) | 23 => some (.long (a / b)) | 24 => some (.long (a - a / b * b))
    | 25 => some (.long (a &&& b)) | 26 => some (.long (a ||| b)) | 27 => some (.long (a ^^^ b)) | _ => none)
  | .long a, .int b => (match o with
    | 28 => some (.long (a <<< (b.toInt64 &&& 63))) | 29 => some (.long (a >>> (b.toInt64 &&& 63)))
    | 30 => some (.long (a.toUInt64 >>> (b.toInt64.toUInt64 &&& Int64.toUInt64 63)).toInt64) | _ => none)
  | _, _ => none
/-- bounds of the answer, where they hold for all whole numbers within the operands' bounds; the second: what differences hold -/
def zk_add (t n : Nat) (lo hi : Int) (P : zP) (v w : zV) : zV × zP :=
  if w.2.1 = 0 then ((t, v.2.1, v.2.2 + w.2.2), P) else if v.2.1 = 0 then ((t, w.2.1, v.2.2 + w.2.2), P) else
  match zk_r P v, zk_r P w with
  | some a, some b => if lo ≤ a.1 + b.1 ∧ a.2 + b.2 ≤ hi then zk_nw t n (a.1 + b.1) (a.2 + b.2) [(n, v.2.1, v.2.2 + b.2), (v.2.1, n, -(v.2.2 + b.1)), (n, w.2.1, w.2.2 + a.2), (w.2.1, n, -(w.2.2 + a.1))] P else zk_nw t n lo hi [] P
  | _, _ => zk_nw t n lo hi [] P
/-- the least known c with x ≤ y + c, or d -/
def zk_ub (x y : Nat) : List (Nat × Nat × Int) → Int → Int
  | [], d => d
  | q :: l, d => zk_ub x y l (if q.1 = x ∧ q.2.1 = y ∧ q.2.2 < d then q.2.2 else d)
theorem zk_ub_ok {r : Nat → Int} {x y : Nat} : ∀ {l : List (Nat × Nat × Int)} {d : Int}, (∀ q ∈ l, r q.1 ≤ r q.2.1 + q.2.2) → r x ≤ r y + d → r x ≤ r y + zk_ub x y l d
  | [], _, _, h => h
  | q :: l, d, hl, h => by
    unfold zk_ub
    refine zk_ub_ok (fun q' hq => hl q' (List.mem_cons_of_mem _ hq)) ?_
    split
    · rename_i hc
      have := hl q List.mem_cons_self
      rw [hc.1, hc.2.1] at this
      exact this
    · exact h
def zk_sub (t n : Nat) (lo hi : Int) (P : zP) (v w : zV) : zV × zP :=
  if w.2.1 = 0 then ((t, v.2.1, v.2.2 - w.2.2), P) else if v.2.1 = w.2.1 then ((t, 0, v.2.2 - w.2.2), P) else
  match zk_r P v, zk_r P w with
  | some a, some b => if lo ≤ a.1 - b.2 ∧ a.2 - b.1 ≤ hi then zk_nw t n (v.2.2 - w.2.2 - zk_ub w.2.1 v.2.1 P.2.1 (v.2.2 - w.2.2 - (a.1 - b.2))) (v.2.2 - w.2.2 + zk_ub v.2.1 w.2.1 P.2.1 (a.2 - b.1 - (v.2.2 - w.2.2))) [(n, v.2.1, v.2.2 - b.1), (v.2.1, n, b.2 - v.2.2)] P else zk_nw t n lo hi [] P
  | _, _ => zk_nw t n lo hi [] P
def zk_mul (t n : Nat) (lo hi : Int) (P : zP) (v w : zV) : zV × zP :=
  if v.2.1 = 0 ∧ w.2.1 = 0 then ((t, 0, v.2.2 * w.2.2), P) else
  match zk_r P v, zk_r P w with
  | some a, some b => if 0 ≤ a.1 ∧ 0 ≤ b.1 ∧ a.2 * b.2 ≤ hi then zk_nw t n (a.1 * b.1) (a.2 * b.2) [] P else zk_nw t n lo hi [] P
  | _, _ => zk_nw t n lo hi [] P
def zk_div (t n : Nat) (lo hi : Int) (P : zP) (v w : zV) : zV × zP :=
  match zk_r P v, zk_r P w with
  | some a, some b => if 0 ≤ a.1 ∧ 1 ≤ b.1 ∧ a.2 ≤ hi ∧ b.2 ≤ hi then zk_nw t n (a.1 / b.2) (a.2 / b.1) (if 1 ≤ a.1 ∧ 2 ≤ b.1 then [(n, v.2.1, v.2.2 - 1)] else [(n, v.2.1, v.2.2)]) P else zk_nw t n lo hi [] P
  | _, _ => zk_nw t n lo hi [] P
def zk_rem (t n : Nat) (lo hi : Int) (P : zP) (v w : zV) : zV × zP :=
  match zk_r P v, zk_r P w with
  | some a, some b => if 0 ≤ a.1 ∧ 1 ≤ b.1 ∧ a.2 ≤ hi ∧ b.2 ≤ hi then zk_nw t n 0 (min a.2 (b.2 - 1)) [(n, w.2.1, w.2.2 - 1), (n, v.2.1, v.2.2)] P else zk_nw t n lo hi [] P
  | _, _ => zk_nw t n lo hi [] P
def zk_and (t n : Nat) (lo hi : Int) (P : zP) (v w : zV) : zV × zP :=
  match zk_r P w with
  | some b => if 0 ≤ b.1 ∧ b.2 ≤ hi then zk_nw t n 0 b.2 [] P else zk_nw t n lo hi [] P
  | _ => zk_nw t n lo hi [] P
def zk_shr (t n : Nat) (lo hi : Int) (sh : Int) (P : zP) (v w : zV) : zV × zP :=
  match zk_r P v with
  | some a => if w.2.1 = 0 ∧ 0 ≤ w.2.2 ∧ w.2.2 < sh ∧ 0 ≤ a.1 ∧ a.2 ≤ hi then zk_nw t n 0 (a.2 / 2 ^ w.2.2.toNat) (if 1 ≤ a.1 ∧ 1 ≤ w.2.2 then [(n, v.2.1, v.2.2 - 1)] else [(n, v.2.1, v.2.2)]) P else zk_nw t n lo hi [] P
  | _ => zk_nw t n lo hi [] P
def zk_shl1 (n : Nat) (P : zP) (v w : zV) : zV × zP :=
  match zk_r P w with
  | some b => if v = (0, 0, 1) ∧ 0 ≤ b.1 ∧ b.2 ≤ 30 then zk_nw 0 n 1 (2 ^ b.2.toNat) [] P else zk_nw 0 n (-2147483648) 2147483647 [] P
  | _ => zk_nw 0 n (-2147483648) 2147483647 [] P
/-- & 255 of a byte is exact -/
def zk_and8 (n : Nat) (P : zP) (v w : zV) : zV × zP :=
  if w = (0, 0, 255) ∧ zk_inb P v 0 127 = true then (v, P) else if w = (0, 0, 255) ∧ zk_inb P v (-128) (-1) = true then ((v.1, v.2.1, v.2.2 + 256), P) else zk_and 0 n (-2147483648) 2147483647 P v w
def zk_bin (o n : Nat) (P : zP) (v w : zV) : zV × zP := match o with
  | 0 => zk_add 0 n (-2147483648) 2147483647 P v w
  | 1 => zk_sub 0 n (-2147483648) 2147483647 P v w
  | 2 => zk_mul 0 n (-2147483648) 2147483647 P v w
  | 3 => zk_div 0 n (-2147483648) 2147483647 P v w
  | 4 => zk_rem 0 n (-2147483648) 2147483647 P v w
  | 5 => zk_and8 n P v w
  | 8 => zk_shl1 n P v w
  | 9 => zk_shr 0 n (-2147483648) 2147483647 32 P v w
  | 20 => zk_add 1 n (-9223372036854775808) 9223372036854775807 P v w
  | 21 => zk_sub 1 n (-9223372036854775808) 9223372036854775807 P v w
  | 22 => zk_mul 1 n (-9223372036854775808) 9223372036854775807 P v w
  | 23 => zk_div 1 n (-9223372036854775808) 9223372036854775807 P v w
  | 24 => zk_rem 1 n (-9223372036854775808) 9223372036854775807 P v w
  | 25 => zk_and 1 n (-9223372036854775808) 9223372036854775807 P v w
  | 29 => zk_shr 1 n (-9223372036854775808) 9223372036854775807 64 P v w
  | o => if o < 20 then zk_nw 0 n (-2147483648) 2147483647 [] P else zk_nw 1 n (-9223372036854775808) 9223372036854775807 [] P
end
section
/-! THE CHECKER, 3: the arithmetic is right. -/
theorem zk_c_new {r : Nat → Int} {n : Nat} {v : zV} {z : Int} (hv : v.2.1 < n) : zk_c (zk_u r n z) v = zk_c r v := by
  unfold zk_c; rw [zk_n_new hv]
theorem zk_c_n {r : Nat → Int} {t n : Nat} {z : Int} : zk_c (zk_u r n z) (t, n, 0) = zk_k t z := by
  unfold zk_c; rw [zk_n_n]
/-- what an operation's row must give -/
def zk_G (r : Nat → Int) (n : Nat) (q : zV × zP) (x : Value) : Prop := ∃ z, zk_P (zk_u r n z) q.2 ∧ zk_c (zk_u r n z) q.1 = x ∧ q.1.2.1 ≤ n
section
variable {r : Nat → Int} {n t : Nat} {P : zP} {v w : zV} {lo hi : Int} {x : Value}
theorem zk_G_top (hf : zk_fP n P = true) (h : zk_P r P) (ht : ∃ z, lo ≤ z ∧ z ≤ hi ∧ zk_k t z = x) : zk_G r n (zk_nw t n lo hi [] P) x := by
  obtain ⟨z, h1, h2, h3⟩ := ht
  exact ⟨z, zk_fresh hf h ⟨h1, h2⟩ (fun q hq => by cases hq) t, by rw [← h3]; exact zk_c_n, Nat.le_refl n⟩
theorem zk_G_nw (hf : zk_fP n P = true) (h : zk_P r P) {a b z : Int} {ds : List (Nat × Nat × Int)} (hx : zk_k t z = x) (hz : a ≤ z ∧ z ≤ b) (hd : ∀ q ∈ ds, zk_u r n z q.1 ≤ zk_u r n z q.2.1 + q.2.2) : zk_G r n (zk_nw t n a b ds P) x :=
  ⟨z, zk_fresh hf h hz hd t, by rw [← hx]; exact zk_c_n, Nat.le_refl n⟩
theorem zk_G_old (hf : zk_fP n P = true) (h : zk_P r P) {v : zV} (hv : v.2.1 < n) (hx : zk_c r v = x) : zk_G r n (v, P) x :=
  ⟨0, zk_P_new hf (fun y hy => zk_u_ne hy) h, by rw [zk_c_new hv]; exact hx, Nat.le_of_lt hv⟩
theorem zk_add_ok (hf : zk_fP n P = true) (h : zk_P r P) (h0 : r 0 = 0) (hv : v.2.1 < n) (hw : w.2.1 < n) (hx : zk_k t (zk_n r v + zk_n r w) = x) (ht : ∃ z, lo ≤ z ∧ z ≤ hi ∧ zk_k t z = x) : zk_G r n (zk_add t n lo hi P v w) x := by
  unfold zk_add
  split
  · rename_i e
    refine zk_G_old hf h hv ?_
    rw [← hx]
    unfold zk_c zk_n
    dsimp only
    rw [e, h0]
    congr 1
    omega
  split
  · rename_i e
    refine zk_G_old hf h hw ?_
    rw [← hx]
    unfold zk_c zk_n
    dsimp only
    rw [e, h0]
    congr 1
    omega
  split
  · rename_i a b ha hb
    split
    · have h1 := zk_r_ok h ha
      have h2 := zk_r_ok h hb
      refine zk_G_nw hf h hx (by omega) ?_
      intro q hq
      simp only [List.mem_cons, List.not_mem_nil, or_false] at hq
      rcases hq with rfl | rfl | rfl | rfl <;> dsimp only <;> simp only [zk_u_n, zk_u_ne hv, zk_u_ne hw] <;> unfold zk_n at * <;> omega
    · exact zk_G_top hf h ht
  · exact zk_G_top hf h ht
theorem zk_sub_ok (hf : zk_fP n P = true) (h : zk_P r P) (h0 : r 0 = 0) (hv : v.2.1 < n) (hw : w.2.1 < n) (hx : zk_k t (zk_n r v - zk_n r w) = x) (ht : ∃ z, lo ≤ z ∧ z ≤ hi ∧ zk_k t z = x) : zk_G r n (zk_sub t n lo hi P v w) x := by
  unfold zk_sub
  split
  · rename_i e
    refine zk_G_old hf h hv ?_
    rw [← hx]
    unfold zk_c zk_n
    dsimp only
    rw [e, h0]
    congr 1
    omega
  split
  · rename_i e
    refine zk_G_old hf h (by dsimp only; omega) ?_
    rw [← hx]
    unfold zk_c zk_n
    dsimp only
    rw [e, h0]
    congr 1
    omega
  split
  · rename_i a b ha hb
    split
    · have h1 := zk_r_ok h ha
      have h2 := zk_r_ok h hb
      have k1 := zk_ub_ok (x := v.2.1) (y := w.2.1) h.2.1 (d := a.2 - b.1 - (v.2.2 - w.2.2)) (by unfold zk_n at h1 h2; omega)
      have k2 := zk_ub_ok (x := w.2.1) (y := v.2.1) h.2.1 (d := v.2.2 - w.2.2 - (a.1 - b.2)) (by unfold zk_n at h1 h2; omega)
      refine zk_G_nw hf h hx (by unfold zk_n; omega) ?_
      intro q hq
      simp only [List.mem_cons, List.not_mem_nil, or_false] at hq
      rcases hq with rfl | rfl <;> dsimp only <;> simp only [zk_u_n, zk_u_ne hv] <;> unfold zk_n at * <;> omega
    · exact zk_G_top hf h ht
  · exact zk_G_top hf h ht
theorem zk_mul_ok (hf : zk_fP n P = true) (h : zk_P r P) (h0 : r 0 = 0) (hn : 0 < n) (hx : zk_k t (zk_n r v * zk_n r w) = x) (ht : ∃ z, lo ≤ z ∧ z ≤ hi ∧ zk_k t z = x) : zk_G r n (zk_mul t n lo hi P v w) x := by
  unfold zk_mul
  split
  · rename_i e
    refine zk_G_old hf h hn ?_
    rw [← hx]
    unfold zk_c zk_n
    dsimp only
    rw [e.1, e.2, h0]
    simp
  split
  · rename_i a b ha hb
    split
    · rename_i hc
      have h1 := zk_r_ok h ha
      have h2 := zk_r_ok h hb
      refine zk_G_nw hf h hx ⟨?_, ?_⟩ (fun q hq => by cases hq)
      · exact Int.mul_le_mul h1.1 h2.1 hc.2.1 (by omega)
      · exact Int.mul_le_mul h1.2 h2.2 (by omega) (by omega)
    · exact zk_G_top hf h ht
  · exact zk_G_top hf h ht
theorem zk_div_ok (hf : zk_fP n P = true) (h : zk_P r P) (hv : v.2.1 < n) (hx : 0 ≤ zk_n r v → 1 ≤ zk_n r w → zk_n r v ≤ hi → zk_n r w ≤ hi → zk_k t (zk_n r v / zk_n r w) = x) (ht : ∃ z, lo ≤ z ∧ z ≤ hi ∧ zk_k t z = x) : zk_G r n (zk_div t n lo hi P v w) x := by
  unfold zk_div
  split
  · rename_i a b ha hb
    split
    · rename_i hc
      have h1 := zk_r_ok h ha
      have h2 := zk_r_ok h hb
      have g1 : 0 ≤ zk_n r v / zk_n r w := Int.ediv_nonneg (by omega) (by omega)
      have g2 : zk_n r v / zk_n r w ≤ zk_n r v := Int.ediv_le_self _ (by omega)
      have g3 : zk_n r v / zk_n r w ≤ a.2 / b.1 := by
        have e1 : zk_n r v / zk_n r w ≤ a.2 / zk_n r w := Int.ediv_le_ediv (by omega) h1.2
        refine Int.le_trans e1 ?_
        refine (Int.le_ediv_iff_mul_le (by omega)).mpr ?_
        have e2 : a.2 / zk_n r w * zk_n r w ≤ a.2 := Int.ediv_mul_le _ (by omega)
        have e3 : 0 ≤ a.2 / zk_n r w := Int.ediv_nonneg (by omega) (by omega)
        exact Int.le_trans (Int.mul_le_mul_of_nonneg_left h2.1 e3) e2
      have g0 : a.1 / b.2 ≤ zk_n r v / zk_n r w := by
        have e1 : a.1 / b.2 ≤ zk_n r v / b.2 := Int.ediv_le_ediv (by omega) h1.1
        refine Int.le_trans e1 ?_
        refine (Int.le_ediv_iff_mul_le (by omega)).mpr ?_
        have e2 : zk_n r v / b.2 * b.2 ≤ zk_n r v := Int.ediv_mul_le _ (by omega)
        have e3 : 0 ≤ zk_n r v / b.2 := Int.ediv_nonneg (by omega) (by omega)
        exact Int.le_trans (Int.mul_le_mul_of_nonneg_left h2.2 e3) e2
      refine zk_G_nw hf h (hx (by omega) (by omega) (by omega) (by omega)) ⟨g0, g3⟩ ?_
      intro q hq
      split at hq
      · rename_i hc2
        simp only [List.mem_cons, List.not_mem_nil, or_false] at hq
        subst hq
        have g4 : zk_n r v / zk_n r w < zk_n r v := by
          refine Int.ediv_lt_of_lt_mul (by omega) ?_
          have : zk_n r v * 2 ≤ zk_n r v * zk_n r w := Int.mul_le_mul_of_nonneg_left (by omega) (by omega)
          omega
        dsimp only
        rw [zk_u_n, zk_u_ne hv]
        have e5 : zk_n r v = r v.2.1 + v.2.2 := rfl
        omega
      · simp only [List.mem_cons, List.not_mem_nil, or_false] at hq
        subst hq
        dsimp only
        rw [zk_u_n, zk_u_ne hv]
        have e5 : zk_n r v = r v.2.1 + v.2.2 := rfl
        omega
    · exact zk_G_top hf h ht
  · exact zk_G_top hf h ht
theorem zk_rem_ok (hf : zk_fP n P = true) (h : zk_P r P) (hv : v.2.1 < n) (hw : w.2.1 < n) (hx : 0 ≤ zk_n r v → 1 ≤ zk_n r w → zk_n r v ≤ hi → zk_n r w ≤ hi → zk_k t (zk_n r v % zk_n r w) = x) (ht : ∃ z, lo ≤ z ∧ z ≤ hi ∧ zk_k t z = x) : zk_G r n (zk_rem t n lo hi P v w) x := by
  unfold zk_rem
  split
  · rename_i a b ha hb
    split
    · rename_i hc
      have h1 := zk_r_ok h ha
      have h2 := zk_r_ok h hb
      have g1 : 0 ≤ zk_n r v % zk_n r w := Int.emod_nonneg _ (by omega)
      have g2 : zk_n r v % zk_n r w < zk_n r w := Int.emod_lt_of_pos _ (by omega)
      have g3 : zk_n r v % zk_n r w ≤ zk_n r v := by
        have e1 := Int.mul_ediv_add_emod (zk_n r v) (zk_n r w)
        have e2 : 0 ≤ zk_n r w * (zk_n r v / zk_n r w) := Int.mul_nonneg (by omega) (Int.ediv_nonneg (by omega) (by omega))
        omega
      refine zk_G_nw hf h (hx (by omega) (by omega) (by omega) (by omega)) ⟨g1, by omega⟩ ?_
      intro q hq
      simp only [List.mem_cons, List.not_mem_nil, or_false] at hq
      have e5 : zk_n r v = r v.2.1 + v.2.2 := rfl
      have e6 : zk_n r w = r w.2.1 + w.2.2 := rfl
      rcases hq with rfl | rfl <;> dsimp only <;> simp only [zk_u_n, zk_u_ne hv, zk_u_ne hw] <;> omega
    · exact zk_G_top hf h ht
  · exact zk_G_top hf h ht
theorem zk_and_ok (hf : zk_fP n P = true) (h : zk_P r P) (hx : 0 ≤ zk_n r w → zk_n r w ≤ hi → ∃ z, 0 ≤ z ∧ z ≤ zk_n r w ∧ zk_k t z = x) (ht : ∃ z, lo ≤ z ∧ z ≤ hi ∧ zk_k t z = x) : zk_G r n (zk_and t n lo hi P v w) x := by
  unfold zk_and
  split
  · rename_i b hb
    split
    · rename_i hc
      have h2 := zk_r_ok h hb
      obtain ⟨z, z1, z2, z3⟩ := hx (by omega) (by omega)
      exact zk_G_nw hf h z3 (by omega) (fun q hq => by cases hq)
    · exact zk_G_top hf h ht
  · exact zk_G_top hf h ht
theorem zk_shr_ok {sh : Int} (hf : zk_fP n P = true) (h : zk_P r P) (h0 : r 0 = 0) (hv : v.2.1 < n) (hx : 0 ≤ zk_n r v → zk_n r v ≤ hi → 0 ≤ zk_n r w → zk_n r w < sh → zk_k t (zk_n r v / 2 ^ (zk_n r w).toNat) = x) (ht : ∃ z, lo ≤ z ∧ z ≤ hi ∧ zk_k t z = x) : zk_G r n (zk_shr t n lo hi sh P v w) x := by
  unfold zk_shr
  split
  · rename_i a ha
    split
    · rename_i hc
      have h1 := zk_r_ok h ha
      have ew : zk_n r w = w.2.2 := by unfold zk_n; rw [hc.1, h0]; omega
      rw [ew] at hx
      have hp : (0 : Int) < 2 ^ w.2.2.toNat := Int.pow_pos (by decide)
      have g1 : 0 ≤ zk_n r v / 2 ^ w.2.2.toNat := Int.ediv_nonneg (by omega) (by omega)
      have g2 : zk_n r v / 2 ^ w.2.2.toNat ≤ zk_n r v := Int.ediv_le_self _ (by omega)
      have g3 : zk_n r v / 2 ^ w.2.2.toNat ≤ a.2 / 2 ^ w.2.2.toNat := Int.ediv_le_ediv hp h1.2
      have e5 : zk_n r v = r v.2.1 + v.2.2 := rfl
      refine zk_G_nw hf h (hx (by omega) (by omega) (by omega) (by omega)) ⟨g1, g3⟩ ?_
      intro q hq
      split at hq
      · rename_i hc2
        simp only [List.mem_cons, List.not_mem_nil, or_false] at hq
        subst hq
        have g4 : zk_n r v / 2 ^ w.2.2.toNat < zk_n r v := by
          refine Int.ediv_lt_of_lt_mul hp ?_
          obtain ⟨k, hk⟩ : ∃ k, w.2.2.toNat = k + 1 := ⟨w.2.2.toNat - 1, by omega⟩
          have h8 : (1 : Int) ≤ 2 ^ k := by have : (0 : Int) < 2 ^ k := Int.pow_pos (by decide); omega
          have h9 : (2 : Int) ≤ 2 ^ w.2.2.toNat := by rw [hk, Int.pow_succ]; omega
          have : zk_n r v * 2 ≤ zk_n r v * 2 ^ w.2.2.toNat := Int.mul_le_mul_of_nonneg_left h9 (by omega)
          omega
        dsimp only
        rw [zk_u_n, zk_u_ne hv]
        omega
      · simp only [List.mem_cons, List.not_mem_nil, or_false] at hq
        subst hq
        dsimp only
        rw [zk_u_n, zk_u_ne hv]
        omega
    · exact zk_G_top hf h ht
  · exact zk_G_top hf h ht
end
end
section
/-! THE CHECKER, 4: every operation of two numbers. -/
theorem zk_m32div {a b : Int} (h1 : 0 ≤ a) (h2 : 1 ≤ b) (h3 : a ≤ 2147483647) (h4 : b ≤ 2147483647) : Int32.ofInt a / Int32.ofInt b = Int32.ofInt (a / b) := by
  apply Int32.toInt_inj.mp
  have e1 : a / b ≤ a := Int.ediv_le_self _ h1
  have e2 : 0 ≤ a / b := Int.ediv_nonneg h1 (by omega)
  rw [Int32.toInt_div, zk_i32 (by omega) h3, zk_i32 (by omega) h4, zk_i32 (by omega) (by omega), Int.tdiv_eq_ediv_of_nonneg h1]
  rw [Int.bmod_eq_of_le (by omega) (by omega)]
theorem zk_m64div {a b : Int} (h1 : 0 ≤ a) (h2 : 1 ≤ b) (h3 : a ≤ 9223372036854775807) (h4 : b ≤ 9223372036854775807) : Int64.ofInt a / Int64.ofInt b = Int64.ofInt (a / b) := by
  apply Int64.toInt_inj.mp
  have e1 : a / b ≤ a := Int.ediv_le_self _ h1
  have e2 : 0 ≤ a / b := Int.ediv_nonneg h1 (by omega)
  rw [Int64.toInt_div, zk_i64 (by omega) h3, zk_i64 (by omega) h4, zk_i64 (by omega) (by omega), Int.tdiv_eq_ediv_of_nonneg h1]
  rw [Int.bmod_eq_of_le (by omega) (by omega)]
theorem zk_m32rem {a b : Int} (h1 : 0 ≤ a) (h2 : 1 ≤ b) (h3 : a ≤ 2147483647) (h4 : b ≤ 2147483647) : Int32.ofInt a - Int32.ofInt a / Int32.ofInt b * Int32.ofInt b = Int32.ofInt (a % b) := by
  rw [zk_m32div h1 h2 h3 h4, ← Int32.ofInt_mul, ← Int32.ofInt_sub]
  congr 1
  have := Int.mul_ediv_add_emod a b
  rw [Int.mul_comm] at this
  omega
theorem zk_m64rem {a b : Int} (h1 : 0 ≤ a) (h2 : 1 ≤ b) (h3 : a ≤ 9223372036854775807) (h4 : b ≤ 9223372036854775807) : Int64.ofInt a - Int64.ofInt a / Int64.ofInt b * Int64.ofInt b = Int64.ofInt (a % b) := by
  rw [zk_m64div h1 h2 h3 h4, ← Int64.ofInt_mul, ← Int64.ofInt_sub]
  congr 1
  have := Int.mul_ediv_add_emod a b
  rw [Int.mul_comm] at this
  omega
theorem zk_bvand {w : Nat} (x y : BitVec w) (hw : 0 < w) (hy : 0 ≤ y.toInt) : 0 ≤ (x &&& y).toInt ∧ (x &&& y).toInt ≤ y.toInt := by
  have h1 : (x &&& y).toNat ≤ y.toNat := by rw [BitVec.toNat_and]; exact Nat.and_le_right
  have h2 : 2 * y.toNat < 2 ^ w := by
    rw [BitVec.toInt_eq_toNat_cond] at hy
    split at hy
    · assumption
    · have := y.isLt
      omega
  have e1 : y.toInt = y.toNat := by rw [BitVec.toInt_eq_toNat_cond, if_pos h2]
  have e2 : (x &&& y).toInt = (x &&& y).toNat := by rw [BitVec.toInt_eq_toNat_cond, if_pos (by omega)]
  rw [e1, e2]
  omega
theorem zk_s32 : ∀ j : Fin 32, ((Int32.ofInt (j.val : Int) &&& 31).toBitVec.smod 32).toNat = j.val := by decide +kernel
theorem zk_s64 : ∀ j : Fin 64, (((Int32.ofInt (j.val : Int)).toInt64 &&& 63).toBitVec.smod 64).toNat = j.val := by decide +kernel
theorem zk_m32shr {a c : Int} (h1 : 0 ≤ a) (h2 : a ≤ 2147483647) (h3 : 0 ≤ c) (h4 : c < 32) : Int32.ofInt a >>> (Int32.ofInt c &&& 31) = Int32.ofInt (a / 2 ^ c.toNat) := by
  apply Int32.toInt_inj.mp
  have hj := zk_s32 ⟨c.toNat, by omega⟩
  have hp : (0 : Int) < 2 ^ c.toNat := Int.pow_pos (by decide)
  have e1 : a / 2 ^ c.toNat ≤ a := Int.ediv_le_self _ h1
  have e2 : 0 ≤ a / 2 ^ c.toNat := Int.ediv_nonneg h1 (by omega)
  dsimp only at hj
  rw [Int.toNat_of_nonneg h3] at hj
  rw [pk_shr _ _ _ hj, zk_i32 (by omega) h2, zk_i32 (by omega) (by omega), Int.shiftRight_eq_div_pow]
  simp
theorem zk_m64shr {a c : Int} (h1 : 0 ≤ a) (h2 : a ≤ 9223372036854775807) (h3 : 0 ≤ c) (h4 : c < 64) : Int64.ofInt a >>> ((Int32.ofInt c).toInt64 &&& 63) = Int64.ofInt (a / 2 ^ c.toNat) := by
  apply Int64.toInt_inj.mp
  have hj := zk_s64 ⟨c.toNat, by omega⟩
  have hp : (0 : Int) < 2 ^ c.toNat := Int.pow_pos (by decide)
  have e1 : a / 2 ^ c.toNat ≤ a := Int.ediv_le_self _ h1
  have e2 : 0 ≤ a / 2 ^ c.toNat := Int.ediv_nonneg h1 (by omega)
  dsimp only at hj
  rw [Int.toNat_of_nonneg h3] at hj
  show ((Int64.ofInt a).toBitVec.sshiftRight (((Int32.ofInt c).toInt64 &&& 63).toBitVec.smod 64).toNat).toInt = _
  rw [hj, BitVec.toInt_sshiftRight]
  show (Int64.ofInt a).toInt >>> c.toNat = _
  rw [zk_i64 (by omega) h2, zk_i64 (by omega) (by omega), Int.shiftRight_eq_div_pow]
  simp
theorem zk_sh1 : ∀ j : Fin 31, (1 : Int32) <<< (Int32.ofInt (j.val : Int) &&& 31) = Int32.ofInt (2 ^ j.val) := by decide +kernel
theorem zk_tI (y : Int32) : ∃ z, -2147483648 ≤ z ∧ z ≤ 2147483647 ∧ zk_k 0 z = .int y := ⟨y.toInt, (zk_b32 y).1, (zk_b32 y).2, by simp [zk_k]⟩
theorem zk_tL (y : Int64) : ∃ z, -9223372036854775808 ≤ z ∧ z ≤ 9223372036854775807 ∧ zk_k 1 z = .long y := ⟨y.toInt, (zk_b64 y).1, (zk_b64 y).2, by simp [zk_k]⟩
theorem zk_kt0 {t : Nat} {z : Int} {a : Int32} (h : zk_k t z = .int a) : t = 0 ∧ a = Int32.ofInt z := by
  unfold zk_k at h
  split at h <;> simp_all
theorem zk_kt1 {t : Nat} {z : Int} {a : Int64} (h : zk_k t z = .long a) : t = 1 ∧ a = Int64.ofInt z := by
  unfold zk_k at h
  split at h <;> simp_all
set_option maxHeartbeats 1000000 in
theorem zk_a8 : ∀ j : Fin 128, Int32.ofInt (j.val : Int) &&& Int32.ofInt 255 = Int32.ofInt (j.val : Int) := by decide +kernel
theorem zk_a8n : ∀ j : Fin 128, Int32.ofInt ((j.val : Int) - 128) &&& Int32.ofInt 255 = Int32.ofInt ((j.val : Int) + 128) := by decide +kernel
theorem zk_bin_ok {r : Nat → Int} {n o : Nat} {P : zP} {v w : zV} {x : Value} (hf : zk_fP n P = true) (h : zk_P r P) (h0 : r 0 = 0) (hv : v.2.1 < n) (hw : w.2.1 < n) (hx : zk_f o (zk_c r v) (zk_c r w) = some x) : zk_G r n (zk_bin o n P v w) x := by
  unfold zk_f at hx
  have hn : 0 < n := by omega
  split at hx
  · rename_i a b ea eb
    obtain ⟨et, rfl⟩ := zk_kt0 ea
    obtain ⟨-, rfl⟩ := zk_kt0 eb
    split at hx <;> cases hx
    · exact zk_add_ok hf h h0 hv hw (by simp [zk_k, Int32.ofInt_add]) (zk_tI _)
    · exact zk_sub_ok hf h h0 hv hw (by simp [zk_k, Int32.ofInt_sub]) (zk_tI _)
    · exact zk_mul_ok hf h h0 hn (by simp [zk_k, Int32.ofInt_mul]) (zk_tI _)
    · exact zk_div_ok hf h hv (fun g1 g2 g3 g4 => by simp only [zk_k]; rw [zk_m32div g1 g2 g3 g4]) (zk_tI _)
    · exact zk_rem_ok hf h hv hw (fun g1 g2 g3 g4 => by simp only [zk_k]; rw [zk_m32rem g1 g2 g3 g4]) (zk_tI _)
    · show zk_G r n (zk_and8 n P v w) _
      unfold zk_and8
      split
      · rename_i hc
        have hb := zk_inb_ok h hc.2
        refine zk_G_old hf h hv ?_
        have ew : zk_n r w = 255 := by rw [hc.1]; unfold zk_n; dsimp only; rw [h0]; omega
        rw [ew]
        unfold zk_c
        rw [et]
        have := zk_a8 ⟨(zk_n r v).toNat, by omega⟩
        dsimp only at this
        rw [show (((zk_n r v).toNat : Nat) : Int) = zk_n r v by omega] at this
        show Value.int _ = Value.int _
        rw [this]
      split
      · rename_i hc
        have hb := zk_inb_ok h hc.2
        refine zk_G_old hf h hv ?_
        have ew : zk_n r w = 255 := by rw [hc.1]; unfold zk_n; dsimp only; rw [h0]; omega
        rw [ew]
        unfold zk_c
        dsimp only
        rw [et]
        have := zk_a8n ⟨(zk_n r v + 128).toNat, by omega⟩
        dsimp only at this
        rw [show (((zk_n r v + 128).toNat : Nat) : Int) - 128 = zk_n r v by omega, show (((zk_n r v + 128).toNat : Nat) : Int) + 128 = zk_n r (v.1, v.2.1, v.2.2 + 256) by unfold zk_n at *; dsimp only; omega] at this
        show Value.int _ = Value.int _
        rw [this]
        rw [et]
      refine zk_and_ok (v := v) hf h (fun g1 g2 => ?_) (zk_tI _)
      have e1 := zk_i32 (a := zk_n r w) (by omega) g2
      have e2 := zk_bvand (Int32.ofInt (zk_n r v)).toBitVec (Int32.ofInt (zk_n r w)).toBitVec (by decide) (by show 0 ≤ (Int32.ofInt (zk_n r w)).toInt; omega)
      refine ⟨(Int32.ofInt (zk_n r v) &&& Int32.ofInt (zk_n r w)).toInt, e2.1, ?_, by simp [zk_k]⟩
      exact Int.le_trans e2.2 (by show (Int32.ofInt (zk_n r w)).toInt ≤ _; omega)
    · exact zk_G_top hf h (zk_tI _)
    · exact zk_G_top hf h (zk_tI _)
    · show zk_G r n (zk_shl1 n P v w) _
      unfold zk_shl1
      split
      · rename_i b hb
        split
        · rename_i hc
          have h2 := zk_r_ok h hb
          have hv1 : zk_n r v = 1 := by rw [hc.1]; unfold zk_n; dsimp only; rw [h0]; omega
          have hj := zk_sh1 ⟨(zk_n r w).toNat, by omega⟩
          dsimp only at hj
          rw [Int.toNat_of_nonneg (by omega)] at hj
          refine zk_G_nw hf h (z := 2 ^ (zk_n r w).toNat) ?_ ⟨?_, ?_⟩ (fun q hq => by cases hq)
          · simp only [zk_k]
            rw [← hj, hv1]
            rfl
          · have : (0 : Int) < 2 ^ (zk_n r w).toNat := Int.pow_pos (by decide)
            omega
          · have e3 : (2 : Nat) ^ (zk_n r w).toNat ≤ 2 ^ b.2.toNat := Nat.pow_le_pow_right (by decide) (by omega)
            have e4 : ((2 ^ (zk_n r w).toNat : Nat) : Int) ≤ ((2 ^ b.2.toNat : Nat) : Int) := by exact_mod_cast e3
            simpa using e4
        · exact zk_G_top hf h (zk_tI _)
      · exact zk_G_top hf h (zk_tI _)
    · exact zk_shr_ok hf h h0 hv (fun g1 g2 g3 g4 => by simp only [zk_k]; rw [zk_m32shr g1 g2 g3 g4]) (zk_tI _)
    · exact zk_G_top hf h (zk_tI _)
  · rename_i a b ea eb
    obtain ⟨-, rfl⟩ := zk_kt1 ea
    obtain ⟨-, rfl⟩ := zk_kt1 eb
    split at hx <;> cases hx
    · exact zk_add_ok hf h h0 hv hw (by simp [zk_k, Int64.ofInt_add]) (zk_tL _)
    · exact zk_sub_ok hf h h0 hv hw (by simp [zk_k, Int64.ofInt_sub]) (zk_tL _)
    · exact zk_mul_ok hf h h0 hn (by simp [zk_k, Int64.ofInt_mul]) (zk_tL _)
    · exact zk_div_ok hf h hv (fun g1 g2 g3 g4 => by simp only [zk_k]; rw [zk_m64div g1 g2 g3 g4]) (zk_tL _)
    · exact zk_rem_ok hf h hv hw (fun g1 g2 g3 g4 => by simp only [zk_k]; rw [zk_m64rem g1 g2 g3 g4]) (zk_tL _)
    · refine zk_and_ok (v := v) hf h (fun g1 g2 => ?_) (zk_tL _)
      have e1 := zk_i64 (a := zk_n r w) (by omega) g2
      have e2 := zk_bvand (Int64.ofInt (zk_n r v)).toBitVec (Int64.ofInt (zk_n r w)).toBitVec (by decide) (by show 0 ≤ (Int64.ofInt (zk_n r w)).toInt; omega)
      refine ⟨(Int64.ofInt (zk_n r v) &&& Int64.ofInt (zk_n r w)).toInt, e2.1, ?_, by simp [zk_k]⟩
      exact Int.le_trans e2.2 (by show (Int64.ofInt (zk_n r w)).toInt ≤ _; omega)
    · exact zk_G_top hf h (zk_tL _)
    · exact zk_G_top hf h (zk_tL _)
  · rename_i a b ea eb
    obtain ⟨-, rfl⟩ := zk_kt1 ea
    obtain ⟨-, rfl⟩ := zk_kt0 eb
    split at hx <;> cases hx
    · exact zk_G_top hf h (zk_tL _)
    · exact zk_shr_ok hf h h0 hv (fun g1 g2 g3 g4 => by simp only [zk_k]; rw [zk_m64shr g1 g2 g3 g4]) (zk_tL _)
    · exact zk_G_top hf h (zk_tL _)
  · cases hx
end
section
/-! THE CHECKER, 5: what a state of the machine is, seen by the checker. Types of cells: (kind, class or length, what the places hold); kind 0 an object, 1 int[], 2 byte[], 3 boolean[], 4 long[], 10 + c an array of objects of class c, 9 a cell that was there before and is only read. -/
abbrev zT : Type := Nat × List (Int × Int)
abbrev zS : Type := Nat × Nat × List zT
/-- heap facts: types of references; known fields (x, class, field, value); known places (x, type, index, value); cells being made (x, class or 1000 + kind, values); the script (x, length); further facts -/
abbrev zG : Type := List (Nat × Nat) × List (Nat × Nat × Nat × zV) × List (Nat × Nat × zV × zV) × List (Nat × Nat × List zV) × List (Nat × zV) × List (Nat × List zV)
/-- locals, stack, numbers, heap, (next symbol, measure, cells, slots) -/
abbrev zA : Type := List (Nat × zV) × List zV × zP × zG × (Nat × (List (Nat × Int) × Int) × Nat × Nat)
def zk_dv : zT := (3, [])
def zk_el (l : List zT) (j : Nat) : zT := match l with
  | [q] => q
  | l => l.getD j zk_dv
/-- a value of a kind -/
def zk_vt (ty : Nat → Nat) (x : Value) (q : zT) : Prop := ∃ z : Int, x = zk_k q.1 z ∧ ∃ i ∈ q.2, if q.1 = 2 then 0 ≤ z ∧ ty z.toNat = i.1.toNat + 1 else i.1 ≤ z ∧ z ≤ i.2
/-- the world: class numbers, slots of fields, array classes, types, base, which cells may have which type, the script's cells, further facts -/
abbrev zD : Type := (Nat → ClassId) × (Nat → Nat → Nat) × (Nat → ClassId) × (Nat → zS) × Nat × (Nat → Nat → Prop) × (Nat → Int → Prop) × (Nat → (Nat → Nat) → Heap → List Int → Prop)
abbrev zD.dC (D : zD) := D.1
abbrev zD.dI (D : zD) := D.2.1
abbrev zD.cA (D : zD) := D.2.2.1
abbrev zD.TT (D : zD) := D.2.2.2.1
abbrev zD.ba (D : zD) := D.2.2.2.2.1
abbrev zD.RO (D : zD) := D.2.2.2.2.2.1
abbrev zD.SC (D : zD) := D.2.2.2.2.2.2.1
abbrev zD.OP (D : zD) := D.2.2.2.2.2.2.2
def zk_C (D : zD) (ty : Nat → Nat) (H : Heap) (a : Nat) (S : zS) : Prop :=
  if S.1 = 0 then ∃ cell : Cell, H[a]? = some cell ∧ cell.cls = D.dC S.2.1 ∧ cell.vm = .none ∧ ∀ (k : Nat) (q : zT), S.2.2[k]? = some q → ∃ x, cell.slots[D.dI S.2.1 k]? = some x ∧ zk_vt ty x q
  else ∃ cell : Cell, H[a]? = some cell ∧ cell.cls = D.cA S.1 ∧ cell.vm = .none ∧ cell.slots.size = S.2.1 ∧ ∀ j : Nat, j < S.2.1 → ∃ x, cell.slots[j]? = some x ∧ zk_vt ty x (zk_el S.2.2 j)
/-- the typed heap -/
def zk_T (D : zD) (ty : Nat → Nat) (H : Heap) : Prop := D.ba ≤ H.size ∧ ∀ a t : Nat, ty a = t + 1 → if (D.TT t).1 = 9 then D.RO t a ∧ a < D.ba else (D.ba ≤ a ∧ D.RO t a) ∧ zk_C D ty H a (D.TT t)
def zk_rt (r : Nat → Int) (ty : Nat → Nat) (q : Nat × Nat) : Prop := 0 ≤ r q.1 ∧ ty (r q.1).toNat = q.2 + 1
def zk_fm (D : zD) (r : Nat → Int) (ty : Nat → Nat) (H : Heap) (q : Nat × Nat × Nat × zV) : Prop := (∃ t, ty (r q.1).toNat = t + 1 ∧ (D.TT t).1 = 0 ∧ (D.TT t).2.1 = q.2.1 ∧ q.2.2.1 < (D.TT t).2.2.length) ∧ ∃ cell : Cell, H[(r q.1).toNat]? = some cell ∧ cell.slots[D.dI q.2.1 q.2.2.1]? = some (zk_c r q.2.2.2)
def zk_em (D : zD) (r : Nat → Int) (ty : Nat → Nat) (H : Heap) (q : Nat × Nat × zV × zV) : Prop := ty (r q.1).toNat = q.2.1 + 1 ∧ (D.TT q.2.1).1 ≠ 0 ∧ 0 ≤ zk_n r q.2.2.1 ∧ ∃ cell : Cell, H[(r q.1).toNat]? = some cell ∧ cell.slots[(zk_n r q.2.2.1).toNat]? = some (zk_c r q.2.2.2)
def zk_rw (D : zD) (r : Nat → Int) (ty : Nat → Nat) (H : Heap) (q : Nat × Nat × List zV) : Prop := 0 ≤ r q.1 ∧ D.ba ≤ (r q.1).toNat ∧ ty (r q.1).toNat = 0 ∧ ∃ cell : Cell, H[(r q.1).toNat]? = some cell ∧ cell.vm = .none ∧
  if q.2.1 < 1000 then cell.cls = D.dC q.2.1 ∧ ∀ (k : Nat) (v : zV), q.2.2[k]? = some v → cell.slots[D.dI q.2.1 k]? = some (zk_c r v)
  else cell.cls = D.cA (q.2.1 - 1000) ∧ cell.slots.size = q.2.2.length ∧ ∀ (k : Nat) (v : zV), q.2.2[k]? = some v → cell.slots[k]? = some (zk_c r v)
def zk_H (D : zD) (r : Nat → Int) (ty : Nat → Nat) (H : Heap) (G : zG) : Prop := (∀ q ∈ G.1, zk_rt r ty q) ∧ (∀ q ∈ G.2.1, zk_fm D r ty H q) ∧ (∀ q ∈ G.2.2.1, zk_em D r ty H q) ∧ (∀ q ∈ G.2.2.2.1, zk_rw D r ty H q) ∧ G.2.2.2.1.Pairwise (fun x y => r x.1 ≠ r y.1) ∧ (∀ q ∈ G.2.2.2.2.1, 0 ≤ r q.1 ∧ D.SC (r q.1).toNat (zk_n r q.2)) ∧ (∀ q ∈ G.2.2.2.2.2, D.OP q.1 ty H (q.2.map (zk_n r)))
/-- what may have changed since the method's start: fields F, arrays of types B; U: cells that were being made -/
def zk_F (D : zD) (F : List (Nat × Nat)) (B : List Nat) (U : Nat → Prop) (t0 : Nat → Nat) (H0 : Heap) (ty : Nat → Nat) (H : Heap) : Prop :=
  H0.size ≤ H.size ∧ (∀ a t : Nat, t0 a = t + 1 → ty a = t + 1) ∧ (∀ a : Nat, a < H0.size → ¬ U a → ty a = t0 a) ∧ (∀ a : Nat, a < H0.size → t0 a = 0 → ¬ U a → H[a]? = H0[a]?) ∧
  (∀ a t : Nat, t0 a = t + 1 → (D.TT t).1 ≠ 0 → t ∉ B → H[a]? = H0[a]?) ∧
  (∀ a t : Nat, t0 a = t + 1 → (D.TT t).1 = 0 → ∀ k : Nat, k < (D.TT t).2.2.length → (t, k) ∉ F → ∀ c0 c1 : Cell, H0[a]? = some c0 → H[a]? = some c1 → c1.slots[D.dI (D.TT t).2.1 k]? = c0.slots[D.dI (D.TT t).2.1 k]?)
def zk_lin (r : Nat → Int) (m : List (Nat × Int) × Int) : Int := m.1.foldr (fun q z => q.2 * r q.1 + z) m.2
/-- all symbols below n -/
def zk_fL (n : Nat) (l : List zV) : Bool := l.all (fun v => Nat.blt v.2.1 n)
def zk_fG (n : Nat) (G : zG) : Bool := G.1.all (fun q => Nat.blt q.1 n) && G.2.1.all (fun q => Nat.blt q.1 n && Nat.blt q.2.2.2.2.1 n) && G.2.2.1.all (fun q => Nat.blt q.1 n && (Nat.blt q.2.2.1.2.1 n && Nat.blt q.2.2.2.2.1 n)) && G.2.2.2.1.all (fun q => Nat.blt q.1 n && zk_fL n q.2.2) && G.2.2.2.2.1.all (fun q => Nat.blt q.1 n && Nat.blt q.2.2.1 n) && G.2.2.2.2.2.all (fun q => zk_fL n q.2)
def zk_fA (n : Nat) (A : zA) : Bool := A.1.all (fun q => Nat.blt q.2.2.1 n) && zk_fL n A.2.1 && zk_fP n A.2.2.1 && zk_fG n A.2.2.2.1 && A.2.2.2.2.2.1.1.all (fun q => Nat.blt q.1 n)
section
variable {D : zD} {r r' : Nat → Int} {n : Nat} {ty : Nat → Nat} {H : Heap}
theorem zk_n_eq (he : ∀ x, x < n → r' x = r x) {v : zV} (hv : v.2.1 < n) : zk_n r' v = zk_n r v := by unfold zk_n; rw [he _ hv]
theorem zk_c_eq (he : ∀ x, x < n → r' x = r x) {v : zV} (hv : v.2.1 < n) : zk_c r' v = zk_c r v := by unfold zk_c; rw [zk_n_eq he hv]
theorem zk_map_c (he : ∀ x, x < n → r' x = r x) : ∀ {l : List zV}, zk_fL n l = true → l.map (zk_c r') = l.map (zk_c r)
  | [], _ => rfl
  | v :: l, h => by
    simp only [zk_fL, List.all_cons, Bool.and_eq_true] at h
    rw [List.map_cons, List.map_cons, zk_c_eq he (zk_blt h.1), zk_map_c he h.2]
theorem zk_map_n (he : ∀ x, x < n → r' x = r x) : ∀ {l : List zV}, zk_fL n l = true → l.map (zk_n r') = l.map (zk_n r)
  | [], _ => rfl
  | v :: l, h => by
    simp only [zk_fL, List.all_cons, Bool.and_eq_true] at h
    rw [List.map_cons, List.map_cons, zk_n_eq he (zk_blt h.1), zk_map_n he h.2]
theorem zk_H_new {G : zG} (hf : zk_fG n G = true) (he : ∀ x, x < n → r' x = r x) (h : zk_H D r ty H G) : zk_H D r' ty H G := by
  simp only [zk_fG, Bool.and_eq_true, List.all_eq_true] at hf
  obtain ⟨⟨⟨⟨⟨f1, f2⟩, f3⟩, f4⟩, f5⟩, f6⟩ := hf
  obtain ⟨h1, h2, h3, h4, h5, h6, h7⟩ := h
  refine ⟨fun q hq => ?_, fun q hq => ?_, fun q hq => ?_, fun q hq => ?_, ?_, fun q hq => ?_, fun q hq => ?_⟩
  · unfold zk_rt; rw [he _ (zk_blt (f1 q hq))]; exact h1 q hq
  · unfold zk_fm; rw [he _ (zk_blt (f2 q hq).1), zk_c_eq he (zk_blt (f2 q hq).2)]; exact h2 q hq
  · unfold zk_em; rw [he _ (zk_blt (f3 q hq).1), zk_n_eq he (zk_blt (f3 q hq).2.1), zk_c_eq he (zk_blt (f3 q hq).2.2)]; exact h3 q hq
  · have g := h4 q hq
    have fl := (f4 q hq).2
    unfold zk_rw at g ⊢
    rw [he _ (zk_blt (f4 q hq).1)]
    obtain ⟨g1, g2, g3, cell, g4, g5, g6⟩ := g
    refine ⟨g1, g2, g3, cell, g4, g5, ?_⟩
    have ec : ∀ (k : Nat) (v : zV), q.2.2[k]? = some v → zk_c r' v = zk_c r v := fun k v hk => zk_c_eq he (zk_blt (List.all_eq_true.mp fl v (List.mem_of_getElem? hk)))
    split at g6
    · rename_i hc
      rw [if_pos hc]
      exact ⟨g6.1, fun k v hk => by rw [ec k v hk]; exact g6.2 k v hk⟩
    · rename_i hc
      rw [if_neg hc]
      exact ⟨g6.1, g6.2.1, fun k v hk => by rw [ec k v hk]; exact g6.2.2 k v hk⟩
  · refine List.Pairwise.imp_of_mem ?_ h5
    intro x y hx hy hxy
    rw [he _ (zk_blt (f4 x hx).1), he _ (zk_blt (f4 y hy).1)]
    exact hxy
  · rw [he _ (zk_blt (f5 q hq).1), zk_n_eq he (zk_blt (f5 q hq).2)]; exact h6 q hq
  · rw [zk_map_n he (f6 q hq)]; exact h7 q hq
theorem zk_lin_new {m : List (Nat × Int) × Int} (hf : m.1.all (fun q => Nat.blt q.1 n) = true) (he : ∀ x, x < n → r' x = r x) : zk_lin r' m = zk_lin r m := by
  obtain ⟨l, c⟩ := m
  unfold zk_lin
  dsimp only at hf ⊢
  induction l with
  | nil => rfl
  | cons q l ih =>
    simp only [List.all_cons, Bool.and_eq_true] at hf
    rw [List.foldr_cons, List.foldr_cons, ih hf.2, he _ (zk_blt hf.1)]
end
end
section
/-! THE CHECKER, 6: the invariant that ties the machine to the checker's state, and rows that don't touch the heap. -/
/-- a method's frame: nL locals; entry symbols below n0 with their values; what may change; the measure at its last annotated place -/
abbrev zE : Type := Nat × (Nat × (Nat → Int)) × (List (Nat × Nat) × List Nat) × ((Nat → Prop) × (Nat → Nat) × Heap) × Int
def zk_I (D : zD) (E : zE) (A : zA) (r : Nat → Int) (ty : Nat → Nat) (H : Heap) (locs : List Loc) (ls : Array Slot) (st : List Value) : Prop :=
  lv_has ls E.1 (A.1.map fun q => (q.1, zk_c r q.2)) ∧ st = A.2.1.map (zk_c r) ∧ zk_P r A.2.2.1 ∧ zk_H D r ty H A.2.2.2.1 ∧ zk_T D ty H ∧ zk_F D E.2.2.1.1 E.2.2.1.2 E.2.2.2.1.1 E.2.2.2.1.2.1 E.2.2.2.1.2.2 ty H ∧ r 0 = 0 ∧ (∀ x, x < E.2.1.1 → r x = E.2.1.2 x) ∧ zk_lin r A.2.2.2.2.2.1 = E.2.2.2.2 ∧ (∀ q ∈ locs, D.ba ≤ q.base) ∧ ∀ q ∈ A.2.2.2.1.2.2.2.1, E.2.2.2.1.1 (r q.1).toNat ∨ E.2.2.2.1.2.2.size ≤ (r q.1).toNat
def zk_ok (n0 : Nat) (A : zA) : Bool := Nat.blt 0 A.2.2.2.2.1 && (Nat.ble n0 A.2.2.2.2.1 && zk_fA A.2.2.2.2.1 A)
theorem zk_I_new {D : zD} {E : zE} {A : zA} {r r' : Nat → Int} {ty : Nat → Nat} {H : Heap} {locs : List Loc} {ls : Array Slot} {st : List Value} (hf : zk_ok E.2.1.1 A = true) (he : ∀ x, x < A.2.2.2.2.1 → r' x = r x) (h : zk_I D E A r ty H locs ls st) : zk_I D E A r' ty H locs ls st := by
  simp only [zk_ok, zk_fA, Bool.and_eq_true] at hf
  obtain ⟨hn, hle, ⟨⟨⟨f1, f2⟩, f3⟩, f4⟩, f5⟩ := hf
  have hn := zk_blt hn
  have hle := Nat.le_of_ble_eq_true hle
  obtain ⟨h1, h2, h3, h4, h5, h6, h7, h8, h9, h10⟩ := h
  refine ⟨?_, ?_, zk_P_new f3 he h3, zk_H_new f4 he h4, h5, h6, by rw [he 0 hn]; exact h7, fun x hx => by rw [he x (Nat.lt_of_lt_of_le hx hle)]; exact h8 x hx, by rw [zk_lin_new f5 he]; exact h9, h10.1, fun q hq => ?_⟩
  · have e : (A.1.map fun q => (q.1, zk_c r' q.2)) = A.1.map fun q => (q.1, zk_c r q.2) := by
      apply List.map_congr_left
      intro q hq
      rw [zk_c_eq he (zk_blt (List.all_eq_true.mp f1 q hq))]
    rw [e]; exact h1
  · rw [zk_map_c he f2]; exact h2
  · simp only [zk_fG, Bool.and_eq_true, List.all_eq_true] at f4
    rw [he _ (zk_blt (f4.1.1.2 q hq).1)]
    exact h10.2 q hq
def zk_find : List (Nat × zV) → Nat → Option zV
  | [], _ => none
  | q :: l, i => if q.1 = i then some q.2 else zk_find l i
theorem zk_find_mem : ∀ {l : List (Nat × zV)} {i : Nat} {v : zV}, zk_find l i = some v → (i, v) ∈ l
  | [], _, _, h => by simp [zk_find] at h
  | y :: l, i, v, h => by
    unfold zk_find at h
    split at h
    · rename_i h1
      cases h
      rw [← h1]
      exact List.mem_cons_self
    · exact List.mem_cons_of_mem _ (zk_find_mem h)
theorem zk_local {ls : Array Slot} {nL : Nat} {L : List (Nat × zV)} {r : Nat → Int} (h : lv_has ls nL (L.map fun q => (q.1, zk_c r q.2))) {i : Nat} {v : zV} (hv : zk_find L i = some v) : ls[i]? = some (.val (zk_c r v)) :=
  h.2.2 (i, zk_c r v) (List.mem_map.mpr ⟨(i, v), zk_find_mem hv, rfl⟩)
/-- pushed -/
def zk_pu (v : zV) (A : zA) : zA := (A.1, v :: A.2.1, A.2.2)
/-- the stack is S -/
def zk_ss (S : List zV) (A : zA) : zA := (A.1, S, A.2.2)
def zk_keep1 (i : Nat) (q : Nat × zV) : Bool := !(q.1 == i) && !(q.1 + 1 == i && q.2.1 == 1)
def zk_keep2 (i : Nat) (q : Nat × zV) : Bool := !(q.1 == i) && (!(q.1 == i + 1) && !(q.1 + 1 == i && q.2.1 == 1))
theorem zk_cat (t : Nat) (z : Int) : ((zk_k t z).category == 2) = (t == 1) := by
  match t with
  | 0 => rfl
  | 1 => rfl
  | 2 => rfl
  | t + 3 => simp [zk_k, Value.category]
theorem zk_filter1 (i : Nat) (r : Nat → Int) (L : List (Nat × zV)) : (L.map fun q => (q.1, zk_c r q.2)).filter (fun q => !(q.1 == i) && !(q.1 + 1 == i && q.2.category == 2)) = (L.filter (zk_keep1 i)).map fun q => (q.1, zk_c r q.2) := by
  rw [List.filter_map]
  congr 1
  apply List.filter_congr
  intro q _
  simp only [Function.comp, zk_c, zk_cat, zk_keep1]
theorem zk_filter2 (i : Nat) (r : Nat → Int) (L : List (Nat × zV)) : (L.map fun q => (q.1, zk_c r q.2)).filter (fun q => !(q.1 == i) && (!(q.1 == i + 1) && !(q.1 + 1 == i && q.2.category == 2))) = (L.filter (zk_keep2 i)).map fun q => (q.1, zk_c r q.2) := by
  rw [List.filter_map]
  congr 1
  apply List.filter_congr
  intro q _
  simp only [Function.comp, zk_c, zk_cat, zk_keep2]
def zk_sl1 (i : Nat) (v : zV) (S : List zV) (A : zA) : zA := ((i, v) :: A.1.filter (zk_keep1 i), S, A.2.2)
def zk_sl2 (i : Nat) (v : zV) (S : List zV) (A : zA) : zA := ((i, v) :: A.1.filter (zk_keep2 i), S, A.2.2)
section
variable {p : Program} {l : Launch} {e : Env} {R : Room} {s : State} {m : MethodId} {args : Array Value} {below : List Frame} {meth : Method} {c : Code} {Q : State → Prop} {cc : ByteArray} {pc : Nat} {D : zD} {E : zE} {A : zA}
/-- from a state of the checker's the machine comes to Q -/
def zk_W (p : Program) (l : Launch) (e : Env) (R : Room) (s : State) (m : MethodId) (args : Array Value) (below : List Frame) (meth : Method) (c : Code) (Q : State → Prop) (D : zD) (E : zE) (pc : Nat) (A : zA) : Prop :=
  ∀ (r : Nat → Int) (ty : Nat → Nat) (H : Heap) (locs : List Loc) (ls : Array Slot) (st : List Value), zk_I D E A r ty H locs ls st → W p l e R s m args below meth c H locs A.2.2.2.2.2.2.1 A.2.2.2.2.2.2.2 Q (F0 m pc ls st)
theorem zk_I_pu {r : Nat → Int} {ty : Nat → Nat} {H : Heap} {locs : List Loc} {ls : Array Slot} {st : List Value} {v : zV} (h : zk_I D E A r ty H locs ls st) : zk_I D E (zk_pu v A) r ty H locs ls (zk_c r v :: st) := by
  obtain ⟨h1, h2, h3⟩ := h
  exact ⟨h1, by rw [h2]; rfl, h3⟩
theorem zk_I_ss {r : Nat → Int} {ty : Nat → Nat} {H : Heap} {locs : List Loc} {ls : Array Slot} {st : List Value} {S : List zV} (h : zk_I D E A r ty H locs ls st) : zk_I D E (zk_ss S A) r ty H locs ls (S.map (zk_c r)) := by
  obtain ⟨h1, h2, h3⟩ := h
  exact ⟨h1, rfl, h3⟩
/-- a constant is pushed -/
theorem zk_row_const {v : zV} {n : Nat} (row : ∀ {H : Heap} {locs : List Loc} {cells slots : Nat} {ls : Array Slot} {rest : List Value} {r : Nat → Int}, r 0 = 0 → W p l e R s m args below meth c H locs cells slots Q (F0 m n ls (zk_c r v :: rest)) → W p l e R s m args below meth c H locs cells slots Q (F0 m pc ls rest))
    (k : zk_W p l e R s m args below meth c Q D E n (zk_pu v A)) : zk_W p l e R s m args below meth c Q D E pc A := by
  intro r ty H locs ls st h
  exact row h.2.2.2.2.2.2.1 (k r ty H locs ls _ (zk_I_pu h))
theorem zk_row_load {v : zV} {i n : Nat} (hv : zk_find A.1 i = some v) (row : ∀ {H : Heap} {locs : List Loc} {cells slots : Nat} {ls : Array Slot} {rest : List Value} {x : Value}, (∃ z, x = zk_k v.1 z) → ls[i]? = some (.val x) → W p l e R s m args below meth c H locs cells slots Q (F0 m n ls (x :: rest)) → W p l e R s m args below meth c H locs cells slots Q (F0 m pc ls rest))
    (k : zk_W p l e R s m args below meth c Q D E n (zk_pu v A)) : zk_W p l e R s m args below meth c Q D E pc A := by
  intro r ty H locs ls st h
  exact row ⟨_, rfl⟩ (zk_local h.1 hv) (k r ty H locs ls _ (zk_I_pu h))
theorem zk_row_store1 {v : zV} {S : List zV} {i n : Nat} (hS : A.2.1 = v :: S) (row : ∀ {H : Heap} {locs : List Loc} {cells slots : Nat} {ls : Array Slot} {rest : List Value} {x : Value} {lv : List (Nat × Value)}, (∃ z, x = zk_k v.1 z) → lv_has ls E.1 lv → (∀ ls' : Array Slot, lv_has ls' E.1 ((i, x) :: lv.filter (fun q => !(q.1 == i) && !(q.1 + 1 == i && q.2.category == 2))) → W p l e R s m args below meth c H locs cells slots Q (F0 m n ls' rest)) → W p l e R s m args below meth c H locs cells slots Q (F0 m pc ls (x :: rest)))
    (k : zk_W p l e R s m args below meth c Q D E n (zk_sl1 i v S A)) : zk_W p l e R s m args below meth c Q D E pc A := by
  intro r ty H locs ls st h
  obtain ⟨h1, h2, h3⟩ := h
  rw [h2, hS, List.map_cons]
  refine row ⟨_, rfl⟩ h1 (fun ls' h' => k r ty H locs ls' _ ⟨?_, rfl, h3⟩)
  rw [zk_filter1] at h'
  exact h'
theorem zk_row_store2 {v : zV} {S : List zV} {i n : Nat} (hS : A.2.1 = v :: S) (row : ∀ {H : Heap} {locs : List Loc} {cells slots : Nat} {ls : Array Slot} {rest : List Value} {x : Value} {lv : List (Nat × Value)}, (∃ z, x = zk_k v.1 z) → lv_has ls E.1 lv → (∀ ls' : Array Slot, lv_has ls' E.1 ((i, x) :: lv.filter (fun q => !(q.1 == i) && (!(q.1 == i + 1) && !(q.1 + 1 == i && q.2.category == 2)))) → W p l e R s m args below meth c H locs cells slots Q (F0 m n ls' rest)) → W p l e R s m args below meth c H locs cells slots Q (F0 m pc ls (x :: rest)))
    (k : zk_W p l e R s m args below meth c Q D E n (zk_sl2 i v S A)) : zk_W p l e R s m args below meth c Q D E pc A := by
  intro r ty H locs ls st h
  obtain ⟨h1, h2, h3⟩ := h
  rw [h2, hS, List.map_cons]
  refine row ⟨_, rfl⟩ h1 (fun ls' h' => k r ty H locs ls' _ ⟨?_, rfl, h3⟩)
  rw [zk_filter2] at h'
  exact h'
theorem zk_row_stack {S : List zV} {n : Nat} (row : ∀ {H : Heap} {locs : List Loc} {cells slots : Nat} {ls : Array Slot} {r : Nat → Int}, W p l e R s m args below meth c H locs cells slots Q (F0 m n ls (S.map (zk_c r))) → W p l e R s m args below meth c H locs cells slots Q (F0 m pc ls (A.2.1.map (zk_c r))))
    (k : zk_W p l e R s m args below meth c Q D E n (zk_ss S A)) : zk_W p l e R s m args below meth c Q D E pc A := by
  intro r ty H locs ls st h
  have h2 := h.2.1
  subst h2
  exact row (k r ty H locs ls _ (zk_I_ss h))
end
end
section
/-! THE CHECKER, 7: branches. -/
def zk_cd (c : ClassFile.Cond) (a b : Int) : Prop := match c with
  | .eq => a = b | .ne => a ≠ b | .lt => a < b | .ge => b ≤ a | .gt => b < a | .le => a ≤ b
def zk_mc (c : ClassFile.Cond) (a b : Int32) : Prop := match c with
  | .eq => a = b | .ne => ¬ a = b | .lt => a < b | .ge => b ≤ a | .gt => b < a | .le => a ≤ b
def zk_ng (c : ClassFile.Cond) : ClassFile.Cond := match c with
  | .eq => .ne | .ne => .eq | .lt => .ge | .ge => .lt | .gt => .le | .le => .gt
theorem zk_cd_ng {c : ClassFile.Cond} {a b : Int} (h : ¬ zk_cd c a b) : zk_cd (zk_ng c) a b := by
  cases c <;> simp only [zk_cd, zk_ng] at * <;> omega
theorem zk_mc_cd {c : ClassFile.Cond} {a b : Int} (ha : -2147483648 ≤ a ∧ a ≤ 2147483647) (hb : -2147483648 ≤ b ∧ b ≤ 2147483647) : zk_mc c (Int32.ofInt a) (Int32.ofInt b) ↔ zk_cd c a b := by
  have e1 := zk_i32 ha.1 ha.2
  have e2 := zk_i32 hb.1 hb.2
  cases c <;> simp only [zk_mc, zk_cd, ← Int32.toInt_inj, Int32.lt_iff_toInt_lt, Int32.le_iff_toInt_le, e1, e2, ne_eq]
def zk_as (c : ClassFile.Cond) (P : zP) (v w : zV) : Option zP := match c with
  | .eq => zk_eq P v w | .ne => zk_ne P v w | .lt => zk_le P v w (-1) | .ge => zk_le P w v 0 | .gt => zk_le P w v (-1) | .le => zk_le P v w 0
theorem zk_as_ok {r : Nat → Int} {P : zP} (h : zk_P r P) {c : ClassFile.Cond} {v w : zV} (hc : zk_cd c (zk_n r v) (zk_n r w)) : ∃ P', zk_as c P v w = some P' ∧ zk_P r P' := by
  cases c <;> simp only [zk_cd] at hc <;> simp only [zk_as]
  · exact zk_eq_ok h hc
  · exact zk_ne_ok h hc
  · exact zk_le_ok h (by omega)
  · exact zk_le_ok h (by omega)
  · exact zk_le_ok h (by omega)
  · exact zk_le_ok h (by omega)
def zk_cm : List (Nat × zV × zV) → Nat → Option (zV × zV)
  | [], _ => none
  | q :: l, x => if q.1 = x then some q.2 else zk_cm l x
theorem zk_cm_mem : ∀ {l : List (Nat × zV × zV)} {x : Nat} {q : zV × zV}, zk_cm l x = some q → (x, q) ∈ l
  | [], _, _, h => by simp [zk_cm] at h
  | y :: l, x, q, h => by
    unfold zk_cm at h
    split at h
    · rename_i h1
      cases h
      rw [← h1]
      exact List.mem_cons_self
    · exact List.mem_cons_of_mem _ (zk_cm_mem h)
/-- taken: c of v and w; what lcmp compared, too -/
def zk_asm (c : ClassFile.Cond) (P : zP) (v w : zV) : Option zP := match zk_as c P v w with
  | none => none
  | some P1 => if w.2.1 = 0 ∧ w.2.2 = 0 ∧ v.2.2 = 0 then (match zk_cm P.2.2.1 v.2.1 with
      | none => some P1
      | some q => zk_as c P1 q.1 q.2) else some P1
theorem zk_asm_ok {r : Nat → Int} {P : zP} (h : zk_P r P) (h0 : r 0 = 0) {c : ClassFile.Cond} {v w : zV} (hc : zk_cd c (zk_n r v) (zk_n r w)) : ∃ P', zk_asm c P v w = some P' ∧ zk_P r P' := by
  unfold zk_asm
  obtain ⟨P1, e1, h1⟩ := zk_as_ok h hc
  rw [e1]
  dsimp only
  split
  · rename_i hz
    split
    · exact ⟨P1, rfl, h1⟩
    · rename_i q hq
      refine zk_as_ok h1 ?_
      have g := h.2.2.1 _ (zk_cm_mem hq)
      unfold zk_sg at g
      dsimp only at g
      have e2 : zk_n r v = r v.2.1 := by unfold zk_n; omega
      have e3 : zk_n r w = 0 := by unfold zk_n; rw [hz.1, h0]; omega
      rw [e2, e3] at hc
      cases c <;> simp only [zk_cd] at hc ⊢ <;> omega
  · exact ⟨P1, rfl, h1⟩
def zk_sp (P : zP) (S : List zV) (A : zA) : zA := (A.1, S, P, A.2.2.2)
/-- a branch: K at the target where c can hold, K behind where it can fail -/
def zk_br (K : Nat → zA → Bool) (c : ClassFile.Cond) (v w : zV) (S : List zV) (tgt nx : Nat) (A : zA) : Bool :=
  if v.1 = 0 ∧ w.1 = 0 then
    (if zk_inb A.2.2.1 v (-2147483648) 2147483647 && zk_inb A.2.2.1 w (-2147483648) 2147483647 then
      (match zk_asm c A.2.2.1 v w with | none => true | some P => K tgt (zk_sp P S A)) && (match zk_asm (zk_ng c) A.2.2.1 v w with | none => true | some P => K nx (zk_sp P S A))
    else K tgt (zk_sp A.2.2.1 S A) && K nx (zk_sp A.2.2.1 S A))
  else false
section
variable {p : Program} {l : Launch} {e : Env} {R : Room} {s : State} {m : MethodId} {args : Array Value} {below : List Frame} {meth : Method} {c : Code} {Q : State → Prop} {cc : ByteArray} {pc : Nat} {D : zD} {E : zE} {A : zA} {K : Nat → zA → Bool}
theorem zk_I_sp {r : Nat → Int} {ty : Nat → Nat} {H : Heap} {locs : List Loc} {ls : Array Slot} {st : List Value} {P : zP} {S : List zV} (h : zk_I D E A r ty H locs ls st) (hP : zk_P r P) : zk_I D E (zk_sp P S A) r ty H locs ls (S.map (zk_c r)) := by
  obtain ⟨h1, h2, h3, h4⟩ := h
  exact ⟨h1, rfl, hP, h4⟩
theorem zk_row_br (hK : ∀ (n : Nat) (A : zA), K n A = true → zk_W p l e R s m args below meth c Q D E n A) {cd : ClassFile.Cond} {v w : zV} {S : List zV} {tgt nx : Nat} (hb : zk_br K cd v w S tgt nx A = true)
    (row : ∀ {H : Heap} {locs : List Loc} {cells slots : Nat} {ls : Array Slot} {r : Nat → Int} {x y : Int32}, r 0 = 0 → zk_c r v = .int x → zk_c r w = .int y → (zk_mc cd x y → W p l e R s m args below meth c H locs cells slots Q (F0 m tgt ls (S.map (zk_c r)))) → (¬ zk_mc cd x y → W p l e R s m args below meth c H locs cells slots Q (F0 m nx ls (S.map (zk_c r)))) → W p l e R s m args below meth c H locs cells slots Q (F0 m pc ls (A.2.1.map (zk_c r)))) : zk_W p l e R s m args below meth c Q D E pc A := by
  intro r ty H locs ls st h
  have h2 := h.2.1
  subst h2
  unfold zk_br at hb
  split at hb
  rotate_left
  · cases hb
  rename_i ht
  have hP := h.2.2.1
  have h0 := h.2.2.2.2.2.2.1
  have ev : zk_c r v = .int (Int32.ofInt (zk_n r v)) := by unfold zk_c; rw [ht.1]; rfl
  have ew : zk_c r w = .int (Int32.ofInt (zk_n r w)) := by unfold zk_c; rw [ht.2]; rfl
  split at hb
  · rename_i hin
    simp only [Bool.and_eq_true] at hin hb
    have i1 := zk_inb_ok hP hin.1
    have i2 := zk_inb_ok hP hin.2
    refine row h0 ev ew (fun hc => ?_) (fun hc => ?_)
    · obtain ⟨P1, e1, g1⟩ := zk_asm_ok hP h0 ((zk_mc_cd i1 i2).mp hc)
      have hb1 := hb.1
      rw [e1] at hb1
      exact hK _ _ hb1 r ty H locs ls _ (zk_I_sp h g1)
    · obtain ⟨P1, e1, g1⟩ := zk_asm_ok hP h0 (zk_cd_ng (fun q => hc ((zk_mc_cd i1 i2).mpr q)))
      have hb1 := hb.2
      rw [e1] at hb1
      exact hK _ _ hb1 r ty H locs ls _ (zk_I_sp h g1)
  · simp only [Bool.and_eq_true] at hb
    exact row h0 ev ew (fun _ => hK _ _ hb.1 r ty H locs ls _ (zk_I_sp h hP)) (fun _ => hK _ _ hb.2 r ty H locs ls _ (zk_I_sp h hP))
/-- a switch over a row of numbers -/
def zk_swl (K : Nat → zA → Bool) (v : zV) (S : List zV) (pc : Nat) (lo : Int) (A : zA) : List Int → Bool
  | [] => true
  | o :: l => decide (0 ≤ (pc : Int) + o) && (match zk_eq A.2.2.1 v (0, 0, lo) with | none => true | some P => K ((pc : Int) + o).toNat (zk_sp P S A)) && zk_swl K v S pc (lo + 1) A l
def zk_sw (K : Nat → zA → Bool) (v : zV) (S : List zV) (pc : Nat) (d lo hi : Int) (offs : Array Int) (A : zA) : Bool :=
  decide (v.1 = 0) && zk_inb A.2.2.1 v (-2147483648) 2147483647 && decide (0 ≤ (pc : Int) + d) && decide (hi - lo + 1 = offs.size) &&
  (match zk_le A.2.2.1 v (0, 0, lo) (-1) with | none => true | some P => K ((pc : Int) + d).toNat (zk_sp P S A)) && (match zk_le A.2.2.1 (0, 0, hi) v (-1) with | none => true | some P => K ((pc : Int) + d).toNat (zk_sp P S A)) && zk_swl K v S pc lo A offs.toList
theorem zk_swl_ok {v : zV} {S : List zV} : ∀ {l : List Int} {lo : Int}, zk_swl K v S pc lo A l = true → ∀ (j : Nat) (o : Int), l[j]? = some o → 0 ≤ (pc : Int) + o ∧ ∀ r : Nat → Int, zk_P r A.2.2.1 → r 0 = 0 → zk_n r v = lo + j → ∃ P, zk_P r P ∧ K ((pc : Int) + o).toNat (zk_sp P S A) = true
  | [], _, _, j, o, ho => by simp at ho
  | x :: l, lo, h, 0, o, ho => by
    simp only [zk_swl, Bool.and_eq_true, decide_eq_true_eq] at h
    simp only [List.getElem?_cons_zero, Option.some.injEq] at ho
    subst ho
    refine ⟨h.1.1, fun r hP h0 hv => ?_⟩
    obtain ⟨P1, e1, g1⟩ := zk_eq_ok hP (v := v) (w := (0, 0, lo)) (by rw [hv]; unfold zk_n; dsimp only; rw [h0]; omega)
    have h2 := h.1.2
    rw [e1] at h2
    exact ⟨P1, g1, h2⟩
  | x :: l, lo, h, j + 1, o, ho => by
    simp only [zk_swl, Bool.and_eq_true] at h
    simp only [List.getElem?_cons_succ] at ho
    obtain ⟨g1, g2⟩ := zk_swl_ok h.2 j o ho
    exact ⟨g1, fun r hP h0 hv => g2 r hP h0 (by rw [hv]; omega)⟩
theorem zk_row_sw (hx : p.tables.exec = Jvm.exec) (hb : c.code = cc) (hK : ∀ (n : Nat) (A : zA), K n A = true → zk_W p l e R s m args below meth c Q D E n A) {v : zV} {S : List zV} {d lo hi : Int} {offs : Array Int} {len : Nat} (hS : A.2.1 = v :: S) (hd : decode cc pc = .ok (.tableswitch d lo hi offs, len)) (hs : zk_sw K v S pc d lo hi offs A = true) : zk_W p l e R s m args below meth c Q D E pc A := by
  intro r ty H locs ls st h
  have h2 := h.2.1
  subst h2
  simp only [zk_sw, Bool.and_eq_true, decide_eq_true_eq] at hs
  obtain ⟨⟨⟨⟨⟨⟨ht, hin⟩, hd0⟩, hsz⟩, k1⟩, k2⟩, k3⟩ := hs
  have hP := h.2.2.1
  have h0 := h.2.2.2.2.2.2.1
  have i1 := zk_inb_ok hP hin
  have ev : zk_c r v = .int (Int32.ofInt (zk_n r v)) := by unfold zk_c; rw [ht]; rfl
  have ei := zk_i32 i1.1 i1.2
  rw [hS, List.map_cons, ev]
  by_cases c1 : zk_n r v < lo
  · refine lv_tableOut hx hb hd (by rw [ei]; exact Or.inl c1) (Int.toNat_of_nonneg hd0).symm ?_
    obtain ⟨P1, e1, g1⟩ := zk_le_ok hP (v := v) (w := (0, 0, lo)) (c := -1) (by unfold zk_n at c1 ⊢; dsimp only; rw [h0]; omega)
    rw [e1] at k1
    exact hK _ _ k1 r ty H locs ls _ (zk_I_sp h g1)
  · by_cases c2 : hi < zk_n r v
    · refine lv_tableOut hx hb hd (by rw [ei]; exact Or.inr c2) (Int.toNat_of_nonneg hd0).symm ?_
      obtain ⟨P1, e1, g1⟩ := zk_le_ok hP (v := (0, 0, hi)) (w := v) (c := -1) (by unfold zk_n at c2 ⊢; dsimp only; rw [h0]; omega)
      rw [e1] at k2
      exact hK _ _ k2 r ty H locs ls _ (zk_I_sp h g1)
    · have hlt : (zk_n r v - lo).toNat < offs.toList.length := by rw [Array.length_toList]; omega
      obtain ⟨o, ho⟩ : ∃ o, offs.toList[(zk_n r v - lo).toNat]? = some o := ⟨_, List.getElem?_eq_getElem hlt⟩
      obtain ⟨g1, g2⟩ := zk_swl_ok k3 _ o ho
      obtain ⟨P1, g3, g4⟩ := g2 r hP h0 (by omega)
      refine lv_tableIn hx hb hd (by rw [ei]; exact c1) (by rw [ei]; exact c2) (off := o) (by rw [ei, ← Array.getElem?_toList]; exact ho) (Int.toNat_of_nonneg g1).symm ?_
      exact hK _ _ g4 r ty H locs ls _ (zk_I_sp h g3)
end
end
section
/-! THE CHECKER, 8: instructions that don't touch the heap. -/
abbrev zk_nx (A : zA) : Nat := A.2.2.2.2.1
def zk_ap (q : zV × zP) (S : List zV) (A : zA) : zA := (A.1, q.1 :: S, q.2, A.2.2.2.1, (A.2.2.2.2.1 + 1, A.2.2.2.2.2))
def zk_un (o n : Nat) (P : zP) (v : zV) : zV × zP := match o with
  | 0 => if zk_inb P v (-2147483648) 2147483647 then ((1, v.2), P) else zk_nw 1 n (-9223372036854775808) 9223372036854775807 [] P
  | 1 => ((0, v.2), P)
  | _ => if zk_inb P v (-128) 127 then (v, P) else zk_nw 0 n (-128) 127 [] P
def zk_lc (n : Nat) (P : zP) (v w : zV) : zV × zP := ((0, n, 0), ((n, -1, 1) :: P.1, P.2.1, (n, v, w) :: P.2.2.1, P.2.2.2))
section
variable {p : Program} {l : Launch} {e : Env} {R : Room} {s : State} {m : MethodId} {args : Array Value} {below : List Frame} {meth : Method} {c : Code} {Q : State → Prop} {cc : ByteArray} {pc : Nat} {D : zD} {E : zE} {A : zA} {K : Nat → zA → Bool}
theorem zk_okS {n0 : Nat} (h : zk_ok n0 A = true) {v : zV} (hv : v ∈ A.2.1) : v.2.1 < A.2.2.2.2.1 := by
  simp only [zk_ok, zk_fA, Bool.and_eq_true] at h
  exact zk_blt (List.all_eq_true.mp h.2.2.1.1.1.2 v hv)
theorem zk_okP {n0 : Nat} (h : zk_ok n0 A = true) : zk_fP A.2.2.2.2.1 A.2.2.1 = true := by
  simp only [zk_ok, zk_fA, Bool.and_eq_true] at h
  exact h.2.2.1.1.2
theorem zk_ok0 {n0 : Nat} (h : zk_ok n0 A = true) : 0 < A.2.2.2.2.1 := by
  simp only [zk_ok, zk_fA, Bool.and_eq_true] at h
  exact zk_blt h.1
/-- an answer is computed: q instead of what the stack had above S -/
theorem zk_row_ap {q : zV × zP} {S : List zV} {n : Nat} (hok : zk_ok E.2.1.1 A = true) (hS : ∀ v ∈ S, v ∈ A.2.1)
    (row : ∀ {H : Heap} {locs : List Loc} {cells slots : Nat} {ls : Array Slot} {r : Nat → Int}, zk_P r A.2.2.1 → r 0 = 0 → ∃ x : Value, zk_G r A.2.2.2.2.1 q x ∧ (W p l e R s m args below meth c H locs cells slots Q (F0 m n ls (x :: S.map (zk_c r))) → W p l e R s m args below meth c H locs cells slots Q (F0 m pc ls (A.2.1.map (zk_c r)))))
    (k : zk_W p l e R s m args below meth c Q D E n (zk_ap q S A)) : zk_W p l e R s m args below meth c Q D E pc A := by
  intro r ty H locs ls st h
  have h2 := h.2.1
  subst h2
  obtain ⟨x, ⟨z, g1, g2, g3⟩, g4⟩ := row (H := H) (locs := locs) (cells := A.2.2.2.2.2.2.1) (slots := A.2.2.2.2.2.2.2) (ls := ls) h.2.2.1 h.2.2.2.2.2.2.1
  refine g4 ?_
  have hn := zk_I_new (r' := zk_u r A.2.2.2.2.1 z) hok (fun y hy => zk_u_ne hy) h
  have eS : S.map (zk_c (zk_u r A.2.2.2.2.1 z)) = S.map (zk_c r) := by
    apply List.map_congr_left
    intro v hv
    exact zk_c_new (zk_okS hok (hS v hv))
  refine k (zk_u r A.2.2.2.2.1 z) ty H locs ls (x :: S.map (zk_c r)) ?_
  obtain ⟨a1, a2, a3, a4, a5, a6, a7, a8, a9, a10⟩ := hn
  exact ⟨a1, by show x :: _ = (q.1 :: S).map _; rw [List.map_cons, g2, eS], g1, a4, a5, a6, a7, a8, a9, a10⟩
theorem zk_row_bin {o : Nat} {v w : zV} {S : List zV} {n : Nat} (hok : zk_ok E.2.1.1 A = true) (hS : A.2.1 = w :: v :: S) {x : (Nat → Int) → Value} (hx : ∀ r : Nat → Int, zk_P r A.2.2.1 → zk_f o (zk_c r v) (zk_c r w) = some (x r))
    (row : ∀ {H : Heap} {locs : List Loc} {cells slots : Nat} {ls : Array Slot} {r : Nat → Int}, zk_P r A.2.2.1 → (W p l e R s m args below meth c H locs cells slots Q (F0 m n ls (x r :: S.map (zk_c r))) → W p l e R s m args below meth c H locs cells slots Q (F0 m pc ls (zk_c r w :: zk_c r v :: S.map (zk_c r)))))
    (k : zk_W p l e R s m args below meth c Q D E n (zk_ap (zk_bin o A.2.2.2.2.1 A.2.2.1 v w) S A)) : zk_W p l e R s m args below meth c Q D E pc A := by
  refine zk_row_ap hok (fun u hu => by rw [hS]; simp [hu]) ?_ k
  intro H locs cells slots ls r hP h0
  refine ⟨x r, zk_bin_ok (zk_okP hok) hP h0 (zk_okS hok (by rw [hS]; simp)) (zk_okS hok (by rw [hS]; simp)) (hx r hP), fun kk => ?_⟩
  rw [hS, List.map_cons, List.map_cons]
  exact row hP kk
theorem zk_un0_ok {r : Nat → Int} {n : Nat} {P : zP} {v : zV} (hf : zk_fP n P = true) (h : zk_P r P) (hv : v.2.1 < n) : zk_G r n (zk_un 0 n P v) (.long (Int32.ofInt (zk_n r v)).toInt64) := by
  show zk_G r n (if zk_inb P v (-2147483648) 2147483647 then ((1, v.2), P) else zk_nw 1 n (-9223372036854775808) 9223372036854775807 [] P) _
  split
  · rename_i hb
    have hi := zk_inb_ok h hb
    refine zk_G_old hf h hv ?_
    show Value.long (Int64.ofInt (zk_n r v)) = _
    rw [Int32.toInt64_ofInt (by have : Int32.minValue.toInt = -2147483648 := by decide
                                omega) (by have : Int32.maxValue.toInt = 2147483647 := by decide
                                           omega)]
  · exact zk_G_top hf h (zk_tL _)
theorem zk_un1_ok {r : Nat → Int} {n : Nat} {P : zP} {v : zV} (hf : zk_fP n P = true) (h : zk_P r P) (hv : v.2.1 < n) : zk_G r n (zk_un 1 n P v) (.int (Int64.ofInt (zk_n r v)).toInt32) := by
  refine zk_G_old hf h hv ?_
  show Value.int (Int32.ofInt (zk_n r v)) = _
  rw [Int64.toInt32_ofInt]
theorem zk_un2_ok {r : Nat → Int} {n : Nat} {P : zP} {v : zV} (hf : zk_fP n P = true) (h : zk_P r P) (hv : v.2.1 < n) (ht : v.1 = 0) : zk_G r n (zk_un 2 n P v) (.int (Int32.ofInt (zk_n r v)).toInt8.toInt32) := by
  show zk_G r n (if zk_inb P v (-128) 127 then (v, P) else zk_nw 0 n (-128) 127 [] P) _
  split
  · rename_i hb
    have hi := zk_inb_ok h hb
    refine zk_G_old hf h hv ?_
    unfold zk_c
    rw [ht]
    show Value.int (Int32.ofInt (zk_n r v)) = _
    rw [Int32.toInt8_ofInt, Int8.toInt32_ofInt (by have : Int8.minValue.toInt = -128 := by decide
                                                   omega) (by have : Int8.maxValue.toInt = 127 := by decide
                                                              omega)]
  · refine zk_G_top hf h ⟨((Int32.ofInt (zk_n r v)).toInt8).toInt, ?_, ?_, ?_⟩
    · have := ((Int32.ofInt (zk_n r v)).toInt8).minValue_le_toInt
      have e1 : Int8.minValue.toInt = -128 := by decide
      omega
    · have := ((Int32.ofInt (zk_n r v)).toInt8).toInt_le
      have e1 : Int8.maxValue.toInt = 127 := by decide
      omega
    · show Value.int (Int32.ofInt ((Int32.ofInt (zk_n r v)).toInt8).toInt) = _
      rw [Int32.ofInt_int8ToInt]
theorem zk_lc_ok {r : Nat → Int} {n : Nat} {P : zP} {v w : zV} (hf : zk_fP n P = true) (h : zk_P r P) (hv : v.2.1 < n) (hw : w.2.1 < n) (iv : zk_inb P v (-9223372036854775808) 9223372036854775807 = true) (iw : zk_inb P w (-9223372036854775808) 9223372036854775807 = true) : zk_G r n (zk_lc n P v w) (.int (lg_cmp (Int64.ofInt (zk_n r v)) (Int64.ofInt (zk_n r w)))) := by
  have e1 := zk_inb_ok h iv
  have e2 := zk_inb_ok h iw
  have t1 := zk_i64 e1.1 e1.2
  have t2 := zk_i64 e2.1 e2.2
  generalize hx : Int64.ofInt (zk_n r v) = x at *
  generalize hy : Int64.ofInt (zk_n r w) = y at *
  refine ⟨(lg_cmp x y).toInt, ?_, by rw [show (zk_lc n P v w).1 = (0, n, 0) from rfl, zk_c_n]; simp [zk_k], Nat.le_refl n⟩
  have g := zk_P_new (r' := zk_u r n (lg_cmp x y).toInt) hf (fun x hx => zk_u_ne hx) h
  have hval : ((lg_cmp x y).toInt = 1 ∧ y.toInt < x.toInt) ∨ ((lg_cmp x y).toInt = 0 ∧ x.toInt = y.toInt) ∨ ((lg_cmp x y).toInt = -1 ∧ x.toInt < y.toInt) := by
    unfold lg_cmp
    split
    · rename_i h1
      exact Or.inl ⟨by decide, Int64.lt_iff_toInt_lt.mp h1⟩
    · rename_i h1
      split
      · rename_i h2
        exact Or.inr (Or.inl ⟨by decide, by rw [h2]⟩)
      · rename_i h2
        refine Or.inr (Or.inr ⟨by decide, ?_⟩)
        have h3 : ¬ y.toInt < x.toInt := fun q => h1 (Int64.lt_iff_toInt_lt.mpr q)
        have h4 : ¬ x.toInt = y.toInt := fun q => h2 (Int64.toInt_inj.mp q)
        omega
  refine ⟨fun q hq => ?_, g.2.1, fun q hq => ?_, g.2.2.2⟩
  · rcases List.mem_cons.mp hq with rfl | hq
    · rw [zk_u_n]
      dsimp only
      omega
    · exact g.1 q hq
  · rcases List.mem_cons.mp hq with rfl | hq
    · unfold zk_sg
      dsimp only
      rw [zk_u_n, zk_n_new hv, zk_n_new hw, ← t1, ← t2]
      omega
    · exact g.2.2.1 q hq
end
end
section
/-! THE CHECKER, 9: the instructions that don't touch the heap, all of them (printed by wip/tools/gen24.py). -/
theorem zk_i8 {n : Int} (h : -128 ≤ n ∧ n ≤ 127) : (Int8.ofInt n).toInt32 = Int32.ofInt n :=
  Int8.toInt32_ofInt (by have : Int8.minValue.toInt = -128 := by decide
                         omega) (by have : Int8.maxValue.toInt = 127 := by decide
                                    omega)
theorem zk_i16 {n : Int} (h : -32768 ≤ n ∧ n ≤ 32767) : (Int16.ofInt n).toInt32 = Int32.ofInt n :=
  Int16.toInt32_ofInt (by have : Int16.minValue.toInt = -32768 := by decide
                          omega) (by have : Int16.maxValue.toInt = 32767 := by decide
                                     omega)
theorem zk_e0 {r : Nat → Int} {v : zV} (h : v.1 = 0) : zk_c r v = .int (Int32.ofInt (zk_n r v)) := by unfold zk_c; rw [h]; rfl
theorem zk_e1 {r : Nat → Int} {v : zV} (h : v.1 = 1) : zk_c r v = .long (Int64.ofInt (zk_n r v)) := by unfold zk_c; rw [h]; rfl
theorem zk_cat1 {r : Nat → Int} {v : zV} (h : v.1 ≠ 1) : (zk_c r v).category = 1 := by
  have h1 := zk_cat v.1 (zk_n r v)
  have h2 := lv_cat (zk_c r v)
  unfold zk_c at *
  rcases h2 with h2 | h2
  · exact h2
  · rw [h2] at h1
    simp at h1
    exact absurd h1 h
theorem zk_cat2 {r : Nat → Int} {v : zV} (h : v.1 = 1) : (zk_c r v).category = 2 := by rw [zk_e1 h]; rfl
/-- known: v ≠ 0, and it is a number of the machine's -/
def zk_nzm (P : zP) (v : zV) : Bool := zk_nz P v && (if v.1 = 0 then zk_inb P v (-2147483648) 2147483647 else zk_inb P v (-9223372036854775808) 9223372036854775807)
theorem zk_nz32 {r : Nat → Int} {P : zP} (h : zk_P r P) {v : zV} (ht : v.1 = 0) (hb : zk_nzm P v = true) : ¬ Int32.ofInt (zk_n r v) = 0 := by
  simp only [zk_nzm, Bool.and_eq_true, ht, if_true] at hb
  have h1 := zk_nz_ok h hb.1
  have h2 := zk_inb_ok h hb.2
  intro q
  have e1 := zk_i32 h2.1 h2.2
  rw [q] at e1
  exact h1 e1.symm
theorem zk_nz64 {r : Nat → Int} {P : zP} (h : zk_P r P) {v : zV} (ht : v.1 = 1) (hb : zk_nzm P v = true) : ¬ Int64.ofInt (zk_n r v) = 0 := by
  simp only [zk_nzm, Bool.and_eq_true, ht] at hb
  have h1 := zk_nz_ok h hb.1
  have h2 := zk_inb_ok h (by simpa using hb.2)
  intro q
  have e1 := zk_i64 h2.1 h2.2
  rw [q] at e1
  exact h1 e1.symm
section
variable {p : Program} {l : Launch} {e : Env} {R : Room} {s : State} {m : MethodId} {args : Array Value} {below : List Frame} {meth : Method} {c : Code} {Q : State → Prop} {cc : ByteArray} {pc : Nat} {D : zD} {E : zE} {A : zA} {K : Nat → zA → Bool}
theorem zk_to0 {H : Heap} {locs : List Loc} {cells slots n : Nat} {ls : Array Slot} {rest : List Value} {r : Nat → Int} {k : Int} (h0 : r 0 = 0) (kk : W p l e R s m args below meth c H locs cells slots Q (F0 m n ls (zk_c r (0, 0, k) :: rest))) : W p l e R s m args below meth c H locs cells slots Q (F0 m n ls (.int (Int32.ofInt k) :: rest)) := by
  have e : zk_c r (0, 0, k) = .int (Int32.ofInt k) := by simp [zk_c, zk_k, zk_n, h0]
  rw [e] at kk; exact kk
theorem zk_to1 {H : Heap} {locs : List Loc} {cells slots n : Nat} {ls : Array Slot} {rest : List Value} {r : Nat → Int} {k : Int} (h0 : r 0 = 0) (kk : W p l e R s m args below meth c H locs cells slots Q (F0 m n ls (zk_c r (1, 0, k) :: rest))) : W p l e R s m args below meth c H locs cells slots Q (F0 m n ls (.long (Int64.ofInt k) :: rest)) := by
  have e : zk_c r (1, 0, k) = .long (Int64.ofInt k) := by simp [zk_c, zk_k, zk_n, h0]
  rw [e] at kk; exact kk
theorem zk_row_iinc (hx : p.tables.exec = Jvm.exec) (hb : c.code = cc) {i : Nat} {n : Int} (hd : decode cc pc = .ok (.iinc i n, 3)) {v : zV} (hv : zk_find A.1 i = some v) (ht : v.1 = 0) (hi : i < E.1) (k : zk_W p l e R s m args below meth c Q D E (pc + 3) (zk_sl1 i (0, v.2.1, v.2.2 + n) A.2.1 A)) : zk_W p l e R s m args below meth c Q D E pc A := by
  intro r ty H locs ls st h
  obtain ⟨h1, h2, h3⟩ := h
  obtain ⟨j, hj⟩ := List.getElem?_of_mem (List.mem_map.mpr ⟨(i, v), zk_find_mem hv, rfl⟩ : (i, zk_c r v) ∈ A.1.map fun q => (q.1, zk_c r q.2))
  rw [zk_e0 ht] at hj
  refine lv_iinc hx hb hd h1 hj (v := Int32.ofInt (zk_n r (0, v.2.1, v.2.2 + n))) ?_ hi rfl (fun ls' h' => k r ty H locs ls' st ⟨?_, h2, h3⟩)
  · rw [← Int32.ofInt_add]
    unfold zk_n
    congr 1
    dsimp only
    omega
  · rw [zk_filter1] at h'
    exact h'
def zk_plain (CX LX : Nat → Option Int) (nL n0 : Nat) (K : Nat → zA → Bool) (pc : Nat) (A : zA) (i : Instr) (len : Nat) : Bool := match i, len with
  | .iconst n, 1 => K (pc + 1) (zk_pu (0, 0, n) A)
  | .bipush n, 2 => decide (-128 ≤ n ∧ n ≤ 127) && K (pc + 2) (zk_pu (0, 0, n) A)
  | .sipush n, 3 => decide (-32768 ≤ n ∧ n ≤ 32767) && K (pc + 3) (zk_pu (0, 0, n) A)
  | .lconst n, 1 => K (pc + 1) (zk_pu (1, 0, ((n : Nat) : Int)) A)
  | .ldc i, 2 => (match CX i with | some k => K (pc + 2) (zk_pu (0, 0, k) A) | none => false)
  | .ldc_w i, 3 => (match CX i with | some k => K (pc + 3) (zk_pu (0, 0, k) A) | none => false)
  | .ldc2_w i, 3 => (match LX i with | some k => K (pc + 3) (zk_pu (1, 0, k) A) | none => false)
  | .iload i, 2 => (match zk_find A.1 i with | some v => decide (v.1 = 0) && K (pc + 2) (zk_pu v A) | none => false)
  | .iload_n i, 1 => (match zk_find A.1 i.val with | some v => decide (v.1 = 0) && K (pc + 1) (zk_pu v A) | none => false)
  | .lload i, 2 => (match zk_find A.1 i with | some v => decide (v.1 = 1) && K (pc + 2) (zk_pu v A) | none => false)
  | .lload_n i, 1 => (match zk_find A.1 i.val with | some v => decide (v.1 = 1) && K (pc + 1) (zk_pu v A) | none => false)
  | .aload i, 2 => (match zk_find A.1 i with | some v => decide (v.1 = 2) && K (pc + 2) (zk_pu v A) | none => false)
  | .aload_n i, 1 => (match zk_find A.1 i.val with | some v => decide (v.1 = 2) && K (pc + 1) (zk_pu v A) | none => false)
  | .istore i, 2 => (match A.2.1 with | v :: S => decide (v.1 = 0) && (Nat.blt i nL && K (pc + 2) (zk_sl1 i v S A)) | _ => false)
  | .istore_n i, 1 => (match A.2.1 with | v :: S => decide (v.1 = 0) && (Nat.blt i.val nL && K (pc + 1) (zk_sl1 i.val v S A)) | _ => false)
  | .lstore i, 2 => (match A.2.1 with | v :: S => decide (v.1 = 1) && (Nat.blt (i + 1) nL && K (pc + 2) (zk_sl2 i v S A)) | _ => false)
  | .lstore_n i, 1 => (match A.2.1 with | v :: S => decide (v.1 = 1) && (Nat.blt (i.val + 1) nL && K (pc + 1) (zk_sl2 i.val v S A)) | _ => false)
  | .astore i, 2 => (match A.2.1 with | v :: S => decide (v.1 = 2) && (Nat.blt i nL && K (pc + 2) (zk_sl1 i v S A)) | _ => false)
  | .astore_n i, 1 => (match A.2.1 with | v :: S => decide (v.1 = 2) && (Nat.blt i.val nL && K (pc + 1) (zk_sl1 i.val v S A)) | _ => false)
  | .iinc i n, 3 => (match zk_find A.1 i with | some v => decide (v.1 = 0) && (Nat.blt i nL && K (pc + 3) (zk_sl1 i (0, v.2.1, v.2.2 + n) A.2.1 A)) | none => false)
  | .dup, 1 => (match A.2.1 with | v :: S => decide (v.1 ≠ 1) && K (pc + 1) (zk_ss (v :: v :: S) A) | _ => false)
  | .pop, 1 => (match A.2.1 with | v :: S => decide (v.1 ≠ 1) && K (pc + 1) (zk_ss S A) | _ => false)
  | .dup2, 1 => (match A.2.1 with | v :: w :: S => decide (v.1 ≠ 1) && (decide (w.1 ≠ 1) && K (pc + 1) (zk_ss (v :: w :: v :: w :: S) A)) | _ => false)
  | .pop2, 1 => (match A.2.1 with | v :: S => decide (v.1 = 1) && K (pc + 1) (zk_ss S A) | _ => false)
  | .goto o, 3 => decide (0 ≤ (pc : Int) + o) && K ((pc : Int) + o).toNat A
  | .iadd, 1 => (match A.2.1 with | w :: v :: S => decide (v.1 = 0) && (decide (w.1 = 0) && ((zk_ok n0 A && K (pc + 1) (zk_ap (zk_bin 0 A.2.2.2.2.1 A.2.2.1 v w) S A)))) | _ => false)
  | .isub, 1 => (match A.2.1 with | w :: v :: S => decide (v.1 = 0) && (decide (w.1 = 0) && ((zk_ok n0 A && K (pc + 1) (zk_ap (zk_bin 1 A.2.2.2.2.1 A.2.2.1 v w) S A)))) | _ => false)
  | .imul, 1 => (match A.2.1 with | w :: v :: S => decide (v.1 = 0) && (decide (w.1 = 0) && ((zk_ok n0 A && K (pc + 1) (zk_ap (zk_bin 2 A.2.2.2.2.1 A.2.2.1 v w) S A)))) | _ => false)
  | .idiv, 1 => (match A.2.1 with | w :: v :: S => decide (v.1 = 0) && (decide (w.1 = 0) && (zk_nzm A.2.2.1 w && (zk_ok n0 A && K (pc + 1) (zk_ap (zk_bin 3 A.2.2.2.2.1 A.2.2.1 v w) S A)))) | _ => false)
  | .irem, 1 => (match A.2.1 with | w :: v :: S => decide (v.1 = 0) && (decide (w.1 = 0) && (zk_nzm A.2.2.1 w && (zk_ok n0 A && K (pc + 1) (zk_ap (zk_bin 4 A.2.2.2.2.1 A.2.2.1 v w) S A)))) | _ => false)
  | .iand, 1 => (match A.2.1 with | w :: v :: S => decide (v.1 = 0) && (decide (w.1 = 0) && ((zk_ok n0 A && K (pc + 1) (zk_ap (zk_bin 5 A.2.2.2.2.1 A.2.2.1 v w) S A)))) | _ => false)
  | .ior, 1 => (match A.2.1 with | w :: v :: S => decide (v.1 = 0) && (decide (w.1 = 0) && ((zk_ok n0 A && K (pc + 1) (zk_ap (zk_bin 6 A.2.2.2.2.1 A.2.2.1 v w) S A)))) | _ => false)
  | .ishl, 1 => (match A.2.1 with | w :: v :: S => decide (v.1 = 0) && (decide (w.1 = 0) && ((zk_ok n0 A && K (pc + 1) (zk_ap (zk_bin 8 A.2.2.2.2.1 A.2.2.1 v w) S A)))) | _ => false)
  | .ishr, 1 => (match A.2.1 with | w :: v :: S => decide (v.1 = 0) && (decide (w.1 = 0) && ((zk_ok n0 A && K (pc + 1) (zk_ap (zk_bin 9 A.2.2.2.2.1 A.2.2.1 v w) S A)))) | _ => false)
  | .iushr, 1 => (match A.2.1 with | w :: v :: S => decide (v.1 = 0) && (decide (w.1 = 0) && ((zk_ok n0 A && K (pc + 1) (zk_ap (zk_bin 10 A.2.2.2.2.1 A.2.2.1 v w) S A)))) | _ => false)
  | .ladd, 1 => (match A.2.1 with | w :: v :: S => decide (v.1 = 1) && (decide (w.1 = 1) && ((zk_ok n0 A && K (pc + 1) (zk_ap (zk_bin 20 A.2.2.2.2.1 A.2.2.1 v w) S A)))) | _ => false)
  | .lsub, 1 => (match A.2.1 with | w :: v :: S => decide (v.1 = 1) && (decide (w.1 = 1) && ((zk_ok n0 A && K (pc + 1) (zk_ap (zk_bin 21 A.2.2.2.2.1 A.2.2.1 v w) S A)))) | _ => false)
  | .lmul, 1 => (match A.2.1 with | w :: v :: S => decide (v.1 = 1) && (decide (w.1 = 1) && ((zk_ok n0 A && K (pc + 1) (zk_ap (zk_bin 22 A.2.2.2.2.1 A.2.2.1 v w) S A)))) | _ => false)
  | .ldiv, 1 => (match A.2.1 with | w :: v :: S => decide (v.1 = 1) && (decide (w.1 = 1) && (zk_nzm A.2.2.1 w && (zk_ok n0 A && K (pc + 1) (zk_ap (zk_bin 23 A.2.2.2.2.1 A.2.2.1 v w) S A)))) | _ => false)
  | .lrem, 1 => (match A.2.1 with | w :: v :: S => decide (v.1 = 1) && (decide (w.1 = 1) && (zk_nzm A.2.2.1 w && (zk_ok n0 A && K (pc + 1) (zk_ap (zk_bin 24 A.2.2.2.2.1 A.2.2.1 v w) S A)))) | _ => false)
  | .land, 1 => (match A.2.1 with | w :: v :: S => decide (v.1 = 1) && (decide (w.1 = 1) && ((zk_ok n0 A && K (pc + 1) (zk_ap (zk_bin 25 A.2.2.2.2.1 A.2.2.1 v w) S A)))) | _ => false)
  | .lor, 1 => (match A.2.1 with | w :: v :: S => decide (v.1 = 1) && (decide (w.1 = 1) && ((zk_ok n0 A && K (pc + 1) (zk_ap (zk_bin 26 A.2.2.2.2.1 A.2.2.1 v w) S A)))) | _ => false)
  | .lxor, 1 => (match A.2.1 with | w :: v :: S => decide (v.1 = 1) && (decide (w.1 = 1) && ((zk_ok n0 A && K (pc + 1) (zk_ap (zk_bin 27 A.2.2.2.2.1 A.2.2.1 v w) S A)))) | _ => false)
  | .lshl, 1 => (match A.2.1 with | w :: v :: S => decide (v.1 = 1) && (decide (w.1 = 0) && ((zk_ok n0 A && K (pc + 1) (zk_ap (zk_bin 28 A.2.2.2.2.1 A.2.2.1 v w) S A)))) | _ => false)
  | .lshr, 1 => (match A.2.1 with | w :: v :: S => decide (v.1 = 1) && (decide (w.1 = 0) && ((zk_ok n0 A && K (pc + 1) (zk_ap (zk_bin 29 A.2.2.2.2.1 A.2.2.1 v w) S A)))) | _ => false)
  | .lushr, 1 => (match A.2.1 with | w :: v :: S => decide (v.1 = 1) && (decide (w.1 = 0) && ((zk_ok n0 A && K (pc + 1) (zk_ap (zk_bin 30 A.2.2.2.2.1 A.2.2.1 v w) S A)))) | _ => false)
  | .i2l, 1 => (match A.2.1 with | v :: S => decide (v.1 = 0) && (zk_ok n0 A && K (pc + 1) (zk_ap (zk_un 0 A.2.2.2.2.1 A.2.2.1 v) S A)) | _ => false)
  | .l2i, 1 => (match A.2.1 with | v :: S => decide (v.1 = 1) && (zk_ok n0 A && K (pc + 1) (zk_ap (zk_un 1 A.2.2.2.2.1 A.2.2.1 v) S A)) | _ => false)
  | .i2b, 1 => (match A.2.1 with | v :: S => decide (v.1 = 0) && (zk_ok n0 A && K (pc + 1) (zk_ap (zk_un 2 A.2.2.2.2.1 A.2.2.1 v) S A)) | _ => false)
  | .lcmp, 1 => (match A.2.1 with | w :: v :: S => decide (v.1 = 1) && (decide (w.1 = 1) && (zk_inb A.2.2.1 v (-9223372036854775808) 9223372036854775807 && (zk_inb A.2.2.1 w (-9223372036854775808) 9223372036854775807 && (zk_ok n0 A && K (pc + 1) (zk_ap (zk_lc A.2.2.2.2.1 A.2.2.1 v w) S A))))) | _ => false)
  | .ifCond cd o, 3 => decide (0 ≤ (pc : Int) + o) && (match A.2.1 with | v :: S => zk_br K cd v (0, 0, 0) S ((pc : Int) + o).toNat (pc + 3) A | _ => false)
  | .if_icmp cd o, 3 => decide (0 ≤ (pc : Int) + o) && (match A.2.1 with | w :: v :: S => zk_br K cd v w S ((pc : Int) + o).toNat (pc + 3) A | _ => false)
  | .tableswitch d lo hi offs, n => (match A.2.1 with | v :: S => zk_sw K v S pc d lo hi offs A | _ => false)
  | _, _ => false
set_option maxHeartbeats 4000000 in
theorem zk_plain_ok {CX LX : Nat → Option Int} {nL n0 : Nat} {own : String} (hx : p.tables.exec = Jvm.exec) (hb : c.code = cc) (hown : s.vm.findClass own = some m.cls) (hE : E.1 = nL) (hn0 : n0 = E.2.1.1) (hCX : ∀ (i : Nat) (k : Int), CX i = some k → (Jvm.Cond.constant own i (Int32.ofInt k)).before args s = true) (hLX : ∀ (i : Nat) (k : Int), LX i = some k → (Jvm.Cond.constantLong own i (Int64.ofInt k)).before args s = true)
    (hK : ∀ (n : Nat) (A : zA), K n A = true → zk_W p l e R s m args below meth c Q D E n A) {i : Instr} {len : Nat} (hd : decode cc pc = .ok (i, len)) (h : zk_plain CX LX nL n0 K pc A i len = true) : zk_W p l e R s m args below meth c Q D E pc A := by
  unfold zk_plain at h
  split at h
  · rename_i n
    exact zk_row_const (fun h0 k => lv_iconst hx hb hd (by simp [zk_n, h0]) k) (hK _ _ h)
  · rename_i n
    simp only [Bool.and_eq_true, decide_eq_true_eq] at h
    exact zk_row_const (fun h0 k => lv_bipush hx hb hd (by rw [zk_i8 h.1]; simp [zk_n, h0]) k) (hK _ _ h.2)
  · rename_i n
    simp only [Bool.and_eq_true, decide_eq_true_eq] at h
    exact zk_row_const (fun h0 k => lv_sipush hx hb hd (by rw [zk_i16 h.1]; simp [zk_n, h0]) k) (hK _ _ h.2)
  · rename_i n
    exact zk_row_const (fun h0 k => lv_lconst hx hb hd (by simp [zk_n, h0, Int64.ofInt_eq_ofNat]) k) (hK _ _ h)
  · rename_i i
    split at h
    · rename_i k hk
      exact zk_row_const (fun h0 kk => lv_ldc hx hb hown (hCX i k hk) hd (zk_to0 h0 kk)) (hK _ _ h)
    · cases h
  · rename_i i
    split at h
    · rename_i k hk
      exact zk_row_const (fun h0 kk => lv_ldcw hx hb hown (hCX i k hk) hd (zk_to0 h0 kk)) (hK _ _ h)
    · cases h
  · rename_i i
    split at h
    · rename_i k hk
      exact zk_row_const (fun h0 kk => lv_ldc2 hx hb hown (hLX i k hk) hd (zk_to1 h0 kk)) (hK _ _ h)
    · cases h
  · rename_i i
    split at h
    · rename_i v hv
      simp only [Bool.and_eq_true, decide_eq_true_eq] at h
      exact zk_row_load hv (fun hx1 hl kk => by obtain ⟨z, rfl⟩ := hx1; rw [h.1] at hl kk; exact lv_iload hx hb hd hl kk) (hK _ _ h.2)
    · cases h
  · rename_i i
    split at h
    · rename_i v hv
      simp only [Bool.and_eq_true, decide_eq_true_eq] at h
      exact zk_row_load hv (fun hx1 hl kk => by obtain ⟨z, rfl⟩ := hx1; rw [h.1] at hl kk; exact lv_iload_n hx hb hd rfl hl kk) (hK _ _ h.2)
    · cases h
  · rename_i i
    split at h
    · rename_i v hv
      simp only [Bool.and_eq_true, decide_eq_true_eq] at h
      exact zk_row_load hv (fun hx1 hl kk => by obtain ⟨z, rfl⟩ := hx1; rw [h.1] at hl kk; exact lv_lload hx hb hd hl kk) (hK _ _ h.2)
    · cases h
  · rename_i i
    split at h
    · rename_i v hv
      simp only [Bool.and_eq_true, decide_eq_true_eq] at h
      exact zk_row_load hv (fun hx1 hl kk => by obtain ⟨z, rfl⟩ := hx1; rw [h.1] at hl kk; exact lv_lload_n hx hb hd rfl hl kk) (hK _ _ h.2)
    · cases h
  · rename_i i
    split at h
    · rename_i v hv
      simp only [Bool.and_eq_true, decide_eq_true_eq] at h
      exact zk_row_load hv (fun hx1 hl kk => by obtain ⟨z, rfl⟩ := hx1; rw [h.1] at hl kk; exact lv_aload hx hb hd hl kk) (hK _ _ h.2)
    · cases h
  · rename_i i
    split at h
    · rename_i v hv
      simp only [Bool.and_eq_true, decide_eq_true_eq] at h
      exact zk_row_load hv (fun hx1 hl kk => by obtain ⟨z, rfl⟩ := hx1; rw [h.1] at hl kk; exact lv_aload_n hx hb hd rfl hl kk) (hK _ _ h.2)
    · cases h
  · rename_i i
    split at h
    · rename_i v S hS
      simp only [Bool.and_eq_true, decide_eq_true_eq] at h
      exact zk_row_store1 hS (fun hx1 hl kk => by obtain ⟨z, rfl⟩ := hx1; rw [h.1] at kk ⊢; exact lv_istore hx hb hd hl (by rw [hE]; exact zk_blt h.2.1) rfl kk) (hK _ _ h.2.2)
    · cases h
  · rename_i i
    split at h
    · rename_i v S hS
      simp only [Bool.and_eq_true, decide_eq_true_eq] at h
      exact zk_row_store1 hS (fun hx1 hl kk => by obtain ⟨z, rfl⟩ := hx1; rw [h.1] at kk ⊢; exact lv_istore_n hx hb hd rfl hl (by rw [hE]; exact zk_blt h.2.1) rfl kk) (hK _ _ h.2.2)
    · cases h
  · rename_i i
    split at h
    · rename_i v S hS
      simp only [Bool.and_eq_true, decide_eq_true_eq] at h
      exact zk_row_store2 hS (fun hx1 hl kk => by obtain ⟨z, rfl⟩ := hx1; rw [h.1] at kk ⊢; exact lv_lstore hx hb hd hl (by rw [hE]; exact zk_blt h.2.1) rfl kk) (hK _ _ h.2.2)
    · cases h
  · rename_i i
    split at h
    · rename_i v S hS
      simp only [Bool.and_eq_true, decide_eq_true_eq] at h
      exact zk_row_store2 hS (fun hx1 hl kk => by obtain ⟨z, rfl⟩ := hx1; rw [h.1] at kk ⊢; exact lv_lstore_n hx hb hd rfl hl (by rw [hE]; exact zk_blt h.2.1) rfl kk) (hK _ _ h.2.2)
    · cases h
  · rename_i i
    split at h
    · rename_i v S hS
      simp only [Bool.and_eq_true, decide_eq_true_eq] at h
      exact zk_row_store1 hS (fun hx1 hl kk => by obtain ⟨z, rfl⟩ := hx1; rw [h.1] at kk ⊢; exact lv_astore hx hb hd hl (by rw [hE]; exact zk_blt h.2.1) rfl kk) (hK _ _ h.2.2)
    · cases h
  · rename_i i
    split at h
    · rename_i v S hS
      simp only [Bool.and_eq_true, decide_eq_true_eq] at h
      exact zk_row_store1 hS (fun hx1 hl kk => by obtain ⟨z, rfl⟩ := hx1; rw [h.1] at kk ⊢; exact lv_astore_n hx hb hd rfl hl (by rw [hE]; exact zk_blt h.2.1) rfl kk) (hK _ _ h.2.2)
    · cases h
  · rename_i i n
    split at h
    · rename_i v hv
      simp only [Bool.and_eq_true, decide_eq_true_eq] at h
      exact zk_row_iinc hx hb hd hv h.1 (by rw [hE]; exact zk_blt h.2.1) (hK _ _ h.2.2)
    · cases h
  · split at h
    · rename_i v S hS
      simp only [Bool.and_eq_true, decide_eq_true_eq] at h
      exact zk_row_stack (fun kk => by rw [hS]; exact lv_dup hx hb hd (zk_cat1 h.1) kk) (hK _ _ h.2)
    · cases h
  · split at h
    · rename_i v S hS
      simp only [Bool.and_eq_true, decide_eq_true_eq] at h
      exact zk_row_stack (fun kk => by rw [hS]; exact lv_pop hx hb hd (zk_cat1 h.1) kk) (hK _ _ h.2)
    · cases h
  · split at h
    · rename_i v w S hS
      simp only [Bool.and_eq_true, decide_eq_true_eq] at h
      exact zk_row_stack (fun kk => by rw [hS]; exact lv_dup2_11 hx hb hd (zk_cat1 h.1) (zk_cat1 h.2.1) kk) (hK _ _ h.2.2)
    · cases h
  · split at h
    · rename_i v S hS
      simp only [Bool.and_eq_true, decide_eq_true_eq] at h
      exact zk_row_stack (fun kk => by rw [hS]; exact lv_pop2_2 hx hb hd (zk_cat2 h.1) kk) (hK _ _ h.2)
    · cases h
  · rename_i o
    simp only [Bool.and_eq_true, decide_eq_true_eq] at h
    exact zk_row_stack (S := A.2.1) (fun kk => lv_goto hx hb hd (Int.toNat_of_nonneg h.1).symm kk) (hK _ _ h.2)
  · split at h
    · rename_i w v S hS
      simp only [Bool.and_eq_true, decide_eq_true_eq] at h
      exact zk_row_bin (hn0 ▸ h.2.2.1) hS (fun r _ => by rw [zk_e0 h.1, zk_e0 h.2.1]; rfl) (fun hP kk => by rw [zk_e0 h.1, zk_e0 h.2.1]; exact lv_iadd hx hb hd kk) (hK _ _ h.2.2.2)
    · cases h
  · split at h
    · rename_i w v S hS
      simp only [Bool.and_eq_true, decide_eq_true_eq] at h
      exact zk_row_bin (hn0 ▸ h.2.2.1) hS (fun r _ => by rw [zk_e0 h.1, zk_e0 h.2.1]; rfl) (fun hP kk => by rw [zk_e0 h.1, zk_e0 h.2.1]; exact lv_isub hx hb hd kk) (hK _ _ h.2.2.2)
    · cases h
  · split at h
    · rename_i w v S hS
      simp only [Bool.and_eq_true, decide_eq_true_eq] at h
      exact zk_row_bin (hn0 ▸ h.2.2.1) hS (fun r _ => by rw [zk_e0 h.1, zk_e0 h.2.1]; rfl) (fun hP kk => by rw [zk_e0 h.1, zk_e0 h.2.1]; exact lv_imul hx hb hd kk) (hK _ _ h.2.2.2)
    · cases h
  · split at h
    · rename_i w v S hS
      simp only [Bool.and_eq_true, decide_eq_true_eq] at h
      exact zk_row_bin (hn0 ▸ h.2.2.2.1) hS (fun r _ => by rw [zk_e0 h.1, zk_e0 h.2.1]; rfl) (fun hP kk => by rw [zk_e0 h.1, zk_e0 h.2.1]; exact lv_idiv hx hb hd (zk_nz32 hP h.2.1 h.2.2.1) kk) (hK _ _ h.2.2.2.2)
    · cases h
  · split at h
    · rename_i w v S hS
      simp only [Bool.and_eq_true, decide_eq_true_eq] at h
      exact zk_row_bin (hn0 ▸ h.2.2.2.1) hS (fun r _ => by rw [zk_e0 h.1, zk_e0 h.2.1]; rfl) (fun hP kk => by rw [zk_e0 h.1, zk_e0 h.2.1]; exact lv_irem hx hb hd (zk_nz32 hP h.2.1 h.2.2.1) kk) (hK _ _ h.2.2.2.2)
    · cases h
  · split at h
    · rename_i w v S hS
      simp only [Bool.and_eq_true, decide_eq_true_eq] at h
      exact zk_row_bin (hn0 ▸ h.2.2.1) hS (fun r _ => by rw [zk_e0 h.1, zk_e0 h.2.1]; rfl) (fun hP kk => by rw [zk_e0 h.1, zk_e0 h.2.1]; exact lv_iand hx hb hd kk) (hK _ _ h.2.2.2)
    · cases h
  · split at h
    · rename_i w v S hS
      simp only [Bool.and_eq_true, decide_eq_true_eq] at h
      exact zk_row_bin (hn0 ▸ h.2.2.1) hS (fun r _ => by rw [zk_e0 h.1, zk_e0 h.2.1]; rfl) (fun hP kk => by rw [zk_e0 h.1, zk_e0 h.2.1]; exact lv_ior hx hb hd kk) (hK _ _ h.2.2.2)
    · cases h
  · split at h
    · rename_i w v S hS
      simp only [Bool.and_eq_true, decide_eq_true_eq] at h
      exact zk_row_bin (hn0 ▸ h.2.2.1) hS (fun r _ => by rw [zk_e0 h.1, zk_e0 h.2.1]; rfl) (fun hP kk => by rw [zk_e0 h.1, zk_e0 h.2.1]; exact lv_ishl hx hb hd kk) (hK _ _ h.2.2.2)
    · cases h
  · split at h
    · rename_i w v S hS
      simp only [Bool.and_eq_true, decide_eq_true_eq] at h
      exact zk_row_bin (hn0 ▸ h.2.2.1) hS (fun r _ => by rw [zk_e0 h.1, zk_e0 h.2.1]; rfl) (fun hP kk => by rw [zk_e0 h.1, zk_e0 h.2.1]; exact lv_ishr hx hb hd kk) (hK _ _ h.2.2.2)
    · cases h
  · split at h
    · rename_i w v S hS
      simp only [Bool.and_eq_true, decide_eq_true_eq] at h
      exact zk_row_bin (hn0 ▸ h.2.2.1) hS (fun r _ => by rw [zk_e0 h.1, zk_e0 h.2.1]; rfl) (fun hP kk => by rw [zk_e0 h.1, zk_e0 h.2.1]; exact lv_iushr hx hb hd rfl kk) (hK _ _ h.2.2.2)
    · cases h
  · split at h
    · rename_i w v S hS
      simp only [Bool.and_eq_true, decide_eq_true_eq] at h
      exact zk_row_bin (hn0 ▸ h.2.2.1) hS (fun r _ => by rw [zk_e1 h.1, zk_e1 h.2.1]; rfl) (fun hP kk => by rw [zk_e1 h.1, zk_e1 h.2.1]; exact lv_ladd hx hb hd kk) (hK _ _ h.2.2.2)
    · cases h
  · split at h
    · rename_i w v S hS
      simp only [Bool.and_eq_true, decide_eq_true_eq] at h
      exact zk_row_bin (hn0 ▸ h.2.2.1) hS (fun r _ => by rw [zk_e1 h.1, zk_e1 h.2.1]; rfl) (fun hP kk => by rw [zk_e1 h.1, zk_e1 h.2.1]; exact lv_lsub hx hb hd kk) (hK _ _ h.2.2.2)
    · cases h
  · split at h
    · rename_i w v S hS
      simp only [Bool.and_eq_true, decide_eq_true_eq] at h
      exact zk_row_bin (hn0 ▸ h.2.2.1) hS (fun r _ => by rw [zk_e1 h.1, zk_e1 h.2.1]; rfl) (fun hP kk => by rw [zk_e1 h.1, zk_e1 h.2.1]; exact lv_lmul hx hb hd kk) (hK _ _ h.2.2.2)
    · cases h
  · split at h
    · rename_i w v S hS
      simp only [Bool.and_eq_true, decide_eq_true_eq] at h
      exact zk_row_bin (hn0 ▸ h.2.2.2.1) hS (fun r _ => by rw [zk_e1 h.1, zk_e1 h.2.1]; rfl) (fun hP kk => by rw [zk_e1 h.1, zk_e1 h.2.1]; exact lv_ldiv hx hb hd (zk_nz64 hP h.2.1 h.2.2.1) kk) (hK _ _ h.2.2.2.2)
    · cases h
  · split at h
    · rename_i w v S hS
      simp only [Bool.and_eq_true, decide_eq_true_eq] at h
      exact zk_row_bin (hn0 ▸ h.2.2.2.1) hS (fun r _ => by rw [zk_e1 h.1, zk_e1 h.2.1]; rfl) (fun hP kk => by rw [zk_e1 h.1, zk_e1 h.2.1]; exact lv_lrem hx hb hd (zk_nz64 hP h.2.1 h.2.2.1) kk) (hK _ _ h.2.2.2.2)
    · cases h
  · split at h
    · rename_i w v S hS
      simp only [Bool.and_eq_true, decide_eq_true_eq] at h
      exact zk_row_bin (hn0 ▸ h.2.2.1) hS (fun r _ => by rw [zk_e1 h.1, zk_e1 h.2.1]; rfl) (fun hP kk => by rw [zk_e1 h.1, zk_e1 h.2.1]; exact lv_land hx hb hd kk) (hK _ _ h.2.2.2)
    · cases h
  · split at h
    · rename_i w v S hS
      simp only [Bool.and_eq_true, decide_eq_true_eq] at h
      exact zk_row_bin (hn0 ▸ h.2.2.1) hS (fun r _ => by rw [zk_e1 h.1, zk_e1 h.2.1]; rfl) (fun hP kk => by rw [zk_e1 h.1, zk_e1 h.2.1]; exact lv_lor hx hb hd kk) (hK _ _ h.2.2.2)
    · cases h
  · split at h
    · rename_i w v S hS
      simp only [Bool.and_eq_true, decide_eq_true_eq] at h
      exact zk_row_bin (hn0 ▸ h.2.2.1) hS (fun r _ => by rw [zk_e1 h.1, zk_e1 h.2.1]; rfl) (fun hP kk => by rw [zk_e1 h.1, zk_e1 h.2.1]; exact lv_lxor hx hb hd kk) (hK _ _ h.2.2.2)
    · cases h
  · split at h
    · rename_i w v S hS
      simp only [Bool.and_eq_true, decide_eq_true_eq] at h
      exact zk_row_bin (hn0 ▸ h.2.2.1) hS (fun r _ => by rw [zk_e1 h.1, zk_e0 h.2.1]; rfl) (fun hP kk => by rw [zk_e1 h.1, zk_e0 h.2.1]; exact lv_lshl hx hb hd rfl kk) (hK _ _ h.2.2.2)
    · cases h
  · split at h
    · rename_i w v S hS
      simp only [Bool.and_eq_true, decide_eq_true_eq] at h
      exact zk_row_bin (hn0 ▸ h.2.2.1) hS (fun r _ => by rw [zk_e1 h.1, zk_e0 h.2.1]; rfl) (fun hP kk => by rw [zk_e1 h.1, zk_e0 h.2.1]; exact lv_lshr hx hb hd rfl kk) (hK _ _ h.2.2.2)
    · cases h
  · split at h
    · rename_i w v S hS
      simp only [Bool.and_eq_true, decide_eq_true_eq] at h
      exact zk_row_bin (hn0 ▸ h.2.2.1) hS (fun r _ => by rw [zk_e1 h.1, zk_e0 h.2.1]; rfl) (fun hP kk => by rw [zk_e1 h.1, zk_e0 h.2.1]; exact lv_lushr hx hb hd rfl kk) (hK _ _ h.2.2.2)
    · cases h
  · split at h
    · rename_i v S hS
      simp only [Bool.and_eq_true, decide_eq_true_eq] at h
      have hok : zk_ok E.2.1.1 A = true := hn0 ▸ h.2.1
      refine zk_row_ap hok (fun u hu => by rw [hS]; simp [hu]) (fun hP h0 => ⟨_, zk_un0_ok (zk_okP hok) hP (zk_okS hok (by rw [hS]; simp)), fun kk => ?_⟩) (hK _ _ h.2.2)
      rw [hS, List.map_cons, zk_e0 h.1]
      exact lv_i2l hx hb hd rfl kk
    · cases h
  · split at h
    · rename_i v S hS
      simp only [Bool.and_eq_true, decide_eq_true_eq] at h
      have hok : zk_ok E.2.1.1 A = true := hn0 ▸ h.2.1
      refine zk_row_ap hok (fun u hu => by rw [hS]; simp [hu]) (fun hP h0 => ⟨_, zk_un1_ok (zk_okP hok) hP (zk_okS hok (by rw [hS]; simp)), fun kk => ?_⟩) (hK _ _ h.2.2)
      rw [hS, List.map_cons, zk_e1 h.1]
      exact lv_l2i hx hb hd rfl kk
    · cases h
  · split at h
    · rename_i v S hS
      simp only [Bool.and_eq_true, decide_eq_true_eq] at h
      have hok : zk_ok E.2.1.1 A = true := hn0 ▸ h.2.1
      refine zk_row_ap hok (fun u hu => by rw [hS]; simp [hu]) (fun hP h0 => ⟨_, zk_un2_ok (zk_okP hok) hP (zk_okS hok (by rw [hS]; simp)) h.1, fun kk => ?_⟩) (hK _ _ h.2.2)
      rw [hS, List.map_cons, zk_e0 h.1]
      exact lv_i2b hx hb hd rfl kk
    · cases h
  · split at h
    · rename_i w v S hS
      simp only [Bool.and_eq_true, decide_eq_true_eq] at h
      have hok : zk_ok E.2.1.1 A = true := hn0 ▸ h.2.2.2.2.1
      refine zk_row_ap hok (fun u hu => by rw [hS]; simp [hu]) (fun hP h0 => ⟨_, zk_lc_ok (zk_okP hok) hP (zk_okS hok (by rw [hS]; simp)) (zk_okS hok (by rw [hS]; simp)) h.2.2.1 h.2.2.2.1, fun kk => ?_⟩) (hK _ _ h.2.2.2.2.2)
      rw [hS, List.map_cons, List.map_cons, zk_e1 h.1, zk_e1 h.2.1]
      exact W.lcmp hx hb hd kk
    · cases h
  · rename_i cd o
    simp only [Bool.and_eq_true, decide_eq_true_eq] at h
    obtain ⟨ho, h⟩ := h
    split at h
    · rename_i v S hS
      refine zk_row_br hK h (fun {H locs cells slots ls r x y} h0 ev ew kt kf => ?_)
      rw [hS, List.map_cons, ev]
      have ey : y = 0 := by
        have e1 : zk_c r (0, 0, 0) = .int (Int32.ofInt (r 0 + 0)) := rfl
        rw [e1, h0] at ew
        injection ew with e2
        rw [← e2]
        rfl
      subst ey
      have ht := (Int.toNat_of_nonneg ho).symm
      cases cd <;> simp only [zk_mc] at kt kf
      · exact lv_if_eq hx hb hd ht kt kf
      · exact lv_if_ne hx hb hd ht kt (fun q => kf (fun q2 => q2 q))
      · exact lv_if_lt hx hb hd ht kt kf
      · exact lv_if_ge hx hb hd ht kt kf
      · exact lv_if_gt hx hb hd ht kt kf
      · exact lv_if_le hx hb hd ht kt kf
    · cases h
  · rename_i cd o
    simp only [Bool.and_eq_true, decide_eq_true_eq] at h
    obtain ⟨ho, h⟩ := h
    split at h
    · rename_i w v S hS
      refine zk_row_br hK h (fun {H locs cells slots ls r x y} h0 ev ew kt kf => ?_)
      rw [hS, List.map_cons, List.map_cons, ev, ew]
      have ht := (Int.toNat_of_nonneg ho).symm
      cases cd <;> simp only [zk_mc] at kt kf
      · exact lv_icmp_eq hx hb hd ht kt kf
      · exact lv_icmp_ne hx hb hd ht kt (fun q => kf (fun q2 => q2 q))
      · exact lv_icmp_lt hx hb hd ht kt kf
      · exact lv_icmp_ge hx hb hd ht kt kf
      · exact lv_icmp_gt hx hb hd ht kt kf
      · exact lv_icmp_le hx hb hd ht kt kf
    · cases h
  · rename_i d lo hi offs
    split at h
    · rename_i v S hS
      exact zk_row_sw hx hb hK hS hd h
    · cases h
  · cases h
end
end
section
/-! THE CHECKER, 10: what is read off the heap. -/
def zk_cn (cl : List vw_C) (ci : Nat) : String := match cl[ci]? with | some q => q.1 | none => ""
/-- what the places of an array of a kind are -/
def zk_et (cl : List vw_C) (k : Nat) : FieldType := match k with
  | 1 => .int | 2 => .byte | 3 => .boolean | 4 => .long | k => .object (zk_cn cl (k - 10))
/-- the tables say of the classes what the checker takes them for -/
def zk_env (D : zD) (cl : List vw_C) (ft : Nat → Nat → FieldType) (s : State) (args : Array Value) : Prop :=
  (∀ (ci : Nat) (q : vw_C), cl[ci]? = some q → u_Kn s q.1 q.2.1 q.2.2 (D.dC ci) (D.dI ci) ∧ (∀ w ∈ u_ws q.1 q.2.1 q.2.2, w.before args s = true) ∧ (∀ k, k < q.2.2 → parseFieldDescriptor (q.2.1 k).2.2.1 = some (ft ci k)) ∧ (∀ a, a < q.2.2 → ∀ b, b < q.2.2 → a ≠ b → (q.2.1 a).2.1 ≠ (q.2.1 b).2.1) ∧ ∀ a, a < q.2.2 → (q.2.1 a).1 = q.1) ∧
  (∀ k : Nat, k ∈ [1, 2, 3, 4, 10, 12, 13, 14, 19] → ∃ (kA : Class) (comp : ClassId), s.vm.classes[D.cA k]? = some kA ∧ kA.kind = .array comp (zk_et cl k) ∧ (10 ≤ k → s.vm.findClass (zk_cn cl (k - 10)) = some comp) ∧ s.vm.findClass ("[" ++ (zk_et cl k).toString) = some (D.cA k)) ∧
  (∀ t : Nat, (D.TT t).1 ≠ 0 → (D.TT t).1 ≠ 9 → (D.TT t).1 ∈ [1, 2, 3, 4, 10, 12, 13, 14, 19]) ∧
  ∀ t : Nat, (D.TT t).1 = 0 → ∃ q : vw_C, cl[(D.TT t).2.1]? = some q ∧ (D.TT t).2.2.length = q.2.2
def zk_rtl : List (Nat × Nat) → Nat → Option Nat
  | [], _ => none
  | q :: l, x => if q.1 = x then some q.2 else zk_rtl l x
theorem zk_rtl_mem : ∀ {l : List (Nat × Nat)} {x t : Nat}, zk_rtl l x = some t → (x, t) ∈ l
  | [], _, _, h => by simp [zk_rtl] at h
  | y :: l, x, q, h => by
    unfold zk_rtl at h
    split at h
    · rename_i h1
      cases h
      rw [← h1]
      exact List.mem_cons_self
    · exact List.mem_cons_of_mem _ (zk_rtl_mem h)
def zk_fml : List (Nat × Nat × Nat × zV) → Nat → Nat → Nat → Option zV
  | [], _, _, _ => none
  | q :: l, x, ci, k => if q.1 = x ∧ q.2.1 = ci ∧ q.2.2.1 = k then some q.2.2.2 else zk_fml l x ci k
theorem zk_fml_mem : ∀ {l : List (Nat × Nat × Nat × zV)} {x ci k : Nat} {v : zV}, zk_fml l x ci k = some v → (x, ci, k, v) ∈ l
  | [], _, _, _, _, h => by simp [zk_fml] at h
  | y :: l, x, ci, k, q, h => by
    unfold zk_fml at h
    split at h
    · rename_i h1
      cases h
      obtain ⟨a, b, c⟩ := h1
      rw [← a, ← b, ← c]
      exact List.mem_cons_self
    · exact List.mem_cons_of_mem _ (zk_fml_mem h)
def zk_eml : List (Nat × Nat × zV × zV) → Nat → Nat → zV → Option zV
  | [], _, _, _ => none
  | q :: l, x, t, i => if q.1 = x ∧ q.2.1 = t ∧ q.2.2.1.2.1 = i.2.1 ∧ q.2.2.1.2.2 = i.2.2 then some q.2.2.2 else zk_eml l x t i
theorem zk_eml_mem : ∀ {l : List (Nat × Nat × zV × zV)} {x t : Nat} {i v : zV}, zk_eml l x t i = some v → ∃ j : zV, (x, t, j, v) ∈ l ∧ j.2.1 = i.2.1 ∧ j.2.2 = i.2.2
  | [], _, _, _, _, h => by simp [zk_eml] at h
  | y :: l, x, t, i, q, h => by
    unfold zk_eml at h
    split at h
    · rename_i h1
      cases h
      obtain ⟨a, b, c⟩ := h1
      rw [← a, ← b]
      exact ⟨y.2.2.1, List.mem_cons_self, c⟩
    · obtain ⟨j, h1, h2⟩ := zk_eml_mem h
      exact ⟨j, List.mem_cons_of_mem _ h1, h2⟩
def zk_rwl : List (Nat × Nat × List zV) → Nat → Option (Nat × List zV)
  | [], _ => none
  | q :: l, x => if q.1 = x then some q.2 else zk_rwl l x
theorem zk_rwl_mem : ∀ {l : List (Nat × Nat × List zV)} {x : Nat} {q : Nat × List zV}, zk_rwl l x = some q → (x, q) ∈ l
  | [], _, _, h => by simp [zk_rwl] at h
  | y :: l, x, q, h => by
    unfold zk_rwl at h
    split at h
    · rename_i h1
      cases h
      rw [← h1]
      exact List.mem_cons_self
    · exact List.mem_cons_of_mem _ (zk_rwl_mem h)
def zk_lnl : List (Nat × zV) → Nat → Option zV := zk_find
/-- a new symbol for what was read: its interval, or its type -/
def zk_rdP (t n : Nat) (i : Int × Int) (P : zP) : zP := if t = 2 then P else ((n, i.1, i.2) :: P.1, P.2)
def zk_rdT (t n : Nat) (i : Int × Int) (l : List (Nat × Nat)) : List (Nat × Nat) := if t = 2 then (n, i.1.toNat) :: l else l
def zk_rd (t : Nat) (i : Int × Int) (fm : List (Nat × Nat × Nat × zV)) (em : List (Nat × Nat × zV × zV)) (S : List zV) (A : zA) : zA :=
  (A.1, (t, A.2.2.2.2.1, 0) :: S, zk_rdP t A.2.2.2.2.1 i A.2.2.1, (zk_rdT t A.2.2.2.2.1 i A.2.2.2.1.1, fm ++ A.2.2.2.1.2.1, em ++ A.2.2.2.1.2.2.1, A.2.2.2.1.2.2.2), (A.2.2.2.2.1 + 1, A.2.2.2.2.2))
section
variable {D : zD} {E : zE} {A : zA} {r : Nat → Int} {ty : Nat → Nat} {H : Heap} {locs : List Loc} {ls : Array Slot} {st : List Value}
theorem zk_I_rd {t : Nat} {i : Int × Int} {z : Int} {fm : List (Nat × Nat × Nat × zV)} {em : List (Nat × Nat × zV × zV)} {S : List zV} (hok : zk_ok E.2.1.1 A = true) (h : zk_I D E A r ty H locs ls st) (hS : ∀ v ∈ S, v ∈ A.2.1)
    (hz : if t = 2 then 0 ≤ z ∧ ty z.toNat = i.1.toNat + 1 else i.1 ≤ z ∧ z ≤ i.2) (hfm : ∀ q ∈ fm, zk_fm D (zk_u r A.2.2.2.2.1 z) ty H q) (hem : ∀ q ∈ em, zk_em D (zk_u r A.2.2.2.2.1 z) ty H q) :
    zk_I D E (zk_rd t i fm em S A) (zk_u r A.2.2.2.2.1 z) ty H locs ls (zk_k t z :: S.map (zk_c r)) := by
  have hn := zk_I_new (r' := zk_u r A.2.2.2.2.1 z) hok (fun y hy => zk_u_ne hy) h
  have eS : S.map (zk_c (zk_u r A.2.2.2.2.1 z)) = S.map (zk_c r) := by
    apply List.map_congr_left
    intro v hv
    exact zk_c_new (zk_okS hok (hS v hv))
  obtain ⟨a1, a2, a3, a4, a5, a6, a7, a8, a9, a10⟩ := hn
  obtain ⟨b1, b2, b3, b4⟩ := a4
  refine ⟨a1, ?_, ?_, ⟨?_, ?_, ?_, b4⟩, a5, a6, a7, a8, a9, a10⟩
  · show _ = ((t, A.2.2.2.2.1, 0) :: S).map _
    rw [List.map_cons, zk_c_n, eS]
  · show zk_P _ (zk_rdP t A.2.2.2.2.1 i A.2.2.1)
    unfold zk_rdP
    split
    · exact a3
    · rename_i ht
      rw [if_neg ht] at hz
      refine ⟨fun q hq => ?_, a3.2⟩
      rcases List.mem_cons.mp hq with rfl | hq
      · rw [zk_u_n]; exact hz
      · exact a3.1 q hq
  · show ∀ q ∈ zk_rdT t A.2.2.2.2.1 i A.2.2.2.1.1, _
    unfold zk_rdT
    split
    · rename_i ht
      rw [if_pos ht] at hz
      intro q hq
      rcases List.mem_cons.mp hq with rfl | hq
      · unfold zk_rt; rw [zk_u_n]; exact hz
      · exact b1 q hq
    · exact b1
  · intro q hq
    rcases List.mem_append.mp hq with hq | hq
    · exact hfm q hq
    · exact b2 q hq
  · intro q hq
    rcases List.mem_append.mp hq with hq | hq
    · exact hem q hq
    · exact b3 q hq
/-- getfield -/
def zk_get (TT : Nat → zS) (FX : Nat → Option (Nat × Nat)) (n0 : Nat) (K : Nat → zA → Bool) (pc idx : Nat) (A : zA) : Bool :=
  match A.2.1, FX idx with
  | v :: S, some f => decide (v.1 = 2 ∧ v.2.2 = 0) && (match zk_rwl A.2.2.2.1.2.2.2.1 v.2.1 with
    | some q => decide (q.1 = f.1 ∧ q.1 < 1000) && (match q.2[f.2]? with | some u => K (pc + 3) (zk_ss (u :: S) A) | none => false)
    | none => (match zk_fml A.2.2.2.1.2.1 v.2.1 f.1 f.2 with
      | some u => K (pc + 3) (zk_ss (u :: S) A)
      | none => (match zk_rtl A.2.2.2.1.1 v.2.1 with
        | some t => decide ((TT t).1 = 0 ∧ (TT t).2.1 = f.1) && (match (TT t).2.2[f.2]? with
          | some q => zk_ok n0 A && q.2.all (fun i => K (pc + 3) (zk_rd q.1 i [(v.2.1, f.1, f.2, (q.1, A.2.2.2.2.1, 0))] [] S A))
          | none => false)
        | none => false)))
  | _, _ => false
end
section
variable {p : Program} {l : Launch} {e : Env} {R : Room} {s : State} {m : MethodId} {args : Array Value} {below : List Frame} {meth : Method} {c : Code} {Q : State → Prop} {cc : ByteArray} {pc : Nat} {D : zD} {E : zE} {A : zA} {K : Nat → zA → Bool} {cl : List vw_C} {ft : Nat → Nat → FieldType} {own : String} {FX : Nat → Option (Nat × Nat)}
/-- the pool's entries of fields -/
def zk_FX (cl : List vw_C) (FX : Nat → Option (Nat × Nat)) (own : String) (s : State) (args : Array Value) : Prop := ∀ (idx : Nat) (f : Nat × Nat), FX idx = some f → ∃ q : vw_C, cl[f.1]? = some q ∧ f.2 < q.2.2 ∧ (Cond.fieldLink own idx (q.2.1 f.2).1 (q.2.1 f.2).2.1 (q.2.1 f.2).2.2.1).before args s = true
/-- the machine reads field k of a cell of class ci -/
theorem zk_getf (hx : p.tables.exec = Jvm.exec) (hb : c.code = cc) (hown : s.vm.findClass own = some m.cls) (hV : zk_env D cl ft s args) (hFX : zk_FX cl FX own s args) {idx : Nat} {f : Nat × Nat} (hf : FX idx = some f) {H : Heap} {locs : List Loc} {cells slots a : Nat} {ls : Array Slot} {rest : List Value} {x : Value} {cell : Cell} (hc : H[a]? = some cell) (hvm : cell.vm = .none) (hs : cell.slots[D.dI f.1 f.2]? = some x) (hd : decode cc pc = .ok (.getfield idx, 3))
    (k : W p l e R s m args below meth c H locs cells slots Q (F0 m (pc + 3) ls (x :: rest))) : W p l e R s m args below meth c H locs cells slots Q (F0 m pc ls (.ref a :: rest)) := by
  obtain ⟨q, h1, h2, h3⟩ := hFX idx f hf
  obtain ⟨⟨hS, hfc, kC, hkC, hkind⟩, hl, hty, hnm, -⟩ := hV.1 f.1 q h1
  obtain ⟨cf, kf, fi, fd, hi, hsl⟩ := hS f.2 h2
  refine W.getf hx hb hown h3 hi (u_facts hfc hkC (u_lays (fun w hw => hl w hw) (fun w hw => hw) h2) hi).1 hc (by rw [hvm]; exact fun h => by cases h) (v := x) ?_ rfl rfl hd k
  rw [hsl]; exact hs
theorem zk_ref {r : Nat → Int} {v : zV} (h : v.1 = 2 ∧ v.2.2 = 0) : zk_c r v = .ref (r v.2.1).toNat := by
  unfold zk_c zk_n; rw [h.1, h.2, Int.add_zero]; rfl
theorem zk_get_ok {n0 : Nat} (hx : p.tables.exec = Jvm.exec) (hb : c.code = cc) (hown : s.vm.findClass own = some m.cls) (hV : zk_env D cl ft s args) (hFX : zk_FX cl FX own s args) (hn0 : n0 = E.2.1.1) (hK : ∀ (n : Nat) (A : zA), K n A = true → zk_W p l e R s m args below meth c Q D E n A) {idx : Nat} (hd : decode cc pc = .ok (.getfield idx, 3)) (h : zk_get D.TT FX n0 K pc idx A = true) : zk_W p l e R s m args below meth c Q D E pc A := by
  unfold zk_get at h
  split at h
  rotate_left
  · cases h
  rename_i v S f hS hf
  simp only [Bool.and_eq_true, decide_eq_true_eq] at h
  obtain ⟨hv, h⟩ := h
  intro r ty H locs ls st I
  have h2 := I.2.1
  subst h2
  rw [hS, List.map_cons, zk_ref hv]
  obtain ⟨g1, g2, g3, g4, g5⟩ := I.2.2.2.1
  split at h
  · rename_i q hq
    simp only [Bool.and_eq_true, decide_eq_true_eq] at h
    obtain ⟨hc, h⟩ := h
    split at h
    · rename_i u hu
      obtain ⟨-, -, -, cell, c1, c2, c3⟩ := g4 _ (zk_rwl_mem hq)
      rw [if_pos hc.2] at c3
      have c4 := c3.2 _ _ hu
      rw [show ((v.2.1, q) : Nat × Nat × List zV).2.1 = q.1 from rfl, hc.1] at c4
      refine zk_getf hx hb hown hV hFX hf c1 c2 c4 hd ?_
      exact hK _ _ h r ty H locs ls _ (zk_I_ss I)
    · cases h
  · split at h
    · rename_i u hu
      obtain ⟨⟨t, t1, t2, t3, t4⟩, cell, c1, c2⟩ := g2 _ (zk_fml_mem hu)
      have hT := I.2.2.2.2.1.2 _ _ t1
      rw [if_neg (by rw [t2]; decide)] at hT
      have hC := hT.2
      unfold zk_C at hC
      rw [if_pos t2] at hC
      obtain ⟨cell', d1, d2, d3, -⟩ := hC
      cases c1.symm.trans d1
      refine zk_getf hx hb hown hV hFX hf c1 d3 c2 hd ?_
      exact hK _ _ h r ty H locs ls _ (zk_I_ss I)
    · split at h
      rotate_left
      · cases h
      rename_i t ht
      simp only [Bool.and_eq_true, decide_eq_true_eq] at h
      obtain ⟨⟨t2, t3⟩, h⟩ := h
      split at h
      rotate_left
      · cases h
      rename_i q hq
      simp only [Bool.and_eq_true, List.all_eq_true] at h
      obtain ⟨hok, h⟩ := h
      obtain ⟨p1, t1⟩ := g1 _ (zk_rtl_mem ht)
      have hT := I.2.2.2.2.1.2 _ _ t1
      rw [if_neg (by rw [t2]; decide)] at hT
      have hC := hT.2
      unfold zk_C at hC
      rw [if_pos t2] at hC
      obtain ⟨cell, d1, d2, d3, d4⟩ := hC
      obtain ⟨x, x1, z, rfl, i, hi, hz⟩ := d4 _ _ hq
      rw [t3] at x1
      refine zk_getf hx hb hown hV hFX hf d1 d3 x1 hd ?_
      have hok' : zk_ok E.2.1.1 A = true := hn0 ▸ hok
      have hvn : v.2.1 < A.2.2.2.2.1 := zk_okS hok' (by rw [hS]; simp)
      refine hK _ _ (h i hi) _ ty H locs ls _ (zk_I_rd hok' I (fun u hu => by rw [hS]; simp [hu]) hz ?_ (fun q hq => by cases hq))
      intro q' hq'
      rw [List.mem_singleton.mp hq']
      unfold zk_fm
      dsimp only
      rw [zk_u_ne hvn, zk_c_n]
      exact ⟨⟨t, t1, t2, t3, (List.getElem?_eq_some_iff.mp hq).1⟩, cell, d1, x1⟩
end
end
section
/-! THE CHECKER, 11: places of arrays. -/
def zk_els (S : zS) (i : zV) : List zT := match S.2.2 with
  | [q] => [q]
  | l => if i.2.1 = 0 then [l.getD i.2.2.toNat zk_dv] else l
theorem zk_els_ok {ty : Nat → Nat} {S : zS} {i : zV} {r : Nat → Int} (h0 : r 0 = 0) {x : Value} (hx : zk_vt ty x (zk_el S.2.2 (zk_n r i).toNat)) : ∃ q ∈ zk_els S i, zk_vt ty x q := by
  unfold zk_els
  unfold zk_el at hx
  split
  · rename_i q hq
    rw [hq] at hx
    exact ⟨q, List.mem_singleton.mpr rfl, hx⟩
  · rename_i l hl
    split at hx
    · rename_i q hq
      exact absurd hq (hl q)
    · split
      · rename_i e
        have e2 : zk_n r i = i.2.2 := by unfold zk_n; rw [e, h0]; omega
        rw [e2] at hx
        exact ⟨_, List.mem_singleton.mpr rfl, hx⟩
      · rw [List.getD_eq_getElem?_getD] at hx
        cases hg : S.2.2[(zk_n r i).toNat]? with
        | none =>
          rw [hg] at hx
          obtain ⟨z, -, j, hj, -⟩ := hx
          cases hj
        | some q =>
          rw [hg] at hx
          exact ⟨q, List.mem_of_getElem? hg, hx⟩
/-- a load out of an array: ks: the kinds that the instruction takes -/
def zk_ald (TT : Nat → zS) (ks : List Nat) (n0 : Nat) (K : Nat → zA → Bool) (pc : Nat) (A : zA) : Bool :=
  match A.2.1 with
  | i :: v :: S => decide (v.1 = 2 ∧ v.2.2 = 0 ∧ i.1 = 0) && (match zk_rtl A.2.2.2.1.1 v.2.1 with
      | some t => ks.contains (TT t).1 && (zk_inb A.2.2.1 i 0 (((TT t).2.1 : Int) - 1) && (decide ((TT t).2.1 < 2147483648) && (match zk_eml A.2.2.2.1.2.2.1 v.2.1 t i with
        | some u => K (pc + 1) (zk_ss (u :: S) A)
        | none => zk_ok n0 A && (zk_els (TT t) i).all (fun q => q.2.all (fun j => K (pc + 1) (zk_rd q.1 j [] [(v.2.1, t, i, (q.1, A.2.2.2.2.1, 0))] S A))))))
      | none => false)
  | _ => false
def zk_alen (TT : Nat → zS) (K : Nat → zA → Bool) (pc : Nat) (A : zA) : Bool :=
  match A.2.1 with
  | v :: S => decide (v.1 = 2 ∧ v.2.2 = 0) && (match zk_rtl A.2.2.2.1.1 v.2.1 with
      | some t => decide ((TT t).1 ≠ 0 ∧ (TT t).1 ≠ 9 ∧ (TT t).2.1 < 2147483648) && K (pc + 1) (zk_ss ((0, 0, ((TT t).2.1 : Int)) :: S) A)
      | none => (match zk_find A.2.2.2.1.2.2.2.2.1 v.2.1 with
        | some u => decide (u.1 = 0) && K (pc + 1) (zk_ss (u :: S) A)
        | none => false))
  | _ => false
/-- a load out of the script -/
def zk_sld (n0 : Nat) (K : Nat → zA → Bool) (pc : Nat) (A : zA) : Bool :=
  match A.2.1 with
  | i :: v :: S => decide (v.1 = 2 ∧ v.2.2 = 0 ∧ i.1 = 0) && (match zk_find A.2.2.2.1.2.2.2.2.1 v.2.1 with
      | some u => zk_inb A.2.2.1 i 0 2147483647 && (zk_leb A.2.2.1 i u (-1) && (zk_ok n0 A && K (pc + 1) (zk_rd 0 (-2147483648, 2147483647) [] [] S A)))
      | none => false)
  | _ => false
/-- a load out of an array of references that is being made -/
def zk_rld (K : Nat → zA → Bool) (pc : Nat) (A : zA) : Bool :=
  match A.2.1 with
  | i :: v :: S => decide (v.1 = 2 ∧ v.2.2 = 0 ∧ i.1 = 0 ∧ i.2.1 = 0 ∧ 0 ≤ i.2.2 ∧ i.2.2 < 2147483648) && (match zk_rwl A.2.2.2.1.2.2.2.1 v.2.1 with
      | some q => decide (q.1 = 1010 ∨ q.1 = 1012 ∨ q.1 = 1013 ∨ q.1 = 1014 ∨ q.1 = 1019) && (match q.2[i.2.2.toNat]? with | some u => K (pc + 1) (zk_ss (u :: S) A) | none => false)
      | none => false)
  | _ => false
section
variable {p : Program} {l : Launch} {e : Env} {R : Room} {s : State} {m : MethodId} {args : Array Value} {below : List Frame} {meth : Method} {c : Code} {Q : State → Prop} {cc : ByteArray} {pc : Nat} {D : zD} {E : zE} {A : zA} {K : Nat → zA → Bool} {cl : List vw_C} {ft : Nat → Nat → FieldType}
theorem zk_ix {a : Int} {n : Nat} (h1 : 0 ≤ a) (h2 : a ≤ (n : Int) - 1) (hn : n < 2147483648) : ¬ (Int32.ofInt a < 0 ∨ n ≤ (Int32.ofInt a).toNatClampNeg) ∧ (Int32.ofInt a).toNatClampNeg = a.toNat := by
  have e1 := zk_i32 (a := a) (by omega) (by omega)
  have e2 : (Int32.ofInt a).toNatClampNeg = a.toNat := by
    rw [Int32.toNatClampNeg_ofInt_of_le (by omega) (by omega)]
  refine ⟨?_, e2⟩
  rw [e2]
  rintro (h | h)
  · have := Int32.lt_iff_toInt_lt.mp h
    rw [e1] at this
    have e0 : (0 : Int32).toInt = 0 := by decide
    omega
  · omega
theorem zk_isA {k : Nat} (hV : zk_env D cl ft s args) (hk : k ∈ [1, 2, 3, 4, 10, 12, 13, 14, 19]) {cell : Cell} (hc : cell.cls = D.cA k) (hvm : cell.vm = .none) : s.isArrayOf cell (zk_et cl k) := by
  obtain ⟨kA, comp, h1, h2, -⟩ := hV.2.1 k hk
  exact ⟨fun j h => (by rw [hvm] at h; cases h), kA, (by rw [hc]; exact h1), comp, h2⟩
/-- an array of a type, as the machine has it -/
theorem zk_arr {ty : Nat → Nat} {H : Heap} {a t : Nat} (hT : zk_T D ty H) (h1 : ty a = t + 1) (h0 : (D.TT t).1 ≠ 0) (h9 : (D.TT t).1 ≠ 9) : D.ba ≤ a ∧ ∃ cell : Cell, H[a]? = some cell ∧ cell.cls = D.cA (D.TT t).1 ∧ cell.vm = .none ∧ cell.slots.size = (D.TT t).2.1 ∧ ∀ j : Nat, j < (D.TT t).2.1 → ∃ x, cell.slots[j]? = some x ∧ zk_vt ty x (zk_el (D.TT t).2.2 j) := by
  have h := hT.2 a t h1
  rw [if_neg h9] at h
  refine ⟨h.1.1, ?_⟩
  have h2 := h.2
  unfold zk_C at h2
  rw [if_neg h0] at h2
  exact h2
theorem zk_nu {cell : Cell} (h : cell.vm = .none) : cell.vm ≠ .unknown := by rw [h]; exact fun q => by cases q
theorem zk_ald_ok {n0 : Nat} {ks : List Nat} (hks : ∀ k ∈ ks, k ≠ 0 ∧ k ≠ 9) (hV : zk_env D cl ft s args) (hn0 : n0 = E.2.1.1) (hK : ∀ (n : Nat) (A : zA), K n A = true → zk_W p l e R s m args below meth c Q D E n A)
    (row : ∀ {H : Heap} {locs : List Loc} {cells slots a : Nat} {ls : Array Slot} {rest : List Value} {x : Value} {cell : Cell} {j : Int32} {k : Nat}, k ∈ ks → H[a]? = some cell → s.isArrayOf cell (zk_et cl k) → cell.vm ≠ .unknown → ¬ (j < 0 ∨ cell.slots.size ≤ j.toNatClampNeg) → cell.slots[j.toNatClampNeg]? = some x → W p l e R s m args below meth c H locs cells slots Q (F0 m (pc + 1) ls (x :: rest)) → W p l e R s m args below meth c H locs cells slots Q (F0 m pc ls (.int j :: .ref a :: rest)))
    (h : zk_ald D.TT ks n0 K pc A = true) : zk_W p l e R s m args below meth c Q D E pc A := by
  unfold zk_ald at h
  split at h
  rotate_left
  · cases h
  rename_i i v S hS
  simp only [Bool.and_eq_true, decide_eq_true_eq] at h
  obtain ⟨⟨hv1, hv2, hi⟩, h⟩ := h
  split at h
  rotate_left
  · cases h
  rename_i t ht
  simp only [Bool.and_eq_true, decide_eq_true_eq, List.contains_iff_mem] at h
  obtain ⟨hk, hin, hlen, h⟩ := h
  intro r ty H locs ls st I
  have h2 := I.2.1
  subst h2
  rw [hS, List.map_cons, List.map_cons, zk_ref ⟨hv1, hv2⟩, zk_e0 hi]
  obtain ⟨g1, g2, g3, g4, g5⟩ := I.2.2.2.1
  obtain ⟨p1, t1⟩ := g1 _ (zk_rtl_mem ht)
  obtain ⟨k0, k9⟩ := hks _ hk
  obtain ⟨-, cell, d1, d2, d3, d4, d5⟩ := zk_arr I.2.2.2.2.1 t1 k0 k9
  have hb2 := zk_inb_ok I.2.2.1 hin
  have hix := zk_ix hb2.1 hb2.2 hlen
  have hlt : (zk_n r i).toNat < (D.TT t).2.1 := by omega
  split at h
  · rename_i u hu
    obtain ⟨j, hj, j1, j2⟩ := zk_eml_mem hu
    obtain ⟨-, -, -, cell', c1, c2⟩ := g3 _ hj
    cases d1.symm.trans c1
    have ej : zk_n r j = zk_n r i := by unfold zk_n; rw [j1, j2]
    dsimp only at c2
    rw [ej] at c2
    refine row hk d1 (zk_isA hV (hV.2.2.1 t k0 k9) d2 d3) (zk_nu d3) (by rw [d4]; exact hix.1) (by rw [hix.2]; exact c2) ?_
    exact hK _ _ h r ty H locs ls _ (zk_I_ss I)
  · simp only [Bool.and_eq_true, List.all_eq_true] at h
    obtain ⟨hok, h⟩ := h
    obtain ⟨x, x1, x2⟩ := d5 _ hlt
    obtain ⟨q, hq, z, rfl, j, hj, hz⟩ := zk_els_ok I.2.2.2.2.2.2.1 x2
    refine row hk d1 (zk_isA hV (hV.2.2.1 t k0 k9) d2 d3) (zk_nu d3) (by rw [d4]; exact hix.1) (by rw [hix.2]; exact x1) ?_
    have hok' : zk_ok E.2.1.1 A = true := hn0 ▸ hok
    have hvn : v.2.1 < A.2.2.2.2.1 := zk_okS hok' (by rw [hS]; simp)
    have hin' : i.2.1 < A.2.2.2.2.1 := zk_okS hok' (by rw [hS]; simp)
    refine hK _ _ (h q hq j hj) _ ty H locs ls _ (zk_I_rd hok' I (fun u hu => by rw [hS]; simp [hu]) hz (fun q hq => by cases hq) ?_)
    intro q' hq'
    rw [List.mem_singleton.mp hq']
    unfold zk_em
    dsimp only
    rw [zk_u_ne hvn, zk_c_n, zk_n_new hin']
    exact ⟨t1, k0, hb2.1, cell, d1, x1⟩
theorem zk_alen_ok (hx : p.tables.exec = Jvm.exec) (hb : c.code = cc) (hV : zk_env D cl ft s args) (hSC : ∀ (a : Nat) (n : Int), D.SC a n → ∃ cell : Cell, s.heap[a]? = some cell ∧ s.isArrayOf cell .int ∧ cell.vm ≠ .unknown ∧ (cell.slots.size : Int) = n ∧ n ≤ 2147483647 ∧ (∀ j : Nat, j < cell.slots.size → ∃ y : Int32, cell.slots[j]? = some (.int y)) ∧ ∀ (H : Heap) (ty : Nat → Nat), zk_T D ty H → zk_F D E.2.2.1.1 E.2.2.1.2 E.2.2.2.1.1 E.2.2.2.1.2.1 E.2.2.2.1.2.2 ty H → H[a]? = some cell) (hK : ∀ (n : Nat) (A : zA), K n A = true → zk_W p l e R s m args below meth c Q D E n A) (hd : decode cc pc = .ok (.arraylength, 1)) (h : zk_alen D.TT K pc A = true) : zk_W p l e R s m args below meth c Q D E pc A := by
  unfold zk_alen at h
  split at h
  rotate_left
  · cases h
  rename_i v S hS
  simp only [Bool.and_eq_true, decide_eq_true_eq] at h
  obtain ⟨hv, h⟩ := h
  intro r ty H locs ls st I
  have h2 := I.2.1
  subst h2
  rw [hS, List.map_cons, zk_ref hv]
  obtain ⟨g1, g2, g3, g4, g5, g6, g7⟩ := I.2.2.2.1
  split at h
  · rename_i t ht
    simp only [Bool.and_eq_true, decide_eq_true_eq] at h
    obtain ⟨⟨k0, k9, hlen⟩, h⟩ := h
    obtain ⟨p1, t1⟩ := g1 _ (zk_rtl_mem ht)
    obtain ⟨-, cell, d1, d2, d3, d4, d5⟩ := zk_arr I.2.2.2.2.1 t1 k0 k9
    refine W.alen (n := Int32.ofInt ((D.TT t).2.1 : Int)) hx hb d1 (zk_isA hV (hV.2.2.1 t k0 k9) d2 d3) ?_ rfl rfl hd ?_
    · rw [d4, Int32.ofInt_eq_ofNat]
    · have hk := hK _ _ h r ty H locs ls _ (zk_I_ss I)
      rw [List.map_cons, zk_e0 rfl] at hk
      have e1 : zk_n r (0, 0, ((D.TT t).2.1 : Int)) = ((D.TT t).2.1 : Int) := by unfold zk_n; dsimp only; rw [I.2.2.2.2.2.2.1]; omega
      rw [e1] at hk
      exact hk
  · split at h
    rotate_left
    · cases h
    rename_i u hu
    simp only [Bool.and_eq_true, decide_eq_true_eq] at h
    obtain ⟨q1, q2⟩ := g6 _ (zk_find_mem hu)
    obtain ⟨cell, s1, s2, s3, s4, s5, s6, s7⟩ := hSC _ _ q2
    refine W.alen (n := Int32.ofInt (zk_n r u)) hx hb (s7 H ty I.2.2.2.2.1 I.2.2.2.2.2.1) s2 ?_ rfl rfl hd ?_
    · rw [show zk_n r u = _ from s4.symm, Int32.ofInt_eq_ofNat]
    · have hk := hK _ _ h.2 r ty H locs ls _ (zk_I_ss I)
      rw [List.map_cons, zk_e0 h.1] at hk
      exact hk
theorem zk_sld_ok {n0 : Nat} (hx : p.tables.exec = Jvm.exec) (hb : c.code = cc) (hn0 : n0 = E.2.1.1) (hSC : ∀ (a : Nat) (n : Int), D.SC a n → ∃ cell : Cell, s.heap[a]? = some cell ∧ s.isArrayOf cell .int ∧ cell.vm ≠ .unknown ∧ (cell.slots.size : Int) = n ∧ n ≤ 2147483647 ∧ (∀ j : Nat, j < cell.slots.size → ∃ y : Int32, cell.slots[j]? = some (.int y)) ∧ ∀ (H : Heap) (ty : Nat → Nat), zk_T D ty H → zk_F D E.2.2.1.1 E.2.2.1.2 E.2.2.2.1.1 E.2.2.2.1.2.1 E.2.2.2.1.2.2 ty H → H[a]? = some cell) (hK : ∀ (n : Nat) (A : zA), K n A = true → zk_W p l e R s m args below meth c Q D E n A) (hd : decode cc pc = .ok (.iaload, 1)) (h : zk_sld n0 K pc A = true) : zk_W p l e R s m args below meth c Q D E pc A := by
  unfold zk_sld at h
  split at h
  rotate_left
  · cases h
  rename_i i v S hS
  simp only [Bool.and_eq_true, decide_eq_true_eq] at h
  obtain ⟨⟨hv1, hv2, hi⟩, h⟩ := h
  split at h
  rotate_left
  · cases h
  rename_i u hu
  simp only [Bool.and_eq_true] at h
  obtain ⟨hin, hle, hok, h⟩ := h
  intro r ty H locs ls st I
  have h2 := I.2.1
  subst h2
  rw [hS, List.map_cons, List.map_cons, zk_ref ⟨hv1, hv2⟩, zk_e0 hi]
  obtain ⟨g1, g2, g3, g4, g5, g6, g7⟩ := I.2.2.2.1
  obtain ⟨q1, q2⟩ := g6 _ (zk_find_mem hu)
  obtain ⟨cell, s1, s2, s3, s4, s5, s6, s7⟩ := hSC _ _ q2
  have b1 := zk_inb_ok I.2.2.1 hin
  have b2 := zk_leb_ok I.2.2.1 hle
  have hix := zk_ix (a := zk_n r i) (n := cell.slots.size) b1.1 (by dsimp only at s4; omega) (by omega)
  obtain ⟨y, hy⟩ := s6 (zk_n r i).toNat (by dsimp only at s4; omega)
  refine W.iald hx hb (s7 H ty I.2.2.2.2.1 I.2.2.2.2.2.1) s2 s3 hix.1 (v := .int y) (by rw [hix.2]; exact hy) rfl rfl hd ?_
  have hk := hK _ _ h _ ty H locs ls _ (zk_I_rd (z := y.toInt) (hn0 ▸ hok) I (fun u hu => by rw [hS]; simp [hu]) (by rw [if_neg (by decide)]; exact zk_b32 y) (fun q hq => by cases hq) (fun q hq => by cases hq))
  have e1 : zk_k 0 y.toInt = .int y := by simp [zk_k]
  rw [e1] at hk
  exact hk
theorem zk_rld_ok (hx : p.tables.exec = Jvm.exec) (hb : c.code = cc) (hV : zk_env D cl ft s args) (hK : ∀ (n : Nat) (A : zA), K n A = true → zk_W p l e R s m args below meth c Q D E n A) (hd : decode cc pc = .ok (.aaload, 1)) (h : zk_rld K pc A = true) : zk_W p l e R s m args below meth c Q D E pc A := by
  unfold zk_rld at h
  split at h
  rotate_left
  · cases h
  rename_i i v S hS
  simp only [Bool.and_eq_true, decide_eq_true_eq] at h
  obtain ⟨⟨hv1, hv2, hi, hi0, hi1, hi2⟩, h⟩ := h
  split at h
  rotate_left
  · cases h
  rename_i q hq
  simp only [Bool.and_eq_true, decide_eq_true_eq] at h
  obtain ⟨hk, h⟩ := h
  split at h
  rotate_left
  · cases h
  rename_i u hu
  intro r ty H locs ls st I
  have h2 := I.2.1
  subst h2
  rw [hS, List.map_cons, List.map_cons, zk_ref ⟨hv1, hv2⟩, zk_e0 hi]
  obtain ⟨g1, g2, g3, g4, g5⟩ := I.2.2.2.1
  obtain ⟨-, -, -, cell, c1, c2, c3⟩ := g4 _ (zk_rwl_mem hq)
  rw [if_neg (by dsimp only; omega)] at c3
  obtain ⟨c3, c4, c5⟩ := c3
  have e1 : zk_n r i = i.2.2 := by unfold zk_n; rw [hi0, I.2.2.2.2.2.2.1]; omega
  have hlt : i.2.2.toNat < q.2.length := (List.getElem?_eq_some_iff.mp hu).1
  dsimp only at c4
  have hbig : i.2.2 < 2147483648 := hi2
  have e2 : (Int32.ofInt i.2.2).toNatClampNeg = i.2.2.toNat := by rw [Int32.toNatClampNeg_ofInt_of_le (by omega) (by omega)]
  have hm : q.1 - 1000 ∈ [1, 2, 3, 4, 10, 12, 13, 14, 19] := by
    rcases hk with h | h | h | h | h <;> rw [h] <;> decide
  rw [e1]
  refine W.aald hx hb c1 (zk_isA hV hm c3 c2) ?_ (zk_nu c2) ?_ (by rw [e2]; exact c5 _ _ hu) rfl rfl hd ?_
  · rcases hk with h | h | h | h | h <;> rw [h] <;> rfl
  · rw [e2, c4]
    rintro (h | h)
    · have := Int32.lt_iff_toInt_lt.mp h
      rw [zk_i32 (by omega) (by omega)] at this
      have e0 : (0 : Int32).toInt = 0 := by decide
      omega
    · omega
  · exact hK _ _ h r ty H locs ls _ (zk_I_ss I)
end
end
section
/-! THE CHECKER, 12: what is written. -/
/-- of the protected fields and arrays nothing has changed; types only grow -/
def zk_st (D : zD) (PF : List (Nat × Nat)) (PB : List Nat) (ty : Nat → Nat) (H : Heap) (ty' : Nat → Nat) (H' : Heap) : Prop :=
  (∀ a t : Nat, ty a = t + 1 → ty' a = t + 1) ∧ (∀ a t : Nat, ty a = t + 1 → (D.TT t).1 ≠ 0 → t ∈ PB → H'[a]? = H[a]?) ∧
  ∀ a t : Nat, ty a = t + 1 → (D.TT t).1 = 0 → ∀ k : Nat, k < (D.TT t).2.2.length → (t, k) ∈ PF → ∀ c0 c1 : Cell, H[a]? = some c0 → H'[a]? = some c1 → c1.slots[D.dI (D.TT t).2.1 k]? = c0.slots[D.dI (D.TT t).2.1 k]?
/-- the further facts hang on protected things alone -/
def zk_stable (D : zD) (PF : Nat → List (Nat × Nat)) (PB : Nat → List Nat) : Prop := ∀ (j : Nat) (ty ty' : Nat → Nat) (H H' : Heap) (vs : List Int), zk_st D (PF j) (PB j) ty H ty' H' → zk_T D ty H → zk_T D ty' H' → D.OP j ty H vs → D.OP j ty' H' vs
/-- a value fits the kind of a place -/
def zk_cf (P : zP) (rt : List (Nat × Nat)) (w : zV) (q : zT) : Bool := decide (w.1 = q.1) && (if w.1 = 2 then decide (w.2.2 = 0) && (match zk_rtl rt w.2.1 with | some t => q.2.any (fun i => i.1.toNat == t) | none => false) else decide (w.1 < 2) && q.2.any (fun i => zk_inb P w i.1 i.2))
theorem zk_cf_ok {r : Nat → Int} {ty : Nat → Nat} {P : zP} {rt : List (Nat × Nat)} {w : zV} {q : zT} (hP : zk_P r P) (hrt : ∀ q ∈ rt, zk_rt r ty q) (h : zk_cf P rt w q = true) : zk_vt ty (zk_c r w) q := by
  simp only [zk_cf, Bool.and_eq_true, decide_eq_true_eq] at h
  obtain ⟨h1, h⟩ := h
  refine ⟨zk_n r w, by unfold zk_c; rw [h1], ?_⟩
  split at h
  · rename_i h2
    simp only [Bool.and_eq_true, decide_eq_true_eq] at h
    obtain ⟨h3, h⟩ := h
    split at h
    · rename_i t ht
      simp only [List.any_eq_true, beq_iff_eq] at h
      obtain ⟨i, hi, e⟩ := h
      refine ⟨i, hi, ?_⟩
      rw [if_pos (by omega)]
      have g := hrt _ (zk_rtl_mem ht)
      have e1 : zk_n r w = r w.2.1 := by unfold zk_n; omega
      rw [e1, e]
      exact g
    · cases h
  · rename_i h2
    simp only [Bool.and_eq_true, List.any_eq_true] at h
    obtain ⟨-, i, hi, hb⟩ := h
    exact ⟨i, hi, by rw [if_neg (by omega)]; exact zk_inb_ok hP hb⟩
/-- a value that the machine stores as it is -/
def zk_nf (P : zP) (f : FieldType) (w : zV) : Bool := match f with
  | .int => decide (w.1 = 0)
  | .boolean => decide (w.1 = 0) && zk_inb P w 0 1
  | .long => decide (w.1 = 1)
  | .object _ => decide (w.1 = 2)
  | .array _ => decide (w.1 = 2)
  | _ => false
theorem zk_nf_ok {r : Nat → Int} {P : zP} {f : FieldType} {w : zV} (hP : zk_P r P) (h : zk_nf P f w = true) : narrow f (zk_c r w) = zk_c r w ∧ fits f (zk_c r w) = true := by
  unfold zk_nf at h
  split at h
  · simp only [decide_eq_true_eq] at h
    rw [zk_e0 h]; exact ⟨rfl, rfl⟩
  · simp only [Bool.and_eq_true, decide_eq_true_eq] at h
    rw [zk_e0 h.1]
    have h2 := zk_inb_ok hP h.2
    rcases (show zk_n r w = 0 ∨ zk_n r w = 1 by omega) with e | e <;> rw [e] <;> exact ⟨by decide, by decide⟩
  · simp only [decide_eq_true_eq] at h
    rw [zk_e1 h]; exact ⟨rfl, rfl⟩
  · simp only [decide_eq_true_eq] at h
    unfold zk_c; rw [h]; exact ⟨rfl, rfl⟩
  · simp only [decide_eq_true_eq] at h
    unfold zk_c; rw [h]; exact ⟨rfl, rfl⟩
  · cases h
section
variable {D : zD} {cl : List vw_C} {ft : Nat → Nat → FieldType} {s : State} {args : Array Value} {ty : Nat → Nat} {H H' : Heap} {a t : Nat} {cell cell' : Cell}
/-- two fields of a class lie apart -/
theorem zk_apart (hV : zk_env D cl ft s args) {ci : Nat} {q : vw_C} (hq : cl[ci]? = some q) {x y : Nat} (hx : x < q.2.2) (hy : y < q.2.2) (hn : x ≠ y) : D.dI ci x ≠ D.dI ci y := by
  obtain ⟨⟨hS, hfc, kC, hkC, hkind⟩, hl, hty, hnm, -⟩ := hV.1 ci q hq
  obtain ⟨_, _, _, fa, hia, ea⟩ := hS x hx
  obtain ⟨_, _, _, fb, hib, eb⟩ := hS y hy
  rw [← ea, ← eb]
  refine u_apart (u_lays (fun w hw => hl w hw) (fun w hw => hw) hx) (u_lays (fun w hw => hl w hw) (fun w hw => hw) hy) hia hib ?_
  rw [(State.fieldFound?_type hia (hty x hx)).1, (State.fieldFound?_type hib (hty y hy)).1]
  exact hnm x hx y hy hn
/-- the typed heap, one typed cell written -/
theorem zk_T_upd (h : zk_T D ty H) (hs : H'.size = H.size) (ho : ∀ q, q ≠ a → H'[q]? = H[q]?) (ht : ty a = t + 1) (h9 : (D.TT t).1 ≠ 9) (hc : zk_C D ty H' a (D.TT t)) : zk_T D ty H' := by
  refine ⟨by rw [hs]; exact h.1, fun b u hb => ?_⟩
  have g := h.2 b u hb
  by_cases e : b = a
  · subst e
    have e2 : u = t := by omega
    subst e2
    rw [if_neg h9] at g ⊢
    exact ⟨g.1, hc⟩
  · split at g
    · rename_i h1
      rw [if_pos h1]; exact g
    · rename_i h1
      rw [if_neg h1]
      refine ⟨g.1, ?_⟩
      have g2 := g.2
      unfold zk_C at g2 ⊢
      rw [ho b e]
      exact g2
theorem zk_F_upd {F : List (Nat × Nat)} {B : List Nat} {U : Nat → Prop} {t0 : Nat → Nat} {H0 : Heap} (h : zk_F D F B U t0 H0 ty H) (hs : H'.size = H.size) (ho : ∀ q, q ≠ a → H'[q]? = H[q]?) (ht : ty a = t + 1) (hB : (D.TT t).1 ≠ 0 → t ∈ B) (hc : H[a]? = some cell) (hc' : H'[a]? = some cell')
    (hk : (D.TT t).1 = 0 → ∀ k : Nat, k < (D.TT t).2.2.length → (t, k) ∉ F → cell'.slots[D.dI (D.TT t).2.1 k]? = cell.slots[D.dI (D.TT t).2.1 k]?) : zk_F D F B U t0 H0 ty H' := by
  obtain ⟨h1, h2, h3, h4, h5, h6⟩ := h
  refine ⟨by rw [hs]; exact h1, h2, h3, fun b hb hz hu => ?_, fun b u hb h0 hu => ?_, fun b u hb h0 k hk1 hk2 c0 c1 e0 e1 => ?_⟩
  · by_cases e : b = a
    · subst e
      have := h3 b hb hu
      omega
    · rw [ho b e]; exact h4 b hb hz hu
  · by_cases e : b = a
    · subst e
      have e2 := h2 b u hb
      have e3 : u = t := by omega
      subst e3
      exact absurd (hB h0) hu
    · rw [ho b e]; exact h5 b u hb h0 hu
  · by_cases e : b = a
    · subst e
      have e2 := h2 b u hb
      have e3 : u = t := by omega
      subst e3
      cases hc'.symm.trans e1
      rw [hk h0 k hk1 hk2]
      exact h6 b u hb h0 k hk1 hk2 c0 cell e0 hc
    · rw [ho b e] at e1
      exact h6 b u hb h0 k hk1 hk2 c0 c1 e0 e1
theorem zk_st_upd {PF : List (Nat × Nat)} {PB : List Nat} (ho : ∀ q, q ≠ a → H'[q]? = H[q]?) (ht : ty a = t + 1) (hB : (D.TT t).1 ≠ 0 → t ∉ PB) (hc : H[a]? = some cell) (hc' : H'[a]? = some cell') (hk : (D.TT t).1 = 0 → ∀ k : Nat, k < (D.TT t).2.2.length → (t, k) ∈ PF → cell'.slots[D.dI (D.TT t).2.1 k]? = cell.slots[D.dI (D.TT t).2.1 k]?) : zk_st D PF PB ty H ty H' := by
  refine ⟨fun _ _ h => h, fun b u hb h0 hu => ?_, fun b u hb h0 k hk1 hk2 c0 c1 e0 e1 => ?_⟩
  · by_cases e : b = a
    · subst e
      have e3 : u = t := by omega
      subst e3
      exact absurd hu (hB h0)
    · exact ho b e
  · by_cases e : b = a
    · subst e
      have e3 : u = t := by omega
      subst e3
      cases hc'.symm.trans e1
      cases hc.symm.trans e0
      exact hk h0 k hk1 hk2
    · rw [ho b e] at e1
      cases e0.symm.trans e1
      rfl
end
end
section
/-! THE CHECKER, 13: putfield, and stores into arrays. -/
def zk_fin (cl : List vw_C) (f : Nat × Nat) : Bool := match cl[f.1]? with | some q => (q.2.1 f.2).2.2.2 | none => true
def zk_nfl (cl : List vw_C) (ci : Nat) : Nat := match cl[ci]? with | some q => q.2.2 | none => 0
def zk_wG (fm : List (Nat × Nat × Nat × zV)) (em : List (Nat × Nat × zV × zV)) (S : List zV) (A : zA) : zA := (A.1, S, A.2.2.1, (A.2.2.2.1.1, fm, em, A.2.2.2.1.2.2.2), A.2.2.2.2)
def zk_wGO (fm : List (Nat × Nat × Nat × zV)) (em : List (Nat × Nat × zV × zV)) (ops : List (Nat × List zV)) (S : List zV) (A : zA) : zA := (A.1, S, A.2.2.1, (A.2.2.2.1.1, fm, em, A.2.2.2.1.2.2.2.1, A.2.2.2.1.2.2.2.2.1, ops), A.2.2.2.2)
/-- further facts that a store makes: by what is written (0, class, field) or (1, type, 0) -/
abbrev zSU : Type := Nat × Nat × Nat → zA → List (Nat × List zV)
def zk_SUok (D : zD) (E : zE) (SU : zSU) : Prop :=
  (∀ (f : Nat × Nat) (A : zA) (r : Nat → Int) (ty : Nat → Nat) (H H' : Heap) (locs : List Loc) (ls : Array Slot) (st : List Value) (w v : zV) (S : List zV) (cell : Cell) (t : Nat), zk_I D E A r ty H locs ls st → A.2.1 = w :: v :: S → (v.1 = 2 ∧ v.2.2 = 0) → ty (r v.2.1).toNat = t + 1 → ((D.TT t).1 = 0 ∧ (D.TT t).2.1 = f.1 ∧ f.2 < (D.TT t).2.2.length) → H[(r v.2.1).toNat]? = some cell → H'[(r v.2.1).toNat]? = some (cell.setSlot (D.dI f.1 f.2) (zk_c r w)) → (∃ x, cell.slots[D.dI f.1 f.2]? = some x) → H'.size = H.size → (∀ q, q ≠ (r v.2.1).toNat → H'[q]? = H[q]?) → zk_T D ty H' → ∀ q ∈ SU (0, t, f.2) A, D.OP q.1 ty H' (q.2.map (zk_n r))) ∧
  ∀ (t : Nat) (A : zA) (r : Nat → Int) (ty : Nat → Nat) (H H' : Heap) (locs : List Loc) (ls : Array Slot) (st : List Value) (w i v : zV) (S : List zV) (cell : Cell), zk_I D E A r ty H locs ls st → A.2.1 = w :: i :: v :: S → (v.1 = 2 ∧ v.2.2 = 0) → ty (r v.2.1).toNat = t + 1 → (D.TT t).1 ≠ 0 → (D.TT t).1 ≠ 9 → H[(r v.2.1).toNat]? = some cell → H'[(r v.2.1).toNat]? = some (cell.setSlot (zk_n r i).toNat (zk_c r w)) → 0 ≤ zk_n r i → (zk_n r i).toNat < cell.slots.size → H'.size = H.size → (∀ q, q ≠ (r v.2.1).toNat → H'[q]? = H[q]?) → zk_T D ty H' → ∀ q ∈ SU (1, t, 0) A, D.OP q.1 ty H' (q.2.map (zk_n r))
def zk_stb (D : zD) (PF : Nat → List (Nat × Nat)) (PB : Nat → List Nat) (SU : zSU) : Prop := zk_stable D PF PB ∧ ∀ E, zk_SUok D E SU
def zk_rws : List (Nat × Nat × List zV) → Nat → List zV → List (Nat × Nat × List zV)
  | [], _, _ => []
  | q :: l, x, vs => if q.1 = x then (q.1, q.2.1, vs) :: l else q :: zk_rws l x vs
def zk_wR (x : Nat) (vs : List zV) (S : List zV) (A : zA) : zA := (A.1, S, A.2.2.1, (A.2.2.2.1.1, A.2.2.2.1.2.1, A.2.2.2.1.2.2.1, zk_rws A.2.2.2.1.2.2.2.1 x vs, A.2.2.2.1.2.2.2.2), A.2.2.2.2)
/-- a reference of another type -/
def zk_ot (rt : List (Nat × Nat)) (t x : Nat) : Bool := match zk_rtl rt x with | some u => !(u == t) | none => false
/-- oc: the method's own class; ini: it is a constructor -/
def zk_put (cl : List vw_C) (ft : Nat → Nat → FieldType) (TT : Nat → zS) (FX : Nat → Option (Nat × Nat)) (PF : Nat → List (Nat × Nat)) (SU : zSU) (F : List (Nat × Nat)) (oc : Nat) (ini : Bool) (K : Nat → zA → Bool) (pc idx : Nat) (A : zA) : Bool :=
  match A.2.1, FX idx with
  | w :: v :: S, some f => decide (v.1 = 2 ∧ v.2.2 = 0) && (zk_nf A.2.2.1 (ft f.1 f.2) w && (match zk_rwl A.2.2.2.1.2.2.2.1 v.2.1 with
    | some q => decide (q.1 = f.1 ∧ q.1 < 1000 ∧ f.2 < q.2.length ∧ q.2.length ≤ zk_nfl cl f.1) && ((!zk_fin cl f || (ini && decide (f.1 = oc))) && K (pc + 3) (zk_wR v.2.1 (q.2.set f.2 w) S A))
    | none => (match zk_rtl A.2.2.2.1.1 v.2.1 with
      | some t => decide ((TT t).1 = 0 ∧ (TT t).2.1 = f.1) && (!zk_fin cl f && (F.contains (t, f.2) && ((match (TT t).2.2[f.2]? with
        | some q => zk_cf A.2.2.1 A.2.2.2.1.1 w q && K (pc + 3) (zk_wGO ((v.2.1, f.1, f.2, w) :: A.2.2.2.1.2.1.filter (fun g => !(g.2.1 == f.1 && g.2.2.1 == f.2) || zk_ot A.2.2.2.1.1 t g.1)) A.2.2.2.1.2.2.1 (SU (0, t, f.2) A ++ A.2.2.2.1.2.2.2.2.2.filter (fun q => !(PF q.1).contains (t, f.2))) S A)
        | none => false))))
      | none => false)))
  | _, _ => false
section
variable {p : Program} {l : Launch} {e : Env} {R : Room} {s : State} {m : MethodId} {args : Array Value} {below : List Frame} {meth : Method} {c : Code} {Q : State → Prop} {cc : ByteArray} {pc : Nat} {D : zD} {E : zE} {A : zA} {K : Nat → zA → Bool} {cl : List vw_C} {ft : Nat → Nat → FieldType} {own : String} {FX : Nat → Option (Nat × Nat)} {PF : Nat → List (Nat × Nat)} {PB : Nat → List Nat}
variable {r : Nat → Int} {ty : Nat → Nat} {H H' : Heap} {locs locs' : List Loc} {ls : Array Slot} {st : List Value} {a t : Nat} {cell cell' : Cell} {S : List zV}
/-- a typed cell was written: what holds then -/
theorem zk_I_upd (I : zk_I D E A r ty H locs ls st) (hs : H'.size = H.size) (ho : ∀ q, q ≠ a → H'[q]? = H[q]?) (ht : ty a = t + 1) (h9 : (D.TT t).1 ≠ 9) (hc : H[a]? = some cell) (hc' : H'[a]? = some cell') (hC : zk_C D ty H' a (D.TT t))
    (hB : (D.TT t).1 ≠ 0 → t ∈ E.2.2.1.2) (hk : (D.TT t).1 = 0 → ∀ k : Nat, k < (D.TT t).2.2.length → (t, k) ∉ E.2.2.1.1 → cell'.slots[D.dI (D.TT t).2.1 k]? = cell.slots[D.dI (D.TT t).2.1 k]?)
    {fm : List (Nat × Nat × Nat × zV)} {em : List (Nat × Nat × zV × zV)} {ops : List (Nat × List zV)} (hfm : ∀ q ∈ fm, zk_fm D r ty H' q) (hem : ∀ q ∈ em, zk_em D r ty H' q) (hops : zk_T D ty H' → ∀ q ∈ ops, D.OP q.1 ty H' (q.2.map (zk_n r))) (hl : ∀ q ∈ locs', D.ba ≤ q.base) : zk_I D E (zk_wGO fm em ops S A) r ty H' locs' ls (S.map (zk_c r)) := by
  obtain ⟨a1, a2, a3, a4, a5, a6, a7, a8, a9, a10, a11⟩ := I
  obtain ⟨b1, b2, b3, b4, b5, b6, b7⟩ := a4
  have hT := zk_T_upd a5 hs ho ht h9 hC
  refine ⟨a1, rfl, a3, ⟨b1, hfm, hem, fun q hq => ?_, b5, b6, hops hT⟩, hT, zk_F_upd a6 hs ho ht hB hc hc' hk, a7, a8, a9, hl, a11⟩
  obtain ⟨c1, c2, c3, cw, c4, c5⟩ := b4 q hq
  refine ⟨c1, c2, c3, cw, ?_, c5⟩
  rw [ho _ (fun e => by rw [e] at c3; omega)]
  exact c4
theorem zk_fm_keep (hV : zk_env D cl ft s args) (hT : zk_T D ty H) (ho : ∀ q, q ≠ a → H'[q]? = H[q]?) (ht : ty a = t + 1) (h0 : (D.TT t).1 = 0) (hc : H[a]? = some cell) {k : Nat} (hk : k < (D.TT t).2.2.length) {x : Value} (hc' : H'[a]? = some (cell.setSlot (D.dI (D.TT t).2.1 k) x)) {g : Nat × Nat × Nat × zV} (hg : zk_fm D r ty H g) (hne : ¬ (g.2.1 = (D.TT t).2.1 ∧ g.2.2.1 = k)) : zk_fm D r ty H' g := by
  obtain ⟨⟨u, u1, u2, u3, u4⟩, cw, w1, w2⟩ := hg
  refine ⟨⟨u, u1, u2, u3, u4⟩, ?_⟩
  by_cases e1 : (r g.1).toNat = a
  · rw [e1] at u1 w1 ⊢
    have e2 : u = t := by omega
    subst e2
    cases hc.symm.trans w1
    refine ⟨_, hc', ?_⟩
    obtain ⟨q, hq1, hq2⟩ := hV.2.2.2 u u2
    have hap : D.dI (D.TT u).2.1 k ≠ D.dI (D.TT u).2.1 g.2.2.1 := zk_apart hV hq1 (by rw [← hq2]; exact hk) (by rw [← hq2]; exact u4) (fun e => hne ⟨u3.symm, e.symm⟩)
    rw [← u3] at w2 ⊢
    rw [slot_ne _ _ hap]
    exact w2
  · exact ⟨cw, by rw [ho _ e1]; exact w1, w2⟩
theorem zk_em_keepO (ho : ∀ q, q ≠ a → H'[q]? = H[q]?) (ht : ty a = t + 1) (h0 : (D.TT t).1 = 0) {g : Nat × Nat × zV × zV} (hg : zk_em D r ty H g) : zk_em D r ty H' g := by
  obtain ⟨u1, u2, u3, cw, w1, w2⟩ := hg
  refine ⟨u1, u2, u3, cw, ?_, w2⟩
  rw [ho _ (fun e => by
    rw [e] at u1
    have e2 : g.2.1 = t := by omega
    rw [e2] at u2
    exact u2 h0)]
  exact w1
end
end
section
section
variable {p : Program} {l : Launch} {e : Env} {R : Room} {s : State} {m : MethodId} {args : Array Value} {below : List Frame} {meth : Method} {c : Code} {Q : State → Prop} {cc : ByteArray} {pc : Nat} {D : zD} {E : zE} {A : zA} {K : Nat → zA → Bool} {cl : List vw_C} {ft : Nat → Nat → FieldType} {own : String} {FX : Nat → Option (Nat × Nat)} {PF : Nat → List (Nat × Nat)} {PB : Nat → List Nat}
/-- the machine writes field f of a cell of its class -/
theorem zk_putf (hx : p.tables.exec = Jvm.exec) (hb : c.code = cc) (hown : s.vm.findClass own = some m.cls) (hV : zk_env D cl ft s args) (hFX : zk_FX cl FX own s args) {idx oc : Nat} {ini : Bool} (hoc : ini = true → own = zk_cn cl oc) (hini : ini = true → meth.name = "<init>") {f : Nat × Nat} (hf : FX idx = some f) (hfin : (!zk_fin cl f || (ini && decide (f.1 = oc))) = true) {H : Heap} {locs : List Loc} {cells slots a : Nat} {ls : Array Slot} {rest : List Value} {x : Value} {cell : Cell} (hc : H[a]? = some cell) (hcl : cell.cls = D.dC f.1) (hvm : cell.vm = .none) {y : Value} (hs : cell.slots[D.dI f.1 f.2]? = some y) (hn : narrow (ft f.1 f.2) x = x ∧ fits (ft f.1 f.2) x = true) (hd : decode cc pc = .ok (.putfield idx, 3))
    (k : ∀ H' : Heap, H'[a]? = some (cell.setSlot (D.dI f.1 f.2) x) → H'.size = H.size → (∀ q, q ≠ a → H'[q]? = H[q]?) → W p l e R s m args below meth c H' (locs ++ [⟨a, D.dI f.1 f.2⟩]) cells slots Q (F0 m (pc + 3) ls rest)) : W p l e R s m args below meth c H locs cells slots Q (F0 m pc ls (x :: .ref a :: rest)) := by
  obtain ⟨q, h1, h2, h3⟩ := hFX idx f hf
  obtain ⟨⟨hS, hfc, kC, hkC, hkind⟩, hl, hty, hnm, hdc⟩ := hV.1 f.1 q h1
  obtain ⟨cf, kf, fi, fd, hi, hsl⟩ := hS f.2 h2
  have hlay := hl _ (u_in_lay h2)
  have hst := (u_facts hfc hkC (u_lays (fun w hw => hl w hw) (fun w hw => hw) h2) hi).1
  have hlt : fd.slot < cell.slots.size := by rw [hsl]; exact (Array.getElem?_eq_some_iff.mp hs).1
  have hfe : zk_fin cl f = (q.2.1 f.2).2.2.2 := by unfold zk_fin; rw [h1]
  unfold u_lay at hlay
  rw [hfe] at hfin
  split at hlay
  · rename_i hF
    rw [hF] at hfin
    simp only [Bool.not_true, Bool.false_or, Bool.and_eq_true, decide_eq_true_eq] at hfin
    have hcf : m.cls = cf := by
      obtain ⟨_, _, c', _, _, _, -, -, hf', -, -, -, hown2, -⟩ := Cond.laysFinal_spec hlay
      have e1 : c' = cf := by have := hi.symm.trans hf'; simp at this; exact this.1.symm
      have e2 : (q.2.1 f.2).1 = own := by
        rw [hdc f.2 h2, hoc hfin.1, ← hfin.2]
        unfold zk_cn
        rw [h1]
      rw [e2] at hown2
      rw [← e1]; exact Option.some.inj (hown.symm.trans hown2)
    have h6 := u_fits hfc hkC hkind (Or.inr hlay) hi (hty f.2 h2) hn.1 hn.2
    refine W.putFinK hx hb hown h3 hi hst hcf (hini hfin.1) (by rw [hcl]; exact h6) hc hvm hlt rfl rfl hd fun H' e1 e2 e3 => ?_
    rw [hsl] at e1 ⊢
    exact k H' e1 e2 e3
  · have h6 := u_store hfc hkC hkind hlay hi (hty f.2 h2) hn.1 hn.2
    refine W.putK hx hb (f := fd) ⟨hown, h3, ⟨_, _, _, hi⟩, hst⟩ (by rw [hcl]; exact h6) hc hvm hlt rfl rfl hd fun H' e1 e2 e3 => ?_
    rw [hsl] at e1 ⊢
    exact k H' e1 e2 e3
theorem zk_rws_mem {x : Nat} {vs : List zV} : ∀ {l : List (Nat × Nat × List zV)} {q : Nat × Nat × List zV}, q ∈ zk_rws l x vs → (q.1 ≠ x ∧ q ∈ l) ∨ (∃ o, zk_rwl l x = some o ∧ q = (x, o.1, vs)) ∨ q ∈ l.tail
  | [], _, h => by cases h
  | y :: l, q, h => by
    unfold zk_rws at h
    split at h
    · rename_i e
      rcases List.mem_cons.mp h with rfl | h
      · refine Or.inr (Or.inl ⟨y.2, by unfold zk_rwl; rw [if_pos e], by rw [e]⟩)
      · exact Or.inr (Or.inr h)
    · rename_i e
      rcases List.mem_cons.mp h with rfl | h
      · exact Or.inl ⟨e, List.mem_cons_self⟩
      · rcases zk_rws_mem h with ⟨h1, h2⟩ | ⟨o, h1, h2⟩ | h1
        · exact Or.inl ⟨h1, List.mem_cons_of_mem _ h2⟩
        · exact Or.inr (Or.inl ⟨o, by unfold zk_rwl; rw [if_neg e]; exact h1, h2⟩)
        · exact Or.inr (Or.inr (List.mem_of_mem_tail h1))
/-- the cells being made, one of them written: all others are others -/
theorem zk_rws_ok {r : Nat → Int} {x : Nat} {vs : List zV} {Pr Pr' : Nat × Nat × List zV → Prop} : ∀ {l : List (Nat × Nat × List zV)}, l.Pairwise (fun x y => r x.1 ≠ r y.1) → (∀ q ∈ l, Pr q) → (∀ q, Pr q → r q.1 ≠ r x → Pr' q) → (∀ o, zk_rwl l x = some o → Pr' (x, o.1, vs)) → zk_rwl l x ≠ none → (∀ q ∈ zk_rws l x vs, Pr' q) ∧ (zk_rws l x vs).Pairwise (fun x y => r x.1 ≠ r y.1)
  | [], _, _, _, _, hn => by simp [zk_rwl] at hn
  | y :: l, hp, h, hk, hx, hn => by
    unfold zk_rws
    unfold zk_rwl at hx hn
    obtain ⟨p1, p2⟩ := List.pairwise_cons.mp hp
    split
    · rename_i e1
      rw [if_pos e1] at hx
      refine ⟨fun q hq => ?_, List.pairwise_cons.mpr ⟨fun b hb => p1 b hb, p2⟩⟩
      rcases List.mem_cons.mp hq with rfl | hq
      · have := hx _ rfl
        rw [e1]; exact this
      · refine hk q (h q (List.mem_cons_of_mem _ hq)) ?_
        rw [← e1]
        exact (p1 q hq).symm
    · rename_i e1
      rw [if_neg e1] at hx hn
      obtain ⟨g1, g2⟩ := zk_rws_ok p2 (fun q hq => h q (List.mem_cons_of_mem _ hq)) hk hx hn
      obtain ⟨o, ho⟩ := Option.ne_none_iff_exists'.mp hn
      have hxm := zk_rwl_mem ho
      refine ⟨fun q hq => ?_, List.pairwise_cons.mpr ⟨fun b hb => ?_, g2⟩⟩
      · rcases List.mem_cons.mp hq with rfl | hq
        · exact hk _ (h _ List.mem_cons_self) (p1 _ hxm)
        · exact g1 q hq
      · rcases zk_rws_mem hb with ⟨-, h2⟩ | ⟨o', -, h2⟩ | h1
        · exact p1 b h2
        · rw [h2]; show r y.1 ≠ r x; exact p1 (x, o) hxm
        · exact p1 b (List.mem_of_mem_tail h1)
theorem zk_put_ok {oc : Nat} {ini : Bool} (hx : p.tables.exec = Jvm.exec) (hb : c.code = cc) (hown : s.vm.findClass own = some m.cls) (hV : zk_env D cl ft s args) (hFX : zk_FX cl FX own s args) (hoc : ini = true → own = zk_cn cl oc) (hini : ini = true → meth.name = "<init>") {SU : zSU} (hO : zk_stb D PF PB SU) {F : List (Nat × Nat)} (hF : F = E.2.2.1.1) (hK : ∀ (n : Nat) (A : zA), K n A = true → zk_W p l e R s m args below meth c Q D E n A) {idx : Nat} (hd : decode cc pc = .ok (.putfield idx, 3)) (h : zk_put cl ft D.TT FX PF SU F oc ini K pc idx A = true) : zk_W p l e R s m args below meth c Q D E pc A := by
  unfold zk_put at h
  split at h
  rotate_left
  · cases h
  rename_i w v S f hS hf
  simp only [Bool.and_eq_true, decide_eq_true_eq] at h
  obtain ⟨hv, hnf, h⟩ := h
  intro r ty H locs ls st I
  have h2 := I.2.1
  subst h2
  rw [hS, List.map_cons, List.map_cons, zk_ref hv]
  have hnr := zk_nf_ok (r := r) I.2.2.1 hnf
  obtain ⟨g1, g2, g3, g4, g5, g6, g7⟩ := I.2.2.2.1
  obtain ⟨qc, hqc, hkc, -⟩ := hFX idx f hf
  split at h
  · rename_i q hq
    simp only [Bool.and_eq_true, decide_eq_true_eq] at h
    obtain ⟨⟨hc1, hc2, hc3, hc4⟩, hfin, h⟩ := h
    obtain ⟨r1, r2, r3, cell, c1, c2, c3⟩ := g4 _ (zk_rwl_mem hq)
    rw [if_pos hc2] at c3
    dsimp only at c3 r1 r2 r3 c1
    obtain ⟨u, hu⟩ : ∃ u, q.2[f.2]? = some u := ⟨_, List.getElem?_eq_getElem hc3⟩
    have c4 := c3.2 _ _ hu
    rw [hc1] at c4 c3
    refine zk_putf hx hb hown hV hFX hoc hini hf hfin c1 c3.1 c2 c4 hnr hd (fun H' e1 e2 e3 => ?_)
    refine hK _ _ h r ty H' _ ls _ ?_
    obtain ⟨a1, a2, a3, a4, a5, a6, a7, a8, a9, a10, a11⟩ := I
    have hne : ∀ b : Nat, ty b ≠ 0 → b ≠ (r v.2.1).toNat := fun b hb e => hb (by rw [e]; exact r3)
    have hT : zk_T D ty H' := by
      refine ⟨by rw [e2]; exact a5.1, fun b t hb => ?_⟩
      have gg := a5.2 b t hb
      unfold zk_C at gg ⊢
      rw [e3 b (hne b (by omega))]
      exact gg
    have hst : ∀ j, zk_st D (PF j) (PB j) ty H ty H' := fun j => by
      refine ⟨fun _ _ q => q, fun b t hb _ _ => e3 b (hne b (by omega)), fun b t hb _ k _ _ c0 c1 q0 q1 => ?_⟩
      rw [e3 b (hne b (by omega))] at q1
      cases q0.symm.trans q1
      rfl
    have hraw := zk_rws_ok (r := r) (x := v.2.1) (vs := q.2.set f.2 w) (Pr := zk_rw D r ty H) (Pr' := zk_rw D r ty H') g5 g4 (fun q' hq' hn' => by
      obtain ⟨d1, d2, d3, cw, d4, d5⟩ := hq'
      refine ⟨d1, d2, d3, cw, ?_, d5⟩
      rw [e3 _ (by omega)]
      exact d4) (fun o ho => by
      cases hq.symm.trans ho
      refine ⟨r1, r2, r3, _, e1, c2, ?_⟩
      rw [if_pos hc2]
      dsimp only
      rw [hc1]
      refine ⟨c3.1, fun k u' hk => ?_⟩
      by_cases ek : k = f.2
      · subst ek
        rw [List.getElem?_set_self hc3] at hk
        cases hk
        unfold Cell.setSlot
        rw [Array.getElem?_setIfInBounds, if_pos rfl, if_pos (Array.getElem?_eq_some_iff.mp c4).1]
      · rw [List.getElem?_set_ne (fun e => ek e.symm)] at hk
        have hkl : k < qc.2.2 := by
          have e5 := (List.getElem?_eq_some_iff.mp hk).1
          unfold zk_nfl at hc4
          rw [hqc] at hc4
          dsimp only at hc4
          omega
        rw [slot_ne _ _ (fun z => zk_apart hV hqc hkc hkl (fun e => ek e.symm) z)]
        exact c3.2 k u' hk) (by rw [hq]; simp)
    refine ⟨a1, rfl, a3, ⟨g1, fun g hg => ?_, fun g hg => ?_, hraw.1, hraw.2, g6, fun g hg => hO.1 _ _ _ _ _ _ (hst _) a5 hT (g7 g hg)⟩, hT, ?_, a7, a8, a9, fun g hg => ?_, ?_⟩
    · obtain ⟨⟨t, t1, t2⟩, cw, w1, w2⟩ := g2 g hg
      exact ⟨⟨t, t1, t2⟩, cw, by rw [e3 _ (hne _ (by omega))]; exact w1, w2⟩
    · obtain ⟨u1, u2, u3, cw, w1, w2⟩ := g3 g hg
      exact ⟨u1, u2, u3, cw, by rw [e3 _ (hne _ (by omega))]; exact w1, w2⟩
    · obtain ⟨f1, f2, f3, f4, f5, f6⟩ := a6
      refine ⟨by rw [e2]; exact f1, f2, f3, fun b hb hz hu => ?_, fun b t hb h0 hB => ?_, fun b t hb h0 k hk1 hk2 c0 c1 q0 q1 => ?_⟩
      · by_cases e9 : b = (r v.2.1).toNat
        · exfalso
          rcases a11 _ (zk_rwl_mem hq) with z | z
          · exact hu (by rw [e9]; exact z)
          · dsimp only at z
            omega
        · rw [e3 b e9]; exact f4 b hb hz hu
      · rw [e3 b (hne b (by have := f2 b t hb; omega))]; exact f5 b t hb h0 hB
      · rw [e3 b (hne b (by have := f2 b t hb; omega))] at q1
        exact f6 b t hb h0 k hk1 hk2 c0 c1 q0 q1
    · rcases List.mem_append.mp hg with hg | hg
      · exact a10 g hg
      · rw [List.mem_singleton.mp hg]; exact r2
    · exact (zk_rws_ok (r := r) (x := v.2.1) (vs := q.2.set f.2 w) (Pr := fun q => E.2.2.2.1.1 (r q.1).toNat ∨ E.2.2.2.1.2.2.size ≤ (r q.1).toNat) (Pr' := fun q => E.2.2.2.1.1 (r q.1).toNat ∨ E.2.2.2.1.2.2.size ≤ (r q.1).toNat) g5 a11 (fun _ z _ => z) (fun o ho => by have z := a11 (v.2.1, o) (zk_rwl_mem ho); exact z) (by rw [hq]; simp)).1
  · split at h
    rotate_left
    · cases h
    rename_i t ht
    simp only [Bool.and_eq_true, decide_eq_true_eq, Bool.not_eq_true', List.contains_iff_mem] at h
    obtain ⟨⟨t2, t3⟩, hfin, hFm, h⟩ := h
    split at h
    rotate_left
    · cases h
    rename_i q hq
    simp only [Bool.and_eq_true] at h
    obtain ⟨hcf, h⟩ := h
    obtain ⟨p1, t1⟩ := g1 _ (zk_rtl_mem ht)
    dsimp only at p1 t1
    have hT := I.2.2.2.2.1.2 _ _ t1
    rw [if_neg (by rw [t2]; decide)] at hT
    have hC := hT.2
    unfold zk_C at hC
    rw [if_pos t2] at hC
    obtain ⟨cell, d1, d2, d3, d4⟩ := hC
    obtain ⟨x, x1, -⟩ := d4 _ _ hq
    have hkl : f.2 < (D.TT t).2.2.length := (List.getElem?_eq_some_iff.mp hq).1
    obtain ⟨q9, hq9, hl9⟩ := hV.2.2.2 t t2
    rw [t3] at d2 x1
    refine zk_putf hx hb hown hV hFX hoc hini hf (by rw [hfin]; rfl) d1 d2 d3 x1 hnr hd (fun H' e1 e2 e3 => ?_)
    refine hK _ _ h r ty H' _ ls _ ?_
    have e1' : H'[(r v.2.1).toNat]? = some (cell.setSlot (D.dI (D.TT t).2.1 f.2) (zk_c r w)) := by rw [t3]; exact e1
    have hslot : ∀ k : Nat, k < (D.TT t).2.2.length → k ≠ f.2 → (cell.setSlot (D.dI (D.TT t).2.1 f.2) (zk_c r w)).slots[D.dI (D.TT t).2.1 k]? = cell.slots[D.dI (D.TT t).2.1 k]? := fun k hk hne =>
      slot_ne _ _ (zk_apart hV hq9 (by rw [← hl9]; exact hkl) (by rw [← hl9]; exact hk) (fun z => hne z.symm))
    have hself : (cell.setSlot (D.dI (D.TT t).2.1 f.2) (zk_c r w)).slots[D.dI (D.TT t).2.1 f.2]? = some (zk_c r w) := by
      unfold Cell.setSlot
      rw [Array.getElem?_setIfInBounds, if_pos rfl, if_pos (by rw [t3]; exact (Array.getElem?_eq_some_iff.mp x1).1)]
    refine zk_I_upd I e2 e3 t1 (by rw [t2]; decide) d1 e1' ?_ (fun z => absurd t2 z) (fun _ k hk1 hk2 => ?_) (fun g hg => ?_) (fun g hg => zk_em_keepO e3 t1 t2 (g3 g hg)) (fun hT' g hg => ?_) (fun g hg => ?_)
    · unfold zk_C
      rw [if_pos t2]
      refine ⟨_, e1', by rw [t3]; exact d2, d3, fun k q' hk => ?_⟩
      by_cases ek : k = f.2
      · subst ek
        cases hq.symm.trans hk
        exact ⟨_, hself, zk_cf_ok I.2.2.1 g1 hcf⟩
      · rw [hslot k (List.getElem?_eq_some_iff.mp hk).1 ek]
        obtain ⟨x', y1, y2⟩ := d4 k q' hk
        exact ⟨x', y1, y2⟩
    · refine hslot k hk1 (fun ek => ?_)
      subst ek
      exact hk2 (by rw [← hF]; exact hFm)
    · rcases List.mem_cons.mp hg with rfl | hg
      · exact ⟨⟨t, t1, t2, t3, hkl⟩, _, e1', by rw [← t3]; exact hself⟩
      · obtain ⟨hg1, hg2⟩ := List.mem_filter.mp hg
        by_cases hz : g.2.1 = (D.TT t).2.1 ∧ g.2.2.1 = f.2
        · rw [t3] at hz
          simp only [hz.1, hz.2, BEq.rfl, Bool.and_self, Bool.not_true, Bool.false_or] at hg2
          unfold zk_ot at hg2
          split at hg2
          · rename_i u hu
            obtain ⟨w1, w2⟩ := g2 g hg1
            refine ⟨w1, ?_⟩
            obtain ⟨cw, w3, w4⟩ := w2
            refine ⟨cw, ?_, w4⟩
            rw [e3 _ (fun e => ?_)]
            · exact w3
            · have k1 := (g1 _ (zk_rtl_mem hu)).2
              dsimp only at k1
              rw [e] at k1
              have : u = t := by omega
              simp [this] at hg2
          · cases hg2
        · exact zk_fm_keep hV I.2.2.2.2.1 e3 t1 t2 d1 hkl e1' (g2 g hg1) hz
    · rcases List.mem_append.mp hg with hg | hg
      · exact (hO.2 E).1 f A r ty H H' locs ls _ w v S cell t I hS hv t1 ⟨t2, t3, hkl⟩ d1 e1 ⟨x, x1⟩ e2 e3 hT' g hg
      · obtain ⟨hg1, hg2⟩ := List.mem_filter.mp hg
        refine hO.1 _ _ _ _ _ _ ?_ I.2.2.2.2.1 hT' (g7 g hg1)
        refine zk_st_upd e3 t1 (fun z => absurd t2 z) d1 e1' (fun _ k hk1 hk2 => hslot k hk1 (fun ek => ?_))
        subst ek
        rw [List.contains_iff_mem.mpr hk2] at hg2
        cases hg2
    · rcases List.mem_append.mp hg with hg | hg
      · exact I.2.2.2.2.2.2.2.2.2.1 g hg
      · rw [List.mem_singleton.mp hg]; exact hT.1.1
end
end
section
/-! THE CHECKER, 14: stores into arrays. -/
def zk_sv (TT : Nat → zS) (k : Nat) (P : zP) (rt : List (Nat × Nat)) (w : zV) : Bool :=
  if k = 1 then decide (w.1 = 0) else if k = 2 then decide (w.1 = 0) && zk_inb P w (-128) 127 else if k = 3 then decide (w.1 = 0) && zk_inb P w 0 1 else if k = 4 then decide (w.1 = 1)
  else decide (w.1 = 2 ∧ w.2.2 = 0) && (match zk_rtl rt w.2.1 with | some t => decide ((TT t).1 = 0 ∧ (TT t).2.1 + 10 = k) | none => false)
def zk_ast (TT : Nat → zS) (B : List Nat) (PB : Nat → List Nat) (SU : zSU) (ks : List Nat) (K : Nat → zA → Bool) (pc : Nat) (A : zA) : Bool :=
  match A.2.1 with
  | w :: i :: v :: S => decide (v.1 = 2 ∧ v.2.2 = 0 ∧ i.1 = 0) && (match zk_rtl A.2.2.2.1.1 v.2.1 with
      | some t => ks.contains (TT t).1 && (zk_inb A.2.2.1 i 0 (((TT t).2.1 : Int) - 1) && (decide ((TT t).2.1 < 2147483648 ∧ ((TT t).2.2.length = 1 ∨ (TT t).2.2.length = (TT t).2.1)) && (B.contains t && ((zk_sv TT (TT t).1 A.2.2.1 A.2.2.2.1.1 w && ((zk_els (TT t) i).all (fun q => zk_cf A.2.2.1 A.2.2.2.1.1 w q) &&
          K (pc + 1) (zk_wGO A.2.2.2.1.2.1 ((v.2.1, t, i, w) :: A.2.2.2.1.2.2.1.filter (fun g => !(g.2.1 == t) || (g.2.2.1.2.1 == i.2.1 && !(g.2.2.1.2.2 == i.2.2)))) (SU (1, t, 0) A ++ A.2.2.2.1.2.2.2.2.2.filter (fun q => !(PB q.1).contains t)) S A)))))))
      | none => false)
  | _ => false
def zk_rast (TT : Nat → zS) (K : Nat → zA → Bool) (pc : Nat) (A : zA) : Bool :=
  match A.2.1 with
  | w :: i :: v :: S => decide (v.1 = 2 ∧ v.2.2 = 0 ∧ i.1 = 0 ∧ i.2.1 = 0 ∧ 0 ≤ i.2.2 ∧ i.2.2 < 2147483648) && (match zk_rwl A.2.2.2.1.2.2.2.1 v.2.1 with
      | some q => decide ((q.1 = 1010 ∨ q.1 = 1012 ∨ q.1 = 1013 ∨ q.1 = 1014 ∨ q.1 = 1019) ∧ i.2.2.toNat < q.2.length) && (zk_sv TT (q.1 - 1000) A.2.2.1 A.2.2.2.1.1 w && K (pc + 1) (zk_wR v.2.1 (q.2.set i.2.2.toNat w) S A))
      | none => false)
  | _ => false
theorem zk_els_mem {S : zS} {i : zV} {r : Nat → Int} (h0 : r 0 = 0) (hl : S.2.2.length = 1 ∨ S.2.2.length = S.2.1) (hi : (zk_n r i).toNat < S.2.1) : zk_el S.2.2 (zk_n r i).toNat ∈ zk_els S i := by
  rcases hS : S.2.2 with _ | ⟨q, _ | ⟨q2, rest⟩⟩
  · rw [hS] at hl
    simp at hl
    omega
  · simp only [zk_els, zk_el, hS]
    exact List.mem_singleton.mpr rfl
  · simp only [zk_els, zk_el, hS]
    split
    · rename_i e
      have e2 : zk_n r i = i.2.2 := by unfold zk_n; rw [e, h0]; omega
      rw [e2]
      exact List.mem_singleton.mpr rfl
    · have hlen : (zk_n r i).toNat < (q :: q2 :: rest).length := by
        rw [hS] at hl
        simp only [List.length_cons] at hl ⊢
        omega
      rw [List.getD_eq_getElem?_getD, List.getElem?_eq_getElem hlen]
      exact List.getElem_mem hlen
section
variable {p : Program} {l : Launch} {e : Env} {R : Room} {s : State} {m : MethodId} {args : Array Value} {below : List Frame} {meth : Method} {c : Code} {Q : State → Prop} {cc : ByteArray} {pc : Nat} {D : zD} {E : zE} {A : zA} {K : Nat → zA → Bool} {cl : List vw_C} {ft : Nat → Nat → FieldType} {PF : Nat → List (Nat × Nat)} {PB : Nat → List Nat}
/-- the machine stores a value that fits into a place of an array -/
theorem zk_store (hx : p.tables.exec = Jvm.exec) (hb : c.code = cc) (hV : zk_env D cl ft s args) {k : Nat} (hk : k ∈ [1, 2, 3, 4, 10, 12, 13, 14, 19]) {i : Instr} (hi : (k = 1 ∧ i = .iastore) ∨ (k = 2 ∧ i = .bastore) ∨ (k = 3 ∧ i = .bastore) ∨ (k = 4 ∧ i = .lastore) ∨ (10 ≤ k ∧ i = .aastore)) (hd : decode cc pc = .ok (i, 1)) {r : Nat → Int} {ty : Nat → Nat} {P : zP} {rt : List (Nat × Nat)} {w : zV} {H : Heap} (hP : zk_P r P) (hrt : ∀ q ∈ rt, zk_rt r ty q) (hT : zk_T D ty H) (hsv : zk_sv D.TT k P rt w = true) {locs : List Loc} {cells slots a : Nat} {ls : Array Slot} {rest : List Value} {cell : Cell} {j : Int32} (hc : H[a]? = some cell) (hcl : cell.cls = D.cA k) (hvm : cell.vm = .none) (hj : ¬ (j < 0 ∨ cell.slots.size ≤ j.toNatClampNeg))
    (kk : ∀ H' : Heap, H'[a]? = some (cell.setSlot j.toNatClampNeg (zk_c r w)) → H'.size = H.size → (∀ q, q ≠ a → H'[q]? = H[q]?) → W p l e R s m args below meth c H' (locs ++ [⟨a, j.toNatClampNeg⟩]) cells slots Q (F0 m (pc + 1) ls rest)) : W p l e R s m args below meth c H locs cells slots Q (F0 m pc ls (zk_c r w :: .int j :: .ref a :: rest)) := by
  have hA := zk_isA hV hk hcl hvm
  rcases hi with ⟨rfl, rfl⟩ | ⟨rfl, rfl⟩ | ⟨rfl, rfl⟩ | ⟨rfl, rfl⟩ | ⟨h10, rfl⟩
  · simp [zk_sv] at hsv
    rw [zk_e0 hsv] at kk ⊢
    exact W.iast hx hb hc hA (zk_nu hvm) hj rfl rfl hd (fun H' e1 e2 e3 => kk H' e1 e2 e3)
  · simp [zk_sv] at hsv
    have hb2 := zk_inb_ok hP hsv.2
    rw [zk_e0 hsv.1] at kk ⊢
    refine W.bast hx hb hc hA (zk_nu hvm) hj rfl rfl hd (fun H' e1 e2 e3 => kk H' ?_ e2 e3)
    rw [e1]
    have e4 : narrow .byte (.int (Int32.ofInt (zk_n r w))) = .int (Int32.ofInt (zk_n r w)) := by
      rw [narrow_byte, Int32.toInt8_ofInt, zk_i8 hb2]
    rw [e4]
  · simp [zk_sv] at hsv
    have hb2 := zk_inb_ok hP hsv.2
    rw [zk_e0 hsv.1] at kk ⊢
    refine W.zast hx hb hc hA (zk_nu hvm) hj rfl rfl hd (fun H' e1 e2 e3 => kk H' ?_ e2 e3)
    rw [e1]
    have e4 : narrow .boolean (.int (Int32.ofInt (zk_n r w))) = .int (Int32.ofInt (zk_n r w)) := by
      rcases (show zk_n r w = 0 ∨ zk_n r w = 1 by omega) with e | e <;> rw [e] <;> decide
    rw [e4]
  · simp [zk_sv] at hsv
    rw [zk_e1 hsv] at kk ⊢
    exact W.last hx hb hc hA (zk_nu hvm) hj rfl rfl hd (fun H' e1 e2 e3 => kk H' e1 e2 e3)
  · have hsv' := hsv
    unfold zk_sv at hsv'
    rw [if_neg (by omega), if_neg (by omega), if_neg (by omega), if_neg (by omega)] at hsv'
    simp only [Bool.and_eq_true, decide_eq_true_eq] at hsv'
    obtain ⟨hw, hsv'⟩ := hsv'
    split at hsv'
    rotate_left
    · cases hsv'
    rename_i t ht
    simp only [decide_eq_true_eq] at hsv'
    obtain ⟨t2, t3⟩ := hsv'
    obtain ⟨p1, t1⟩ := hrt _ (zk_rtl_mem ht)
    dsimp only at p1 t1
    have hTt := hT.2 _ _ t1
    rw [if_neg (by rw [t2]; decide)] at hTt
    have hC := hTt.2
    unfold zk_C at hC
    rw [if_pos t2] at hC
    obtain ⟨cv, d1, d2, d3, -⟩ := hC
    obtain ⟨kA, comp, n1, n2, n3, -⟩ := hV.2.1 k hk
    obtain ⟨q, hq, -⟩ := hV.2.2.2 t t2
    obtain ⟨⟨-, hfc, kC, hkC, -⟩, -⟩ := hV.1 _ q hq
    have hn3 := n3 h10
    have hname : zk_cn cl (k - 10) = q.1 := by
      unfold zk_cn
      rw [show k - 10 = (D.TT t).2.1 by omega, hq]
    rw [hname] at hn3
    have hcomp : comp = D.dC (D.TT t).2.1 := Option.some.inj (hn3.symm.trans hfc)
    rw [zk_ref hw] at kk ⊢
    refine W.aast hx hb hc (fun q h => by rw [hvm] at h; cases h) (zk_nu hvm) (k := kA) (by rw [hcl]; exact n1) n2 ?_ (kcomp := kC) (by rw [hcomp]; exact hkC) ⟨fun h => hj (Or.inl h), Nat.lt_of_not_le (fun h => hj (Or.inr h))⟩ d1 (fun q h => by rw [d3] at h; cases h) (kv := kC) (by rw [d2]; exact hkC) (by rw [d2]; exact vb_asgS comp _ hn3 hfc) rfl rfl hd (fun H' e1 e2 e3 => kk H' e1 e2 e3)
    simp only [List.mem_cons, List.not_mem_nil, or_false] at hk
    rcases hk with h | h | h | h | h | h | h | h | h <;> subst h <;> first | rfl | omega
theorem zk_ast_ok {SU : zSU} (hx : p.tables.exec = Jvm.exec) (hb : c.code = cc) (hV : zk_env D cl ft s args) (hO : zk_stb D PF PB SU) {B : List Nat} (hB : B = E.2.2.1.2) {ks : List Nat} {i : Instr} (hi : ∀ k ∈ ks, (k = 1 ∧ i = .iastore) ∨ (k = 2 ∧ i = .bastore) ∨ (k = 3 ∧ i = .bastore) ∨ (k = 4 ∧ i = .lastore) ∨ (10 ≤ k ∧ i = .aastore)) (hd : decode cc pc = .ok (i, 1)) (hK : ∀ (n : Nat) (A : zA), K n A = true → zk_W p l e R s m args below meth c Q D E n A) (h : zk_ast D.TT B PB SU ks K pc A = true) : zk_W p l e R s m args below meth c Q D E pc A := by
  unfold zk_ast at h
  split at h
  rotate_left
  · cases h
  rename_i w ix v S hS
  simp only [Bool.and_eq_true, decide_eq_true_eq] at h
  obtain ⟨⟨hv1, hv2, hix⟩, h⟩ := h
  split at h
  rotate_left
  · cases h
  rename_i t ht
  simp only [Bool.and_eq_true, decide_eq_true_eq, List.contains_iff_mem, Bool.not_eq_true'] at h
  obtain ⟨hk, hin, ⟨hlen, hl1⟩, hBt, hsv, hcf, h⟩ := h
  intro r ty H locs ls st I
  have h2 := I.2.1
  subst h2
  rw [hS, List.map_cons, List.map_cons, List.map_cons, zk_ref ⟨hv1, hv2⟩, zk_e0 hix]
  obtain ⟨g1, g2, g3, g4, g5, g6, g7⟩ := I.2.2.2.1
  obtain ⟨p1, t1⟩ := g1 _ (zk_rtl_mem ht)
  dsimp only at p1 t1
  have k0 : (D.TT t).1 ≠ 0 := by rcases hi _ hk with h | h | h | h | h <;> omega
  have k9 : (D.TT t).1 ≠ 9 := by rcases hi _ hk with h | h | h | h | h <;> omega
  obtain ⟨hba, cell, d1, d2, d3, d4, d5⟩ := zk_arr I.2.2.2.2.1 t1 k0 k9
  have hb2 := zk_inb_ok I.2.2.1 hin
  have hx2 := zk_ix hb2.1 hb2.2 hlen
  have hlt : (zk_n r ix).toNat < (D.TT t).2.1 := by omega
  refine zk_store hx hb hV (hV.2.2.1 t k0 k9) (hi _ hk) hd I.2.2.1 g1 I.2.2.2.2.1 hsv d1 d2 d3 (by rw [d4]; exact hx2.1) (fun H' e1 e2 e3 => ?_)
  rw [hx2.2] at e1 ⊢
  refine hK _ _ h r ty H' _ ls _ ?_
  have hself : (cell.setSlot (zk_n r ix).toNat (zk_c r w)).slots[(zk_n r ix).toNat]? = some (zk_c r w) := by
    unfold Cell.setSlot
    rw [Array.getElem?_setIfInBounds, if_pos rfl, if_pos (by rw [d4]; exact hlt)]
  refine zk_I_upd I e2 e3 t1 k9 d1 e1 ?_ (fun _ => by rw [← hB]; exact hBt) (fun z => absurd z k0) (fun g hg => ?_) (fun g hg => ?_) (fun hT' g hg => ?_) (fun g hg => ?_)
  · unfold zk_C
    rw [if_neg k0]
    refine ⟨_, e1, d2, d3, by unfold Cell.setSlot; rw [Array.size_setIfInBounds]; exact d4, fun j hj => ?_⟩
    by_cases ej : j = (zk_n r ix).toNat
    · subst ej
      exact ⟨_, hself, zk_cf_ok I.2.2.1 g1 (List.all_eq_true.mp hcf _ (zk_els_mem I.2.2.2.2.2.2.1 hl1 hlt))⟩
    · rw [slot_ne _ _ (fun z => ej z.symm)]
      exact d5 j hj
  · obtain ⟨⟨u, u1, u2, u3⟩, cw, w1, w2⟩ := g2 g hg
    refine ⟨⟨u, u1, u2, u3⟩, cw, ?_, w2⟩
    rw [e3 _ (fun z => by
      rw [z] at u1
      have : u = t := by omega
      subst this
      exact k0 u2)]
    exact w1
  · rcases List.mem_cons.mp hg with rfl | hg
    · exact ⟨t1, k0, hb2.1, _, e1, hself⟩
    · obtain ⟨hg1, hg2⟩ := List.mem_filter.mp hg
      obtain ⟨u1, u2, u3, cw, w1, w2⟩ := g3 g hg1
      by_cases ea : (r g.1).toNat = (r v.2.1).toNat
      · rw [ea] at u1 w1
        have et : g.2.1 = t := by omega
        simp only [et, BEq.rfl, Bool.not_true, Bool.false_or, Bool.and_eq_true, beq_iff_eq, Bool.not_eq_true', beq_eq_false_iff_ne] at hg2
        cases d1.symm.trans w1
        refine ⟨by rw [ea]; exact u1, u2, u3, _, by rw [ea]; exact e1, ?_⟩
        have hn : (zk_n r ix).toNat ≠ (zk_n r g.2.2.1).toNat := by
          have z1 := hg2.1
          have z2 := hg2.2
          have z3 : zk_n r g.2.2.1 = r ix.2.1 + g.2.2.1.2.2 := by unfold zk_n; rw [z1]
          have z4 : zk_n r ix = r ix.2.1 + ix.2.2 := rfl
          have z5 := hb2.1
          omega
        rw [slot_ne _ _ hn]
        exact w2
      · exact ⟨u1, u2, u3, cw, by rw [e3 _ ea]; exact w1, w2⟩
  · rcases List.mem_append.mp hg with hg | hg
    · exact (hO.2 E).2 t A r ty H H' locs ls _ w ix v S cell I hS ⟨hv1, hv2⟩ t1 k0 k9 d1 e1 hb2.1 (by rw [d4]; exact hlt) e2 e3 hT' g hg
    · obtain ⟨hg1, hg2⟩ := List.mem_filter.mp hg
      refine hO.1 _ _ _ _ _ _ ?_ I.2.2.2.2.1 hT' (g7 g hg1)
      exact zk_st_upd e3 t1 (fun _ z => by rw [List.contains_iff_mem.mpr z] at hg2; cases hg2) d1 e1 (fun z => absurd z k0)
  · rcases List.mem_append.mp hg with hg | hg
    · exact I.2.2.2.2.2.2.2.2.2.1 g hg
    · rw [List.mem_singleton.mp hg]; exact hba
end
end
section
/-! THE CHECKER, 15: cells that are being made. -/
section
variable {p : Program} {l : Launch} {e : Env} {R : Room} {s : State} {m : MethodId} {args : Array Value} {below : List Frame} {meth : Method} {c : Code} {Q : State → Prop} {cc : ByteArray} {pc : Nat} {D : zD} {E : zE} {A : zA} {K : Nat → zA → Bool} {cl : List vw_C} {ft : Nat → Nat → FieldType} {PF : Nat → List (Nat × Nat)} {PB : Nat → List Nat}
theorem zk_I_raw {r : Nat → Int} {ty : Nat → Nat} {H H' : Heap} {locs : List Loc} {ls : Array Slot} {st : List Value} {S : List zV} (I : zk_I D E A r ty H locs ls st) (hO : zk_stable D PF PB) {x : Nat} {q : Nat × List zV} {vs : List zV} (hq : zk_rwl A.2.2.2.1.2.2.2.1 x = some q) (e2 : H'.size = H.size) (e3 : ∀ b, b ≠ (r x).toNat → H'[b]? = H[b]?) (hn : zk_rw D r ty H' (x, q.1, vs)) {j : Nat} : zk_I D E (zk_wR x vs S A) r ty H' (locs ++ [⟨(r x).toNat, j⟩]) ls (S.map (zk_c r)) := by
  obtain ⟨a1, a2, a3, a4, a5, a6, a7, a8, a9, a10, a11⟩ := I
  obtain ⟨g1, g2, g3, g4, g5, g6, g7⟩ := a4
  obtain ⟨r1, r2, r3, -⟩ := g4 _ (zk_rwl_mem hq)
  dsimp only at r1 r2 r3
  have hne : ∀ b : Nat, ty b ≠ 0 → b ≠ (r x).toNat := fun b hb e => hb (by rw [e]; exact r3)
  have hT : zk_T D ty H' := by
    refine ⟨by rw [e2]; exact a5.1, fun b t hb => ?_⟩
    have gg := a5.2 b t hb
    unfold zk_C at gg ⊢
    rw [e3 b (hne b (by omega))]
    exact gg
  have hst : ∀ j, zk_st D (PF j) (PB j) ty H ty H' := fun j => by
    refine ⟨fun _ _ q => q, fun b t hb _ _ => e3 b (hne b (by omega)), fun b t hb _ k _ _ c0 c1 q0 q1 => ?_⟩
    rw [e3 b (hne b (by omega))] at q1
    cases q0.symm.trans q1
    rfl
  have hraw := zk_rws_ok (r := r) (x := x) (vs := vs) (Pr := zk_rw D r ty H) (Pr' := zk_rw D r ty H') g5 g4 (fun q' hq' hn' => by
    obtain ⟨d1, d2, d3, cw, d4, d5⟩ := hq'
    refine ⟨d1, d2, d3, cw, ?_, d5⟩
    rw [e3 _ (by omega)]
    exact d4) (fun o ho => by
    cases hq.symm.trans ho
    exact hn) (by rw [hq]; simp)
  refine ⟨a1, rfl, a3, ⟨g1, fun g hg => ?_, fun g hg => ?_, hraw.1, hraw.2, g6, fun g hg => hO _ _ _ _ _ _ (hst _) a5 hT (g7 g hg)⟩, hT, ?_, a7, a8, a9, fun g hg => ?_, ?_⟩
  · obtain ⟨⟨t, t1, t2⟩, cw, w1, w2⟩ := g2 g hg
    exact ⟨⟨t, t1, t2⟩, cw, by rw [e3 _ (hne _ (by omega))]; exact w1, w2⟩
  · obtain ⟨u1, u2, u3, cw, w1, w2⟩ := g3 g hg
    exact ⟨u1, u2, u3, cw, by rw [e3 _ (hne _ (by omega))]; exact w1, w2⟩
  · obtain ⟨f1, f2, f3, f4, f5, f6⟩ := a6
    refine ⟨by rw [e2]; exact f1, f2, f3, fun b hb hz hu => ?_, fun b t hb h0 hB => ?_, fun b t hb h0 k hk1 hk2 c0 c1 q0 q1 => ?_⟩
    · by_cases e9 : b = (r x).toNat
      · exfalso
        rcases a11 _ (zk_rwl_mem hq) with z | z
        · exact hu (by rw [e9]; exact z)
        · dsimp only at z
          omega
      · rw [e3 b e9]; exact f4 b hb hz hu
    · rw [e3 b (hne b (by have := f2 b t hb; omega))]; exact f5 b t hb h0 hB
    · rw [e3 b (hne b (by have := f2 b t hb; omega))] at q1
      exact f6 b t hb h0 k hk1 hk2 c0 c1 q0 q1
  · rcases List.mem_append.mp hg with hg | hg
    · exact a10 g hg
    · rw [List.mem_singleton.mp hg]; exact r2
  · exact (zk_rws_ok (r := r) (x := x) (vs := vs) (Pr := fun q => E.2.2.2.1.1 (r q.1).toNat ∨ E.2.2.2.1.2.2.size ≤ (r q.1).toNat) (Pr' := fun q => E.2.2.2.1.1 (r q.1).toNat ∨ E.2.2.2.1.2.2.size ≤ (r q.1).toNat) g5 a11 (fun _ z _ => z) (fun o ho => by have z := a11 (x, o) (zk_rwl_mem ho); exact z) (by rw [hq]; simp)).1
theorem zk_rast_ok (hx : p.tables.exec = Jvm.exec) (hb : c.code = cc) (hV : zk_env D cl ft s args) (hO : zk_stable D PF PB) (hd : decode cc pc = .ok (.aastore, 1)) (hK : ∀ (n : Nat) (A : zA), K n A = true → zk_W p l e R s m args below meth c Q D E n A) (h : zk_rast D.TT K pc A = true) : zk_W p l e R s m args below meth c Q D E pc A := by
  unfold zk_rast at h
  split at h
  rotate_left
  · cases h
  rename_i w i v S hS
  simp only [Bool.and_eq_true, decide_eq_true_eq] at h
  obtain ⟨⟨hv1, hv2, hi, hi0, hi1, hi2⟩, h⟩ := h
  split at h
  rotate_left
  · cases h
  rename_i q hq
  simp only [Bool.and_eq_true, decide_eq_true_eq] at h
  obtain ⟨⟨hk, hlt⟩, hsv, h⟩ := h
  intro r ty H locs ls st I
  have h2 := I.2.1
  subst h2
  rw [hS, List.map_cons, List.map_cons, List.map_cons, zk_ref ⟨hv1, hv2⟩, zk_e0 hi]
  obtain ⟨g1, g2, g3, g4, g5⟩ := I.2.2.2.1
  obtain ⟨r1, r2, r3, cell, c1, c2, c3⟩ := g4 _ (zk_rwl_mem hq)
  rw [if_neg (by dsimp only; omega)] at c3
  obtain ⟨c3, c4, c5⟩ := c3
  dsimp only at r1 r2 r3 c1 c3 c4 c5
  have e1 : zk_n r i = i.2.2 := by unfold zk_n; rw [hi0, I.2.2.2.2.2.2.1]; omega
  have hx2 := zk_ix (a := i.2.2) (n := q.2.length) hi1 (by omega)
  have e2 : (Int32.ofInt i.2.2).toNatClampNeg = i.2.2.toNat := by rw [Int32.toNatClampNeg_ofInt_of_le (by omega) (by omega)]
  have hm : q.1 - 1000 ∈ [1, 2, 3, 4, 10, 12, 13, 14, 19] := by
    rcases hk with h | h | h | h | h <;> rw [h] <;> decide
  have h10 : 10 ≤ q.1 - 1000 := by omega
  rw [e1]
  refine zk_store hx hb hV hm (Or.inr (Or.inr (Or.inr (Or.inr ⟨h10, rfl⟩)))) hd I.2.2.1 g1 I.2.2.2.2.1 hsv c1 c3 c2 ?_ (fun H' e4 e5 e6 => ?_)
  · rw [e2, c4]
    rintro (h | h)
    · have := Int32.lt_iff_toInt_lt.mp h
      rw [zk_i32 (by omega) (by omega)] at this
      have e0 : (0 : Int32).toInt = 0 := by decide
      omega
    · omega
  · rw [e2] at e4 ⊢
    refine hK _ _ h r ty H' _ ls _ (zk_I_raw I hO hq e5 e6 ⟨r1, r2, r3, _, e4, c2, ?_⟩)
    rw [if_neg (by dsimp only; omega)]
    refine ⟨c3, by unfold Cell.setSlot; rw [Array.size_setIfInBounds, c4]; exact (List.length_set ..).symm, fun k u hk2 => ?_⟩
    dsimp only at hk2
    by_cases ek : k = i.2.2.toNat
    · subst ek
      rw [List.getElem?_set_self hlt] at hk2
      cases hk2
      unfold Cell.setSlot
      rw [Array.getElem?_setIfInBounds, if_pos rfl, if_pos (by rw [c4]; exact hlt)]
    · rw [List.getElem?_set_ne (fun e => ek e.symm)] at hk2
      rw [slot_ne _ _ (fun z => ek z.symm)]
      exact c5 k u hk2
end
end
section
/-! THE CHECKER, 16: a cell more; a type more. -/
def zk_tu (ty : Nat → Nat) (a t : Nat) : Nat → Nat := fun b => if b = a then t + 1 else ty b
section
variable {D : zD} {E : zE} {A : zA} {r : Nat → Int} {ty : Nat → Nat} {H H' : Heap} {locs : List Loc} {ls : Array Slot} {st : List Value} {a t : Nat} {PF : Nat → List (Nat × Nat)} {PB : Nat → List Nat}
theorem zk_tu_keep (ha : ty a = 0) {b u : Nat} (h : ty b = u + 1) : zk_tu ty a t b = u + 1 := by
  unfold zk_tu
  rw [if_neg (fun e => by rw [e, ha] at h; omega)]
  exact h
theorem zk_vt_mono {ty' : Nat → Nat} (hm : ∀ b u : Nat, ty b = u + 1 → ty' b = u + 1) {x : Value} {q : zT} (h : zk_vt ty x q) : zk_vt ty' x q := by
  obtain ⟨z, h1, i, hi, h2⟩ := h
  refine ⟨z, h1, i, hi, ?_⟩
  split at h2
  · rename_i e
    rw [if_pos e]
    exact ⟨h2.1, hm _ _ h2.2⟩
  · rename_i e
    rw [if_neg e]
    exact h2
theorem zk_C_mono {ty' : Nat → Nat} (hm : ∀ b u : Nat, ty b = u + 1 → ty' b = u + 1) (he : H'[a]? = H[a]?) {S : zS} (h : zk_C D ty H a S) : zk_C D ty' H' a S := by
  unfold zk_C at h ⊢
  rw [he]
  split at h
  · rename_i e
    rw [if_pos e]
    obtain ⟨cell, h1, h2, h3, h4⟩ := h
    refine ⟨cell, h1, h2, h3, fun k q hk => ?_⟩
    obtain ⟨x, x1, x2⟩ := h4 k q hk
    exact ⟨x, x1, zk_vt_mono hm x2⟩
  · rename_i e
    rw [if_neg e]
    obtain ⟨cell, h1, h2, h3, h4, h5⟩ := h
    refine ⟨cell, h1, h2, h3, h4, fun j hj => ?_⟩
    obtain ⟨x, x1, x2⟩ := h5 j hj
    exact ⟨x, x1, zk_vt_mono hm x2⟩
theorem zk_C_lt {S : zS} (h : zk_C D ty H a S) : a < H.size := by
  unfold zk_C at h
  split at h
  · obtain ⟨cell, h1, -⟩ := h
    exact (Array.getElem?_eq_some_iff.mp h1).1
  · obtain ⟨cell, h1, -⟩ := h
    exact (Array.getElem?_eq_some_iff.mp h1).1
theorem zk_T_lt (h : zk_T D ty H) (ha : ty a ≠ 0) : a < H.size := by
  obtain ⟨t, ht⟩ : ∃ t, ty a = t + 1 := ⟨ty a - 1, by omega⟩
  have g := h.2 a t ht
  split at g
  · have := h.1
    omega
  · exact zk_C_lt g.2
/-- a type is given to a cell that had none -/
theorem zk_T_grow (h : zk_T D ty H) (ha : ty a = 0) (hba : D.ba ≤ a ∧ D.RO t a) (h9 : (D.TT t).1 ≠ 9) (hC : zk_C D (zk_tu ty a t) H a (D.TT t)) : zk_T D (zk_tu ty a t) H := by
  refine ⟨h.1, fun b u hb => ?_⟩
  by_cases e : b = a
  · subst e
    have : u = t := by unfold zk_tu at hb; rw [if_pos rfl] at hb; omega
    subst this
    rw [if_neg h9]
    exact ⟨hba, hC⟩
  · unfold zk_tu at hb
    rw [if_neg e] at hb
    have g := h.2 b u hb
    split at g
    · rename_i e9
      rw [if_pos e9]; exact g
    · rename_i e9
      rw [if_neg e9]
      exact ⟨g.1, zk_C_mono (fun _ _ => zk_tu_keep ha) rfl g.2⟩
theorem zk_F_grow {F : List (Nat × Nat)} {B : List Nat} {U : Nat → Prop} {t0 : Nat → Nat} {H0 : Heap} (h : zk_F D F B U t0 H0 ty H) (ha : ty a = 0) (hU : U a ∨ H0.size ≤ a) : zk_F D F B U t0 H0 (zk_tu ty a t) H := by
  obtain ⟨h1, h2, h3, h4⟩ := h
  refine ⟨h1, fun b u hb => zk_tu_keep ha (h2 b u hb), fun b hb hu => ?_, h4⟩
  unfold zk_tu
  rw [if_neg (fun e => by
    subst e
    rcases hU with z | z
    · exact hu z
    · omega)]
  exact h3 b hb hu
theorem zk_H_grow {G : zG} (hO : zk_stable D PF PB) (hT : zk_T D ty H) (hT' : zk_T D (zk_tu ty a t) H) (ha : ty a = 0) (hr : ∀ q ∈ G.2.2.2.1, (r q.1).toNat ≠ a) (h : zk_H D r ty H G) : zk_H D r (zk_tu ty a t) H G := by
  obtain ⟨g1, g2, g3, g4, g5, g6, g7⟩ := h
  refine ⟨fun q hq => ⟨(g1 q hq).1, zk_tu_keep ha (g1 q hq).2⟩, fun q hq => ?_, fun q hq => ?_, fun q hq => ?_, g5, g6, fun q hq => ?_⟩
  · obtain ⟨⟨u, u1, u2⟩, w⟩ := g2 q hq
    exact ⟨⟨u, zk_tu_keep ha u1, u2⟩, w⟩
  · obtain ⟨u1, u2⟩ := g3 q hq
    exact ⟨zk_tu_keep ha u1, u2⟩
  · obtain ⟨u1, u2, u3, u4⟩ := g4 q hq
    refine ⟨u1, u2, ?_, u4⟩
    unfold zk_tu
    rw [if_neg (hr q hq)]
    exact u3
  · refine hO _ _ _ _ _ _ ⟨fun _ _ => zk_tu_keep ha, fun _ _ _ _ _ => rfl, fun b u hb _ k _ _ c0 c1 e0 e1 => ?_⟩ hT hT' (g7 q hq)
    cases e0.symm.trans e1
    rfl
/-- a cell is made at the heap's end -/
theorem zk_T_push (h : zk_T D ty H) (hs : H'.size = H.size + 1) (ho : ∀ b, b < H.size → H'[b]? = H[b]?) : zk_T D ty H' := by
  refine ⟨by rw [hs]; exact Nat.le_succ_of_le h.1, fun b u hb => ?_⟩
  have hlt := zk_T_lt (a := b) h (by omega)
  have g := h.2 b u hb
  split at g
  · rename_i e9
    rw [if_pos e9]; exact g
  · rename_i e9
    rw [if_neg e9]
    exact ⟨g.1, zk_C_mono (fun _ _ z => z) (ho b hlt) g.2⟩
theorem zk_F_push {F : List (Nat × Nat)} {B : List Nat} {U : Nat → Prop} {t0 : Nat → Nat} {H0 : Heap} (hT : zk_T D ty H) (h : zk_F D F B U t0 H0 ty H) (hs : H'.size = H.size + 1) (ho : ∀ b, b < H.size → H'[b]? = H[b]?) : zk_F D F B U t0 H0 ty H' := by
  obtain ⟨h1, h2, h3, h4, h5, h6⟩ := h
  refine ⟨by omega, h2, h3, fun b hb hz hu => by rw [ho b (by omega)]; exact h4 b hb hz hu, fun b u hb h0 hB => ?_, fun b u hb h0 k hk1 hk2 c0 c1 e0 e1 => ?_⟩
  · rw [ho b (zk_T_lt hT (by have := h2 b u hb; omega))]; exact h5 b u hb h0 hB
  · rw [ho b (zk_T_lt hT (by have := h2 b u hb; omega))] at e1; exact h6 b u hb h0 k hk1 hk2 c0 c1 e0 e1
theorem zk_H_push {G : zG} (hO : zk_stable D PF PB) (hT : zk_T D ty H) (hs : H'.size = H.size + 1) (ho : ∀ b, b < H.size → H'[b]? = H[b]?) (h : zk_H D r ty H G) : zk_H D r ty H' G := by
  have hT' := zk_T_push hT hs ho
  have hk : ∀ {b : Nat} {cell : Cell}, H[b]? = some cell → H'[b]? = some cell := fun {b cell} hb => by rw [ho b (Array.getElem?_eq_some_iff.mp hb).1]; exact hb
  obtain ⟨g1, g2, g3, g4, g5, g6, g7⟩ := h
  refine ⟨g1, fun q hq => ?_, fun q hq => ?_, fun q hq => ?_, g5, g6, fun q hq => ?_⟩
  · obtain ⟨u, cw, w1, w2⟩ := g2 q hq
    exact ⟨u, cw, hk w1, w2⟩
  · obtain ⟨u1, u2, u3, cw, w1, w2⟩ := g3 q hq
    exact ⟨u1, u2, u3, cw, hk w1, w2⟩
  · obtain ⟨u1, u2, u3, cw, w1, w2⟩ := g4 q hq
    exact ⟨u1, u2, u3, cw, hk w1, w2⟩
  · refine hO _ _ _ _ _ _ ⟨fun _ _ z => z, fun b u hb _ _ => ho b (zk_T_lt hT (by omega)), fun b u hb _ k _ _ c0 c1 e0 e1 => ?_⟩ hT hT' (g7 q hq)
    rw [ho b (zk_T_lt hT (by omega))] at e1
    cases e0.symm.trans e1
    rfl
theorem zk_I_push (hO : zk_stable D PF PB) (hs : H'.size = H.size + 1) (ho : ∀ b, b < H.size → H'[b]? = H[b]?) (I : zk_I D E A r ty H locs ls st) : zk_I D E A r ty H' locs ls st := by
  obtain ⟨a1, a2, a3, a4, a5, a6, a7⟩ := I
  exact ⟨a1, a2, a3, zk_H_push hO a5 hs ho a4, zk_T_push a5 hs ho, zk_F_push a5 a6 hs ho, a7⟩
end
/-- a value that a new place holds -/
def zk_dz (f : FieldType) : zV := match f with
  | .int => (0, 0, 0) | .boolean => (0, 0, 0) | .byte => (0, 0, 0) | .long => (1, 0, 0) | _ => (3, 0, 0)
def zk_dok (f : FieldType) : Bool := match f with
  | .int => true | .boolean => true | .byte => true | .long => true | .object _ => true | .array _ => true | _ => false
theorem zk_dz_ok {f : FieldType} (h : zk_dok f = true) {r : Nat → Int} (h0 : r 0 = 0) : defaultValue f = zk_c r (zk_dz f) := by
  cases f <;> simp_all [zk_dok, zk_dz, zk_c, zk_k, zk_n, defaultValue]
end
section
/-! THE CHECKER, 17: new. -/
def zk_nA (q : Nat × List zV) (n : Nat) (S : List zV) (A : zA) : zA := (A.1, (2, A.2.2.2.2.1, 0) :: S, A.2.2.1, (A.2.2.2.1.1, A.2.2.2.1.2.1, A.2.2.2.1.2.2.1, (A.2.2.2.2.1, q) :: A.2.2.2.1.2.2.2.1, A.2.2.2.1.2.2.2.2), (A.2.2.2.2.1 + 1, A.2.2.2.2.2.1, A.2.2.2.2.2.2.1 + 1, A.2.2.2.2.2.2.2 + n))
def zk_tA (t n : Nat) (S : List zV) (A : zA) : zA := (A.1, (2, A.2.2.2.2.1, 0) :: S, A.2.2.1, ((A.2.2.2.2.1, t) :: A.2.2.2.1.1, A.2.2.2.1.2), (A.2.2.2.2.1 + 1, A.2.2.2.2.2.1, A.2.2.2.2.2.2.1 + 1, A.2.2.2.2.2.2.2 + n))
def zk_dvs (cl : List vw_C) (ft : Nat → Nat → FieldType) (ci : Nat) : List zV := (List.range (zk_nfl cl ci)).map (fun k => zk_dz (ft ci k))
def zk_new (cl : List vw_C) (ft : Nat → Nat → FieldType) (NX : Nat → Option (Nat × Nat)) (n0 rc rs : Nat) (K : Nat → zA → Bool) (pc idx : Nat) (A : zA) : Bool := match NX idx with
  | some q => zk_ok n0 A && (decide (A.2.2.2.2.2.2.1 + 1 ≤ rc ∧ A.2.2.2.2.2.2.2 + q.2 ≤ rs ∧ q.1 < 1000) && ((List.range (zk_nfl cl q.1)).all (fun k => zk_dok (ft q.1 k)) && K (pc + 3) (zk_nA (q.1, zk_dvs cl ft q.1) q.2 A.2.1 A)))
  | none => false
def zk_ak (t : ArrayType) : Nat := match t with
  | .int => 1 | .byte => 2 | .boolean => 3 | .long => 4 | _ => 0
def zk_newa (TT : Nat → zS) (AT : Nat → Option Nat) (n0 rc rs : Nat) (K : Nat → zA → Bool) (pc : Nat) (at_ : ArrayType) (A : zA) : Bool := match A.2.1, AT pc with
  | v :: S, some t => decide (v = (0, 0, ((TT t).2.1 : Int)) ∧ (TT t).1 = zk_ak at_ ∧ zk_ak at_ ≠ 0 ∧ (TT t).2.1 * 8 ≤ 536870912 ∧ ((TT t).2.2.length = 1 ∨ (TT t).2.2.length = (TT t).2.1)) && (zk_ok n0 A && (decide (A.2.2.2.2.2.2.1 + 1 ≤ rc ∧ A.2.2.2.2.2.2.2 + (TT t).2.1 ≤ rs) && ((TT t).2.2.all (fun q => zk_cf A.2.2.1 A.2.2.2.1.1 (if (TT t).1 = 4 then (1, 0, 0) else (0, 0, 0)) q) && K (pc + 2) (zk_tA t (TT t).2.1 S A))))
  | _, _ => false
def zk_anew (NA : Nat → Option Nat) (n0 rc rs : Nat) (K : Nat → zA → Bool) (pc idx : Nat) (A : zA) : Bool := match A.2.1, NA idx with
  | v :: S, some ci => decide (v.1 = 0 ∧ v.2.1 = 0 ∧ 0 ≤ v.2.2 ∧ v.2.2 ≤ 1000) && (zk_ok n0 A && (decide (A.2.2.2.2.2.2.1 + 1 ≤ rc ∧ A.2.2.2.2.2.2.2 + v.2.2.toNat ≤ rs ∧ (ci = 0 ∨ ci = 2 ∨ ci = 3 ∨ ci = 4 ∨ ci = 9)) && K (pc + 3) (zk_nA (1010 + ci, List.replicate v.2.2.toNat (3, 0, 0)) v.2.2.toNat S A)))
  | _, _ => false
section
variable {p : Program} {l : Launch} {e : Env} {R : Room} {s : State} {m : MethodId} {args : Array Value} {below : List Frame} {meth : Method} {c : Code} {Q : State → Prop} {cc : ByteArray} {pc : Nat} {D : zD} {E : zE} {A : zA} {K : Nat → zA → Bool} {cl : List vw_C} {ft : Nat → Nat → FieldType} {own : String} {PF : Nat → List (Nat × Nat)} {PB : Nat → List Nat}
variable {r : Nat → Int} {ty : Nat → Nat} {H H' : Heap} {locs : List Loc} {ls : Array Slot} {st : List Value} {S : List zV}
theorem zk_szn {H : Heap} : (zk_u r A.2.2.2.2.1 (H.size : Int) A.2.2.2.2.1).toNat = H.size := by rw [zk_u_n]; omega
/-- a cell was made, and nothing is known of it yet but what it holds -/
theorem zk_I_nA (hO : zk_stable D PF PB) (hok : zk_ok E.2.1.1 A = true) (I : zk_I D E A r ty H locs ls st) (hs : H'.size = H.size + 1) (ho : ∀ b, b < H.size → H'[b]? = H[b]?) (hS : ∀ v ∈ S, v ∈ A.2.1) {q : Nat × List zV} {n : Nat} {cell : Cell} (hc : H'[H.size]? = some cell) (hvm : cell.vm = .none)
    (hq : ∀ r : Nat → Int, r 0 = 0 → if q.1 < 1000 then cell.cls = D.dC q.1 ∧ ∀ (k : Nat) (v : zV), q.2[k]? = some v → cell.slots[D.dI q.1 k]? = some (zk_c r v) else cell.cls = D.cA (q.1 - 1000) ∧ cell.slots.size = q.2.length ∧ ∀ (k : Nat) (v : zV), q.2[k]? = some v → cell.slots[k]? = some (zk_c r v)) : zk_I D E (zk_nA q n S A) (zk_u r A.2.2.2.2.1 (H.size : Int)) ty H' locs ls (.ref H.size :: S.map (zk_c r)) := by
  have I2 := zk_I_push hO hs ho I
  have hn := zk_I_new (r' := zk_u r A.2.2.2.2.1 (H.size : Int)) hok (fun y hy => zk_u_ne hy) I2
  have eS : S.map (zk_c (zk_u r A.2.2.2.2.1 (H.size : Int))) = S.map (zk_c r) := by
    apply List.map_congr_left
    intro v hv
    exact zk_c_new (zk_okS hok (hS v hv))
  have hz : ty H.size = 0 := by
    rcases Nat.eq_zero_or_pos (ty H.size) with z | z
    · exact z
    · exact absurd (zk_T_lt I.2.2.2.2.1 (a := H.size) (by omega)) (Nat.lt_irrefl _)
  have hold : ∀ q ∈ A.2.2.2.1.2.2.2.1, zk_u r A.2.2.2.2.1 (H.size : Int) q.1 = r q.1 ∧ (r q.1).toNat < H.size ∧ 0 ≤ r q.1 := by
    intro q hq
    have f4 : q.1 < A.2.2.2.2.1 := by
      have h := hok
      simp only [zk_ok, zk_fA, zk_fG, Bool.and_eq_true, List.all_eq_true] at h
      exact zk_blt (h.2.2.1.2.1.1.2 q hq).1
    obtain ⟨r1, -, -, cw, w1, -⟩ := I.2.2.2.1.2.2.2.1 q hq
    exact ⟨zk_u_ne f4, (Array.getElem?_eq_some_iff.mp w1).1, r1⟩
  obtain ⟨a1, a2, a3, a4, a5, a6, a7, a8, a9, a10, a11⟩ := hn
  obtain ⟨g1, g2, g3, g4, g5, g6, g7⟩ := a4
  refine ⟨a1, ?_, a3, ⟨g1, g2, g3, fun g hg => ?_, List.pairwise_cons.mpr ⟨fun g hg => ?_, g5⟩, g6, g7⟩, a5, a6, a7, a8, a9, a10, fun g hg => ?_⟩
  · show _ = ((2, A.2.2.2.2.1, 0) :: S).map _
    rw [List.map_cons, zk_c_n, eS]
    simp [zk_k]
  · rcases List.mem_cons.mp hg with rfl | hg
    · unfold zk_rw
      dsimp only
      rw [zk_szn]
      refine ⟨by rw [zk_u_n]; omega, by have := I.2.2.2.2.1.1; exact this, hz, cell, hc, hvm, hq _ a7⟩
    · exact g4 g hg
  · have := hold g hg
    dsimp only
    rw [zk_u_n, this.1]
    omega
  · rcases List.mem_cons.mp hg with rfl | hg
    · right
      dsimp only
      rw [zk_szn]
      exact I.2.2.2.2.2.1.1
    · exact a11 g hg
def zk_NX (cl : List vw_C) (NX : Nat → Option (Nat × Nat)) (own : String) (s : State) (args : Array Value) : Prop := ∀ (idx : Nat) (q : Nat × Nat), NX idx = some q → ∃ w : vw_C, cl[q.1]? = some w ∧ (Cond.classLink own idx w.1).before args s = true ∧ (Cond.instantiable w.1 q.2).before args s = true ∧ (Cond.initialized w.1).before args s = true
theorem zk_new_ok {n0 rc rs : Nat} {NX : Nat → Option (Nat × Nat)} (hx : p.tables.exec = Jvm.exec) (hb : c.code = cc) (hown : s.vm.findClass own = some m.cls) (hV : zk_env D cl ft s args) (hNX : zk_NX cl NX own s args) (hO : zk_stable D PF PB) (hn0 : n0 = E.2.1.1) (hR : rc ≤ R.cells ∧ rs ≤ R.slots) (hK : ∀ (n : Nat) (A : zA), K n A = true → zk_W p l e R s m args below meth c Q D E n A) {idx : Nat} (hd : decode cc pc = .ok (.new idx, 3)) (h : zk_new cl ft NX n0 rc rs K pc idx A = true) : zk_W p l e R s m args below meth c Q D E pc A := by
  unfold zk_new at h
  split at h
  rotate_left
  · cases h
  rename_i q hq
  simp only [Bool.and_eq_true, decide_eq_true_eq, List.all_eq_true] at h
  obtain ⟨hok, ⟨hc1, hc2, hc3⟩, hdk, h⟩ := h
  intro r ty H locs ls st I
  have h2 := I.2.1
  subst h2
  obtain ⟨w, w1, w2, w3, w4⟩ := hNX idx q hq
  obtain ⟨hKn, hl, hty, -, -⟩ := hV.1 _ w w1
  refine W.newc hx hb hown w2 w3 w4 rfl hd (Nat.le_trans hc1 hR.1) (Nat.le_trans hc2 hR.2) (fun cC kC k1 k2 k3 k4 => ?_)
  have ecC : cC = D.dC q.1 := Option.some.inj (k1.symm.trans hKn.2.1)
  have hpush : (H.push (blank cC kC))[H.size]? = some (blank cC kC) := by simp
  refine hK _ _ h _ ty _ locs ls _ (zk_I_nA (cell := blank cC kC) hO (hn0 ▸ hok) I (by simp [blank]) (fun b hb2 => by rw [Array.getElem?_push, if_neg (by omega)]) (fun _ z => z) hpush rfl (fun r h0 => ?_))
  rw [if_pos hc3]
  refine ⟨ecC, fun k v hk => ?_⟩
  have hb3 := u_born (o := H.size) (H := H.push (blank cC kC)) (ft q.1) (ws := u_ws w.1 w.2.1 w.2.2) (fun x hx => hl x hx) (fun x hx => hx) (ecC ▸ hKn) k2 hpush hty
  obtain ⟨cell, c1, c2, c3, c4⟩ := hb3
  cases hpush.symm.trans c1
  unfold zk_dvs at hk
  rw [List.getElem?_map] at hk
  have hn : zk_nfl cl q.1 = w.2.2 := by unfold zk_nfl; rw [w1]
  rw [hn] at hk hdk
  cases hg : (List.range w.2.2)[k]? with
  | none => rw [hg] at hk; cases hk
  | some k' =>
    rw [hg] at hk
    have hk' : k < w.2.2 ∧ k' = k := by
      obtain ⟨z1, z2⟩ := List.getElem?_eq_some_iff.mp hg
      simp only [List.length_range] at z1
      simp only [List.getElem_range] at z2
      exact ⟨z1, z2.symm⟩
    obtain ⟨hk1, rfl⟩ := hk'
    cases hk
    rw [c4 _ hk1]
    exact congrArg some (zk_dz_ok (hdk _ (List.mem_range.mpr hk1)) h0)
def zk_NA (cl : List vw_C) (NA : Nat → Option Nat) (own : String) (s : State) (args : Array Value) : Prop := ∀ (idx ci : Nat), NA idx = some ci → (Cond.classLink own idx (zk_cn cl ci)).before args s = true ∧ (Cond.arrayOver (.object (zk_cn cl ci))).before args s = true
theorem zk_anew_ok {n0 rc rs : Nat} {NA : Nat → Option Nat} (hx : p.tables.exec = Jvm.exec) (hb : c.code = cc) (hown : s.vm.findClass own = some m.cls) (hV : zk_env D cl ft s args) (hNA : zk_NA cl NA own s args) (hO : zk_stable D PF PB) (hn0 : n0 = E.2.1.1) (hR : rc ≤ R.cells ∧ rs ≤ R.slots) (hK : ∀ (n : Nat) (A : zA), K n A = true → zk_W p l e R s m args below meth c Q D E n A) {idx : Nat} (hd : decode cc pc = .ok (.anewarray idx, 3)) (h : zk_anew NA n0 rc rs K pc idx A = true) : zk_W p l e R s m args below meth c Q D E pc A := by
  unfold zk_anew at h
  split at h
  rotate_left
  · cases h
  rename_i v S ci hS hci
  simp only [Bool.and_eq_true, decide_eq_true_eq] at h
  obtain ⟨⟨v1, v2, v3, v4⟩, hok, ⟨hc1, hc2, hc3⟩, h⟩ := h
  intro r ty H locs ls st I
  have h2 := I.2.1
  subst h2
  have e1 : zk_n r v = v.2.2 := by unfold zk_n; rw [v2, I.2.2.2.2.2.2.1]; omega
  have e2 : (Int32.ofInt v.2.2).toNatClampNeg = v.2.2.toNat := by rw [Int32.toNatClampNeg_ofInt_of_le (by omega) (by omega)]
  rw [hS, List.map_cons, zk_e0 v1, e1]
  obtain ⟨w2, w3⟩ := hNA idx ci hci
  refine W.anew hx hb hown w2 w3 rfl hd rfl ?_ (by rw [e2]; omega) (Nat.le_trans hc1 hR.1) (by rw [e2]; exact Nat.le_trans hc2 hR.2) (fun cA kA comp k1 k2 k3 k4 => ?_)
  · intro hlt
    have := Int32.lt_iff_toInt_lt.mp hlt
    rw [zk_i32 (by omega) (by omega)] at this
    have e0 : (0 : Int32).toInt = 0 := by decide
    omega
  · rw [e2]
    obtain ⟨hm, hm2⟩ : 10 + ci ∈ [1, 2, 3, 4, 10, 12, 13, 14, 19] ∧ zk_et cl (10 + ci) = .object (zk_cn cl ci) := by
      rcases hc3 with z | z | z | z | z <;> subst z <;> exact ⟨by decide, rfl⟩
    obtain ⟨kA', comp', n1, n2, n3, n4⟩ := hV.2.1 _ hm
    rw [hm2] at n4
    have ecA : cA = D.cA (10 + ci) := Option.some.inj (k1.symm.trans n4)
    refine hK _ _ h _ ty _ locs ls _ (zk_I_nA (cell := { cls := cA, slots := Array.replicate v.2.2.toNat .null, vm := .none }) hO (hn0 ▸ hok) I (by simp) (fun b hb2 => by rw [Array.getElem?_push, if_neg (by omega)]) (fun u hu => by rw [hS]; simp [hu]) (by simp) rfl (fun r h0 => ?_))
    dsimp only
    rw [if_neg (by omega)]
    have e9 : 1010 + ci - 1000 = 10 + ci := by omega
    rw [e9]
    refine ⟨ecA, by simp, fun k u hk => ?_⟩
    rw [List.getElem?_replicate] at hk
    split at hk
    · cases hk
      rw [Array.getElem?_replicate, if_pos (by assumption)]
      rfl
    · cases hk
end
end
section
/-! THE CHECKER, 18: arrays of numbers are made; a cell that is made gets its type. -/
section
variable {p : Program} {l : Launch} {e : Env} {R : Room} {s : State} {m : MethodId} {args : Array Value} {below : List Frame} {meth : Method} {c : Code} {Q : State → Prop} {cc : ByteArray} {pc : Nat} {D : zD} {E : zE} {A : zA} {K : Nat → zA → Bool} {cl : List vw_C} {ft : Nat → Nat → FieldType} {own : String} {PF : Nat → List (Nat × Nat)} {PB : Nat → List Nat}
variable {r : Nat → Int} {ty : Nat → Nat} {H H' : Heap} {locs : List Loc} {ls : Array Slot} {st : List Value} {S : List zV}
/-- a type may be given to any cell -/
def zk_fr (D : zD) : Prop := ∀ t a : Nat, (D.TT t).1 ≠ 9 → D.RO t a
theorem zk_newa_ok {n0 rc rs : Nat} {AT : Nat → Option Nat} (hQ : zk_fr D ∨ ∀ pc, AT pc = none) (hx : p.tables.exec = Jvm.exec) (hb : c.code = cc) (hV : zk_env D cl ft s args) (hAC : ∀ k : ArrayType, zk_ak k ≠ 0 → (Cond.arrayClass (newarray.typeOf k)).before args s = true) (hO : zk_stable D PF PB) (hn0 : n0 = E.2.1.1) (hR : rc ≤ R.cells ∧ rs ≤ R.slots) (hK : ∀ (n : Nat) (A : zA), K n A = true → zk_W p l e R s m args below meth c Q D E n A) {k : ArrayType} (hd : decode cc pc = .ok (.newarray k, 2)) (h : zk_newa D.TT AT n0 rc rs K pc k A = true) : zk_W p l e R s m args below meth c Q D E pc A := by
  unfold zk_newa at h
  split at h
  rotate_left
  · cases h
  rename_i v S t hS hAT
  simp only [Bool.and_eq_true, decide_eq_true_eq, List.all_eq_true] at h
  obtain ⟨⟨hv, hk, hk0, hby, hl1⟩, hok, ⟨hc1, hc2⟩, hcf, h⟩ := h
  intro r ty H locs ls st I
  have h2 := I.2.1
  subst h2
  have hok' : zk_ok E.2.1.1 A = true := hn0 ▸ hok
  have e1 : zk_n r v = ((D.TT t).2.1 : Int) := by rw [hv]; unfold zk_n; dsimp only; rw [I.2.2.2.2.2.2.1]; omega
  have e2 : (Int32.ofInt ((D.TT t).2.1 : Int)).toNatClampNeg = (D.TT t).2.1 := by rw [Int32.toNatClampNeg_ofInt_of_le (by omega) (by omega)]; omega
  rw [hS, List.map_cons, zk_e0 (by rw [hv]), e1]
  have hkk : (D.TT t).1 ∈ [1, 2, 3, 4, 10, 12, 13, 14, 19] ∧ (D.TT t).1 ≠ 0 ∧ (D.TT t).1 ≠ 9 ∧ zk_et cl (D.TT t).1 = newarray.typeOf k ∧ componentBytes (newarray.typeOf k) ≤ 8 ∧ defaultValue (newarray.typeOf k) = zk_c r (if (D.TT t).1 = 4 then (1, 0, 0) else (0, 0, 0)) := by
    rw [hk]
    have h0 := I.2.2.2.2.2.2.1
    cases k <;> simp [zk_ak, newarray.typeOf, zk_et, componentBytes, defaultValue, zk_c, zk_k, zk_n, h0] at hk0 ⊢
  obtain ⟨hm, k0, k9, hty, hcb, hdf⟩ := hkk
  refine W.newa hx hb (hAC k hk0) rfl hd rfl ?_ (by rw [e2]; exact Nat.le_trans (Nat.mul_le_mul_left _ hcb) hby) (Nat.le_trans hc1 hR.1) (by rw [e2]; exact Nat.le_trans hc2 hR.2) (fun cA kA comp k1 k2 k3 => ?_)
  · intro hlt
    have := Int32.lt_iff_toInt_lt.mp hlt
    rw [zk_i32 (by omega) (by omega)] at this
    have e0 : (0 : Int32).toInt = 0 := by decide
    omega
  rw [e2]
  obtain ⟨kA', comp', n1, n2, n3, n4⟩ := hV.2.1 _ hm
  rw [hty] at n4
  have ecA : cA = D.cA (D.TT t).1 := Option.some.inj (k1.symm.trans n4)
  have hs : (H.push { cls := cA, slots := Array.replicate (D.TT t).2.1 (defaultValue (newarray.typeOf k)), vm := .none }).size = H.size + 1 := by simp
  have ho : ∀ b, b < H.size → (H.push { cls := cA, slots := Array.replicate (D.TT t).2.1 (defaultValue (newarray.typeOf k)), vm := .none })[b]? = H[b]? := fun b hb2 => by rw [Array.getElem?_push, if_neg (by omega)]
  have hpush : (H.push { cls := cA, slots := Array.replicate (D.TT t).2.1 (defaultValue (newarray.typeOf k)), vm := .none })[H.size]? = some { cls := cA, slots := Array.replicate (D.TT t).2.1 (defaultValue (newarray.typeOf k)), vm := .none } := by simp
  generalize hHH : H.push { cls := cA, slots := Array.replicate (D.TT t).2.1 (defaultValue (newarray.typeOf k)), vm := .none } = H' at hs ho hpush
  have I2 := zk_I_push hO hs ho I
  have hn := zk_I_new (r' := zk_u r A.2.2.2.2.1 (H.size : Int)) hok' (fun y hy => zk_u_ne hy) I2
  have eS : S.map (zk_c (zk_u r A.2.2.2.2.1 (H.size : Int))) = S.map (zk_c r) := by
    apply List.map_congr_left
    intro v hv
    exact zk_c_new (zk_okS hok' (by rw [hS]; simp [hv]))
  have hz : ty H.size = 0 := by
    rcases Nat.eq_zero_or_pos (ty H.size) with z | z
    · exact z
    · exact absurd (zk_T_lt I.2.2.2.2.1 (a := H.size) (by omega)) (Nat.lt_irrefl _)
  have hold : ∀ q ∈ A.2.2.2.1.2.2.2.1, (zk_u r A.2.2.2.2.1 (H.size : Int) q.1).toNat ≠ H.size := by
    intro q hq
    have f4 : q.1 < A.2.2.2.2.1 := by
      have h := hok'
      simp only [zk_ok, zk_fA, zk_fG, Bool.and_eq_true, List.all_eq_true] at h
      exact zk_blt (h.2.2.1.2.1.1.2 q hq).1
    obtain ⟨r1, -, -, cw, w1, -⟩ := I.2.2.2.1.2.2.2.1 q hq
    rw [zk_u_ne f4]
    have := (Array.getElem?_eq_some_iff.mp w1).1
    omega
  have hrt := I.2.2.2.1.1
  have hP := I.2.2.1
  have hT' : zk_T D (zk_tu ty H.size t) H' := by
    have hRO : D.RO t H.size := by
      rcases hQ with z | z
      · exact z t _ k9
      · rw [z] at hAT; cases hAT
    refine zk_T_grow I2.2.2.2.2.1 hz ⟨I.2.2.2.2.1.1, hRO⟩ k9 ?_
    unfold zk_C
    rw [if_neg k0]
    refine ⟨_, hpush, ecA, rfl, by simp, fun j hj => ⟨defaultValue (newarray.typeOf k), by simp [hj], ?_⟩⟩
    refine zk_vt_mono (fun _ _ => zk_tu_keep hz) ?_
    rw [hdf]
    refine zk_cf_ok hP hrt (hcf _ ?_)
    unfold zk_el
    split
    · rename_i q hq
      rw [hq]; exact List.mem_singleton.mpr rfl
    · rename_i hl2
      have hjl : j < (D.TT t).2.2.length := by
        rcases hl1 with z | z
        · obtain ⟨q, hq⟩ := List.length_eq_one_iff.mp z
          exact absurd hq (hl2 q)
        · omega
      rw [List.getD_eq_getElem?_getD, List.getElem?_eq_getElem hjl]
      exact List.getElem_mem hjl
  refine hK _ _ h (zk_u r A.2.2.2.2.1 (H.size : Int)) (zk_tu ty H.size t) H' locs ls _ ?_
  obtain ⟨a1, a2, a3, a4, a5, a6, a7, a8, a9, a10, a11⟩ := hn
  obtain ⟨g1, g2⟩ := zk_H_grow hO a5 hT' hz hold a4
  refine ⟨a1, ?_, a3, ⟨fun q hq => ?_, g2⟩, hT', zk_F_grow a6 hz (Or.inr I.2.2.2.2.2.1.1), a7, a8, a9, a10, a11⟩
  · show _ = ((2, A.2.2.2.2.1, 0) :: S).map _
    rw [List.map_cons, zk_c_n, eS]
    simp [zk_k]
  · rcases List.mem_cons.mp hq with rfl | hq
    · refine ⟨by rw [zk_u_n]; omega, ?_⟩
      rw [zk_szn]
      unfold zk_tu
      rw [if_pos rfl]
    · exact g1 q hq
/-- a type for a cell that was being made -/
def zk_fzb (TT : Nat → zS) (q : Nat × List zV) (t : Nat) (A : zA) : Bool :=
  if q.1 < 1000 then decide ((TT t).1 = 0 ∧ (TT t).2.1 = q.1 ∧ (TT t).2.2.length ≤ q.2.length) && (List.range (TT t).2.2.length).all (fun k => match q.2[k]?, (TT t).2.2[k]? with | some v, some z => zk_cf A.2.2.1 A.2.2.2.1.1 v z | _, _ => false)
  else decide ((TT t).1 = q.1 - 1000 ∧ (TT t).1 ≠ 0 ∧ (TT t).1 ≠ 9 ∧ (TT t).2.1 = q.2.length) && (List.range q.2.length).all (fun k => match q.2[k]? with | some v => zk_cf A.2.2.1 A.2.2.2.1.1 v (zk_el (TT t).2.2 k) | none => false)
def zk_fzm (TT : Nat → zS) (x t : Nat) (q : Nat × List zV) : List (Nat × Nat × Nat × zV) := if q.1 < 1000 then (List.range (TT t).2.2.length).filterMap (fun k => (q.2[k]?).map (fun v => (x, q.1, k, v))) else []
def zk_fz1 (TT : Nat → zS) (x t : Nat) (A : zA) : Option zA := match zk_rwl A.2.2.2.1.2.2.2.1 x with
  | none => none
  | some q => if zk_fzb TT q t A then some (A.1, A.2.1, A.2.2.1, ((x, t) :: A.2.2.2.1.1, zk_fzm TT x t q ++ A.2.2.2.1.2.1, A.2.2.2.1.2.2.1, A.2.2.2.1.2.2.2.1.filter (fun g => !(g.1 == x)), A.2.2.2.1.2.2.2.2), A.2.2.2.2) else none
theorem zk_fz1_ok (hQ : zk_fr D) (hO : zk_stable D PF PB) (I : zk_I D E A r ty H locs ls st) {x t : Nat} {A' : zA} (h : zk_fz1 D.TT x t A = some A') : ∃ ty', zk_I D E A' r ty' H locs ls st ∧ A'.2.2.2.2 = A.2.2.2.2 := by
  unfold zk_fz1 at h
  split at h
  · cases h
  rename_i q hq
  split at h
  rotate_left
  · cases h
  rename_i hb
  cases h
  unfold zk_fzb at hb
  obtain ⟨a1, a2, a3, a4, a5, a6, a7, a8, a9, a10, a11⟩ := I
  obtain ⟨g1, g2, g3, g4, g5, g6, g7⟩ := a4
  obtain ⟨r1, r2, r3, cell, c1, c2, c3⟩ := g4 _ (zk_rwl_mem hq)
  dsimp only at r1 r2 r3 c1 c3
  have hsub : ∀ g ∈ A.2.2.2.1.2.2.2.1.filter (fun g => !(g.1 == x)), g ∈ A.2.2.2.1.2.2.2.1 ∧ (r g.1).toNat ≠ (r x).toNat := by
    intro g hg
    obtain ⟨h1, h2⟩ := List.mem_filter.mp hg
    refine ⟨h1, fun ez => ?_⟩
    have h0g := (g4 g h1).1
    have er : r g.1 = r x := by omega
    have hx1 := zk_rwl_mem hq
    have hne : g ≠ (x, q) := fun e => by rw [e] at h2; simp at h2
    obtain ⟨i, hi, ei⟩ := List.getElem_of_mem h1
    obtain ⟨j, hj, ej⟩ := List.getElem_of_mem hx1
    have hp := List.pairwise_iff_getElem.mp g5
    rcases Nat.lt_trichotomy i j with hlt | heq | hgt
    · have := hp i j hi hj hlt
      rw [ei, ej] at this
      exact this er
    · subst heq
      exact hne (ei.symm.trans ej)
    · have := hp j i hj hi hgt
      rw [ei, ej] at this
      exact this er.symm
  have h9 : (D.TT t).1 ≠ 9 := by
    split at hb
    · simp only [Bool.and_eq_true, decide_eq_true_eq] at hb
      rw [hb.1.1]; decide
    · simp only [Bool.and_eq_true, decide_eq_true_eq] at hb
      exact hb.1.2.2.1
  have hkeep : ∀ b u : Nat, ty b = u + 1 → zk_tu ty (r x).toNat t b = u + 1 := fun _ _ => zk_tu_keep r3
  have hC : zk_C D (zk_tu ty (r x).toNat t) H (r x).toNat (D.TT t) := by
    unfold zk_C
    split at hb
    · rename_i hlt
      simp only [Bool.and_eq_true, decide_eq_true_eq, List.all_eq_true] at hb
      obtain ⟨⟨t1, t2, t3⟩, hall⟩ := hb
      rw [if_pos hlt] at c3
      rw [if_pos t1]
      refine ⟨cell, c1, by rw [t2]; exact c3.1, c2, fun k z hk => ?_⟩
      have hkl := (List.getElem?_eq_some_iff.mp hk).1
      have hall' := hall k (List.mem_range.mpr hkl)
      rw [hk] at hall'
      split at hall'
      · rename_i v z' hv hz
        cases hz
        exact ⟨_, by rw [t2]; exact c3.2 k v hv, zk_vt_mono hkeep (zk_cf_ok a3 g1 hall')⟩
      · cases hall'
    · rename_i hlt
      simp only [Bool.and_eq_true, decide_eq_true_eq, List.all_eq_true] at hb
      obtain ⟨⟨t1, t2, t3, t4⟩, hall⟩ := hb
      rw [if_neg hlt] at c3
      rw [if_neg t2]
      refine ⟨cell, c1, by rw [t1]; exact c3.1, c2, by rw [t4]; exact c3.2.1, fun j hj => ?_⟩
      have hall' := hall j (List.mem_range.mpr (by omega))
      split at hall'
      · rename_i v hv
        exact ⟨_, c3.2.2 j v hv, zk_vt_mono hkeep (zk_cf_ok a3 g1 hall')⟩
      · cases hall'
  have hT' := zk_T_grow a5 r3 ⟨r2, hQ t _ h9⟩ h9 hC
  have hH := zk_H_grow (G := (A.2.2.2.1.1, A.2.2.2.1.2.1, A.2.2.2.1.2.2.1, A.2.2.2.1.2.2.2.1.filter (fun g => !(g.1 == x)), A.2.2.2.1.2.2.2.2)) hO a5 hT' r3 (fun q hq => (hsub q hq).2) ⟨g1, g2, g3, fun q hq => g4 q (hsub q hq).1, g5.filter _, g6, g7⟩
  obtain ⟨k1, k2, k3⟩ := hH
  refine ⟨zk_tu ty (r x).toNat t, ⟨a1, a2, a3, ⟨fun g hg => ?_, fun g hg => ?_, k3⟩, hT', zk_F_grow a6 r3 (a11 _ (zk_rwl_mem hq)), a7, a8, a9, a10, fun g hg => a11 g (hsub g hg).1⟩, rfl⟩
  · rcases List.mem_cons.mp hg with rfl | hg
    · exact ⟨r1, by unfold zk_tu; rw [if_pos rfl]⟩
    · exact k1 g hg
  · rcases List.mem_append.mp hg with hg | hg
    · unfold zk_fzm at hg
      split at hg
      · rename_i hlt
        rw [if_pos hlt] at hb c3
        simp only [Bool.and_eq_true, decide_eq_true_eq, List.all_eq_true] at hb
        obtain ⟨⟨t1, t2, t3⟩, hall⟩ := hb
        obtain ⟨k, hk, hgk⟩ := List.mem_filterMap.mp hg
        cases hv : q.2[k]? with
        | none => rw [hv] at hgk; cases hgk
        | some v =>
          rw [hv] at hgk
          cases hgk
          refine ⟨⟨t, by unfold zk_tu; rw [if_pos rfl], t1, t2, List.mem_range.mp hk⟩, cell, c1, c3.2 k v hv⟩
      · cases hg
    · exact k2 g hg
def zk_frz (TT : Nat → zS) : List (Nat × Nat) → zA → Option zA
  | [], A => some A
  | q :: l, A => match zk_fz1 TT q.1 q.2 A with | none => none | some A' => zk_frz TT l A'
theorem zk_frz_ok (hO : zk_stable D PF PB) : ∀ {f : List (Nat × Nat)} {A A' : zA} {ty : Nat → Nat}, (zk_fr D ∨ f = []) → zk_I D E A r ty H locs ls st → zk_frz D.TT f A = some A' → ∃ ty', zk_I D E A' r ty' H locs ls st ∧ A'.2.2.2.2 = A.2.2.2.2
  | [], A, A', ty, _, I, h => by cases h; exact ⟨ty, I, rfl⟩
  | q :: f, A, A', ty, hQ, I, h => by
    have hQ : zk_fr D := by
      rcases hQ with z | z
      · exact z
      · cases z
    unfold zk_frz at h
    split at h
    · cases h
    · rename_i A1 h1
      obtain ⟨ty1, I1, e1⟩ := zk_fz1_ok hQ hO I h1
      obtain ⟨ty2, I2, e2⟩ := zk_frz_ok hO (Or.inl hQ) I1 h
      exact ⟨ty2, I2, e2.trans e1⟩
end
end
section
/-! THE CHECKER, 19: one state of the checker's within another, by a substitution of symbols. -/
abbrev zU : Type := List (Nat × Nat × Int)
def zk_sx : zU → Nat → Nat × Int
  | [], x => (x, 0)
  | q :: l, x => if q.1 = x then q.2 else zk_sx l x
def zk_cp (r : Nat → Int) (u : zU) : Nat → Int := fun x => r (zk_sx u x).1 + (zk_sx u x).2
def zk_va (u : zU) (v : zV) : zV := (v.1, (zk_sx u v.2.1).1, v.2.2 + (zk_sx u v.2.1).2)
theorem zk_n_va {r : Nat → Int} {u : zU} (v : zV) : zk_n r (zk_va u v) = zk_n (zk_cp r u) v := by unfold zk_n zk_va zk_cp; dsimp only; omega
theorem zk_c_va {r : Nat → Int} {u : zU} (v : zV) : zk_c r (zk_va u v) = zk_c (zk_cp r u) v := by unfold zk_c; rw [zk_n_va]; rfl
def zk_inP (u : zU) (P P' : zP) : Bool := P'.1.all (fun q => zk_inb P (zk_va u (0, q.1, 0)) q.2.1 q.2.2) && P'.2.1.all (fun q => zk_leb P (zk_va u (0, q.1, 0)) (zk_va u (0, q.2.1, 0)) q.2.2) && P'.2.2.1.isEmpty && P'.2.2.2.all (fun q => zk_nz P (zk_va u (0, q.1, -q.2)))
theorem zk_inP_ok {r : Nat → Int} {u : zU} {P P' : zP} (h : zk_P r P) (hi : zk_inP u P P' = true) : zk_P (zk_cp r u) P' := by
  simp only [zk_inP, Bool.and_eq_true, List.all_eq_true, List.isEmpty_iff] at hi
  obtain ⟨⟨⟨h1, h2⟩, h3⟩, h4⟩ := hi
  have e : ∀ x : Nat, zk_n r (zk_va u (0, x, 0)) = zk_cp r u x := fun x => by rw [zk_n_va]; unfold zk_n; dsimp only; omega
  refine ⟨fun q hq => ?_, fun q hq => ?_, fun q hq => ?_, fun q hq => ?_⟩
  · have := zk_inb_ok h (h1 q hq)
    rw [e] at this
    exact this
  · have := zk_leb_ok h (h2 q hq)
    rw [e, e] at this
    exact this
  · rw [h3] at hq; cases hq
  · have := zk_nz_ok h (h4 q hq)
    rw [zk_n_va] at this
    unfold zk_n at this
    dsimp only at this
    omega
def zk_nodup : List Nat → Bool
  | [] => true
  | x :: l => !(l.contains x) && zk_nodup l
def zk_inG (u : zU) (G G' : zG) : Bool :=
  G'.1.all (fun q => decide ((zk_sx u q.1).2 = 0) && (zk_rtl G.1 (zk_sx u q.1).1 == some q.2)) &&
  G'.2.1.all (fun q => decide ((zk_sx u q.1).2 = 0) && (zk_fml G.2.1 (zk_sx u q.1).1 q.2.1 q.2.2.1 == some (zk_va u q.2.2.2))) &&
  G'.2.2.1.all (fun q => decide ((zk_sx u q.1).2 = 0) && (zk_eml G.2.2.1 (zk_sx u q.1).1 q.2.1 (zk_va u q.2.2.1) == some (zk_va u q.2.2.2))) &&
  G'.2.2.2.1.all (fun q => decide ((zk_sx u q.1).2 = 0) && (zk_rwl G.2.2.2.1 (zk_sx u q.1).1 == some (q.2.1, q.2.2.map (zk_va u)))) &&
  zk_nodup (G'.2.2.2.1.map (fun q => (zk_sx u q.1).1)) &&
  G'.2.2.2.2.1.all (fun q => decide ((zk_sx u q.1).2 = 0) && (zk_find G.2.2.2.2.1 (zk_sx u q.1).1 == some (zk_va u q.2))) &&
  G'.2.2.2.2.2.all (fun q => G.2.2.2.2.2.contains (q.1, q.2.map (zk_va u)))
theorem zk_cp0 {r : Nat → Int} {u : zU} {x : Nat} (h : (zk_sx u x).2 = 0) : zk_cp r u x = r (zk_sx u x).1 := by unfold zk_cp; omega
theorem zk_nodup_ok {l : List Nat} (h : zk_nodup l = true) : l.Pairwise (fun x y => x ≠ y) := by
  induction l with
  | nil => exact List.Pairwise.nil
  | cons x l ih =>
    simp only [zk_nodup, Bool.and_eq_true, Bool.not_eq_true'] at h
    refine List.pairwise_cons.mpr ⟨fun y hy e => ?_, ih h.2⟩
    subst e
    rw [List.contains_iff_mem.mpr hy] at h
    cases h.1
theorem zk_pw {α : Type} {R : α → α → Prop} (hs : ∀ a b, R a b → R b a) {l : List α} (h : l.Pairwise R) {x y : α} (hx : x ∈ l) (hy : y ∈ l) (hn : x ≠ y) : R x y := by
  obtain ⟨i, hi, ei⟩ := List.getElem_of_mem hx
  obtain ⟨j, hj, ej⟩ := List.getElem_of_mem hy
  have hp := List.pairwise_iff_getElem.mp h
  rcases Nat.lt_trichotomy i j with q | q | q
  · have := hp i j hi hj q
    rw [ei, ej] at this; exact this
  · subst q
    exact absurd (ei.symm.trans ej) hn
  · have := hp j i hj hi q
    rw [ei, ej] at this; exact hs _ _ this
theorem zk_inG_ok {D : zD} {r : Nat → Int} {ty : Nat → Nat} {H : Heap} {u : zU} {G G' : zG} (h : zk_H D r ty H G) (hi : zk_inG u G G' = true) : zk_H D (zk_cp r u) ty H G' := by
  simp only [zk_inG, Bool.and_eq_true, List.all_eq_true, decide_eq_true_eq, beq_iff_eq, List.contains_iff_mem] at hi
  obtain ⟨⟨⟨⟨⟨⟨h1, h2⟩, h3⟩, h4⟩, h5⟩, h6⟩, h7⟩ := hi
  obtain ⟨g1, g2, g3, g4, g5, g6, g7⟩ := h
  refine ⟨fun q hq => ?_, fun q hq => ?_, fun q hq => ?_, fun q hq => ?_, ?_, fun q hq => ?_, fun q hq => ?_⟩
  · have := g1 _ (zk_rtl_mem (h1 q hq).2)
    unfold zk_rt at this ⊢
    rw [zk_cp0 (h1 q hq).1]; exact this
  · have := g2 _ (zk_fml_mem (h2 q hq).2)
    unfold zk_fm at this ⊢
    rw [zk_cp0 (h2 q hq).1, ← zk_c_va]; exact this
  · obtain ⟨j, hj, j1, j2⟩ := zk_eml_mem (h3 q hq).2
    have := g3 _ hj
    unfold zk_em at this ⊢
    have ej : zk_n r j = zk_n r (zk_va u q.2.2.1) := by unfold zk_n; rw [j1, j2]
    dsimp only at this
    rw [ej, zk_n_va, zk_c_va] at this
    rw [zk_cp0 (h3 q hq).1]; exact this
  · have g := g4 _ (zk_rwl_mem (h4 q hq).2)
    unfold zk_rw at g ⊢
    rw [zk_cp0 (h4 q hq).1]
    obtain ⟨k1, k2, k3, cell, k4, k5, k6⟩ := g
    refine ⟨k1, k2, k3, cell, k4, k5, ?_⟩
    dsimp only at k6
    split at k6
    · rename_i hc
      rw [if_pos hc]
      refine ⟨k6.1, fun k v hk => ?_⟩
      rw [← zk_c_va]
      exact k6.2 k _ (by rw [List.getElem?_map, hk]; rfl)
    · rename_i hc
      rw [if_neg hc]
      refine ⟨k6.1, by rw [k6.2.1, List.length_map], fun k v hk => ?_⟩
      rw [← zk_c_va]
      exact k6.2.2 k _ (by rw [List.getElem?_map, hk]; rfl)
  · have hnd := List.pairwise_map.mp (zk_nodup_ok h5)
    refine List.Pairwise.imp_of_mem ?_ hnd
    intro a b ha hb hab
    rw [zk_cp0 (h4 a ha).1, zk_cp0 (h4 b hb).1]
    exact zk_pw (R := fun x y : Nat × Nat × List zV => r x.1 ≠ r y.1) (fun _ _ z => z.symm) g5 (zk_rwl_mem (h4 a ha).2) (zk_rwl_mem (h4 b hb).2) (fun e => hab (by have := congrArg Prod.fst e; exact this))
  · have := g6 _ (zk_find_mem (h6 q hq).2)
    rw [zk_cp0 (h6 q hq).1, ← zk_n_va]; exact this
  · have := g7 _ (h7 q hq)
    dsimp only at this
    have e : (q.2.map (zk_va u)).map (zk_n r) = q.2.map (zk_n (zk_cp r u)) := by
      rw [List.map_map]
      apply List.map_congr_left
      intro v _
      exact zk_n_va v
    rw [e] at this
    exact this
/-- linear forms -/
def zk_li : Nat → Int → List (Nat × Int) → List (Nat × Int)
  | x, c, [] => [(x, c)]
  | x, c, q :: l => if q.1 = x then (if q.2 + c = 0 then l else (x, q.2 + c) :: l) else q :: zk_li x c l
def zk_lf (r : Nat → Int) (l : List (Nat × Int)) : Int := l.foldr (fun q z => q.2 * r q.1 + z) 0
theorem zk_li_ok {r : Nat → Int} {x : Nat} {c : Int} : ∀ {l : List (Nat × Int)}, zk_lf r (zk_li x c l) = c * r x + zk_lf r l
  | [] => by simp [zk_li, zk_lf]
  | q :: l => by
    unfold zk_li
    split
    · rename_i e
      have ed : (q.2 + c) * r x = q.2 * r x + c * r x := Int.add_mul ..
      split
      · rename_i e2
        show zk_lf r l = c * r x + (q.2 * r q.1 + zk_lf r l)
        rw [e]
        rw [e2, Int.zero_mul] at ed
        omega
      · show (q.2 + c) * r x + zk_lf r l = c * r x + (q.2 * r q.1 + zk_lf r l)
        rw [e]
        omega
    · show q.2 * r q.1 + zk_lf r (zk_li x c l) = c * r x + (q.2 * r q.1 + zk_lf r l)
      rw [zk_li_ok]
      omega
theorem zk_lin_lf {r : Nat → Int} {m : List (Nat × Int) × Int} : zk_lin r m = zk_lf r m.1 + m.2 := by
  obtain ⟨l, c⟩ := m
  unfold zk_lin zk_lf
  dsimp only
  induction l with
  | nil => simp
  | cons q l ih => rw [List.foldr_cons, List.foldr_cons, ih]; omega
/-- a lower bound of a linear form -/
def zk_lb (P : zP) : List (Nat × Int) → Option Int
  | [] => some 0
  | q :: l => match zk_iv P.1 q.1, zk_lb P l with
    | some i, some b => some ((if 0 ≤ q.2 then q.2 * i.1 else q.2 * i.2) + b)
    | _, _ => none
theorem zk_lb_ok {r : Nat → Int} {P : zP} (h : zk_P r P) : ∀ {l : List (Nat × Int)} {b : Int}, zk_lb P l = some b → b ≤ zk_lf r l
  | [], b, hb => by cases hb; simp [zk_lf]
  | q :: l, b, hb => by
    unfold zk_lb at hb
    split at hb
    · rename_i i b1 hi hb1
      cases hb
      have h1 := h.1 _ (zk_iv_mem hi)
      have h2 := zk_lb_ok h hb1
      show _ ≤ q.2 * r q.1 + zk_lf r l
      dsimp only at h1
      split
      · rename_i hc
        have : q.2 * i.1 ≤ q.2 * r q.1 := Int.mul_le_mul_of_nonneg_left h1.1 hc
        omega
      · rename_i hc
        have : q.2 * i.2 ≤ q.2 * r q.1 := Int.mul_le_mul_of_nonpos_left (by omega) h1.2
        omega
    · cases hb
/-- known: 1 ≤ m - m' , m' under u -/
def zk_mm (u : zU) (m m' : List (Nat × Int) × Int) : List (Nat × Int) × Int :=
  (m'.1.foldr (fun q l => zk_li (zk_sx u q.1).1 (-q.2) l) m.1, m'.1.foldr (fun q z => z - q.2 * (zk_sx u q.1).2) (m.2 - m'.2))
theorem zk_mm_ok {r : Nat → Int} {u : zU} {m m' : List (Nat × Int) × Int} : zk_lf r (zk_mm u m m').1 + (zk_mm u m m').2 = zk_lin r m - zk_lin (zk_cp r u) m' := by
  obtain ⟨l, c⟩ := m'
  rw [zk_lin_lf, zk_lin_lf]
  unfold zk_mm
  dsimp only
  induction l with
  | nil => simp [zk_lf]; omega
  | cons q l ih =>
    rw [List.foldr_cons, List.foldr_cons, zk_li_ok]
    have e : zk_lf (zk_cp r u) (q :: l) = q.2 * zk_cp r u q.1 + zk_lf (zk_cp r u) l := rfl
    rw [e]
    unfold zk_cp at ih ⊢
    have e2 : q.2 * (r (zk_sx u q.1).1 + (zk_sx u q.1).2) = q.2 * r (zk_sx u q.1).1 + q.2 * (zk_sx u q.1).2 := Int.mul_add ..
    rw [e2]
    have e3 : -q.2 * r (zk_sx u q.1).1 = -(q.2 * r (zk_sx u q.1).1) := Int.neg_mul ..
    rw [e3]
    omega
def zk_pos (P : zP) (m : List (Nat × Int) × Int) : Bool := (match zk_lb P m.1 with | some b => decide (1 ≤ b + m.2) | none => false) || (match m.1 with
  | [(x, c), (y, d)] => if d = -c ∧ 0 < c then P.2.1.any (fun q => q.1 = y && q.2.1 = x && decide (1 ≤ c * (-q.2.2) + m.2)) else if c = -d ∧ 0 < d then P.2.1.any (fun q => q.1 = x && q.2.1 = y && decide (1 ≤ d * (-q.2.2) + m.2)) else false
  | _ => false)
theorem zk_pos_ok {r : Nat → Int} {P : zP} (h : zk_P r P) {m : List (Nat × Int) × Int} (hb : zk_pos P m = true) : 1 ≤ zk_lf r m.1 + m.2 := by
  simp only [zk_pos, Bool.or_eq_true] at hb
  rcases hb with hb | hb
  · split at hb
    · rename_i b e
      have := zk_lb_ok h e
      simp only [decide_eq_true_eq] at hb
      omega
    · cases hb
  · split at hb
    · rename_i x c y d e
      rw [e]
      have e1 : zk_lf r [(x, c), (y, d)] = c * r x + (d * r y + 0) := rfl
      rw [e1]
      split at hb
      · rename_i hc
        simp only [List.any_eq_true, Bool.and_eq_true, decide_eq_true_eq] at hb
        obtain ⟨q, hq, ⟨q1, q2⟩, q3⟩ := hb
        have := h.2.1 q hq
        rw [q1, q2] at this
        have e2 : c * (-q.2.2) ≤ c * (r x - r y) := Int.mul_le_mul_of_nonneg_left (by omega) (by omega)
        have e3 : c * (r x - r y) = c * r x - c * r y := Int.mul_sub ..
        rw [hc.1, Int.neg_mul]
        omega
      · split at hb
        · rename_i hc
          simp only [List.any_eq_true, Bool.and_eq_true, decide_eq_true_eq] at hb
          obtain ⟨q, hq, ⟨q1, q2⟩, q3⟩ := hb
          have := h.2.1 q hq
          rw [q1, q2] at this
          have e2 : d * (-q.2.2) ≤ d * (r y - r x) := Int.mul_le_mul_of_nonneg_left (by omega) (by omega)
          have e3 : d * (r y - r x) = d * r y - d * r x := Int.mul_sub ..
          rw [hc.1, Int.neg_mul]
          omega
        · cases hb
    · cases hb
end
section
/-! THE CHECKER, 20: calls. A contract: entry symbols below n0, all symbols below n1; arguments, numbers, heap at the start; cases of the end; what may change; cells and slots. -/
abbrev zQ : Type := (Nat × Nat) × (List zV × zP × zG) × List (Option zV × zP × zG) × (List (Nat × Nat) × List Nat) × (Nat × Nat)
section
variable {D : zD} {E : zE} {A : zA} {r : Nat → Int} {ty ty' : Nat → Nat} {H H1 : Heap} {locs locs' : List Loc} {ls : Array Slot} {st : List Value} {S : List zV} {PF : Nat → List (Nat × Nat)} {PB : Nat → List Nat}
theorem zk_F_trans {F F' : List (Nat × Nat)} {B B' : List Nat} {U U' : Nat → Prop} {t0 : Nat → Nat} {H0 : Heap} (hT : zk_T D ty H) (h : zk_F D F B U t0 H0 ty H) (h' : zk_F D F' B' U' ty H ty' H1) (hF : ∀ f ∈ F', f ∈ F) (hB : ∀ b ∈ B', b ∈ B) (hU : ∀ a, U' a → U a ∨ H0.size ≤ a) : zk_F D F B U t0 H0 ty' H1 := by
  obtain ⟨h1, h2, h3, h4, h5, h6⟩ := h
  obtain ⟨k1, k2, k3, k4, k5, k6⟩ := h'
  have hu : ∀ b, b < H0.size → ¬ U b → ¬ U' b := fun b hb hn z => by
    rcases hU b z with q | q
    · exact hn q
    · omega
  refine ⟨Nat.le_trans h1 k1, fun a t ha => k2 a t (h2 a t ha), fun b hb hn => ?_, fun b hb hz hn => ?_, fun b t hb h0 hnB => ?_, fun b t hb h0 k hk hnF c0 c1 e0 e1 => ?_⟩
  · rw [k3 b (by omega) (hu b hb hn)]; exact h3 b hb hn
  · rw [k4 b (by omega) (by rw [h3 b hb hn]; exact hz) (hu b hb hn)]; exact h4 b hb hz hn
  · rw [k5 b t (h2 b t hb) h0 (fun z => hnB (hB _ z))]; exact h5 b t hb h0 hnB
  · have ht := h2 b t hb
    have hlt := zk_T_lt hT (a := b) (by omega)
    have e2 : H[b]? = some H[b] := Array.getElem?_eq_getElem hlt
    rw [k6 b t ht h0 k hk (fun z => hnF (hF _ z)) _ c1 e2 e1]
    exact h6 b t hb h0 k hk hnF c0 _ e0 e2
theorem zk_st_call {F : List (Nat × Nat)} {B : List Nat} {U : Nat → Prop} (h : zk_F D F B U ty H ty' H1) {PF : List (Nat × Nat)} {PB : List Nat} (hF : ∀ f ∈ F, f ∉ PF) (hB : ∀ b ∈ B, b ∉ PB) : zk_st D PF PB ty H ty' H1 :=
  ⟨h.2.1, fun a t ha h0 hp => h.2.2.2.2.1 a t ha h0 (fun z => hB _ z hp), fun a t ha h0 k hk hp c0 c1 e0 e1 => h.2.2.2.2.2 a t ha h0 k hk (fun z => hF _ z hp) c0 c1 e0 e1⟩
/-- a known field that may have changed -/
def zk_fd (F : List (Nat × Nat)) (rt : List (Nat × Nat)) (g : Nat × Nat × Nat × zV) : Bool := match zk_rtl rt g.1 with | some t => F.contains (t, g.2.2.1) | none => F.any (fun f => f.2 == g.2.2.1)
def zk_kp (PF : Nat → List (Nat × Nat)) (PB : Nat → List Nat) (F : List (Nat × Nat)) (B : List Nat) (xs : List Nat) (S : List zV) (A : zA) : zA :=
  (A.1, S, A.2.2.1, (A.2.2.2.1.1, A.2.2.2.1.2.1.filter (fun g => !zk_fd F A.2.2.2.1.1 g), A.2.2.2.1.2.2.1.filter (fun g => !B.contains g.2.1), A.2.2.2.1.2.2.2.1.filter (fun g => !xs.contains g.1), A.2.2.2.1.2.2.2.2.1, A.2.2.2.1.2.2.2.2.2.filter (fun q => F.all (fun f => !(PF q.1).contains f) && B.all (fun b => !(PB q.1).contains b))), A.2.2.2.2)
theorem zk_I_kp {F : List (Nat × Nat)} {B xs : List Nat} {U : Nat → Prop} (hO : zk_stable D PF PB) (I : zk_I D E A r ty H locs ls st) (h : zk_F D F B U ty H ty' H1) (hT : zk_T D ty' H1) (hF : ∀ f ∈ F, f ∈ E.2.2.1.1) (hB : ∀ b ∈ B, b ∈ E.2.2.1.2) (hxs : ∀ x ∈ xs, ∃ q, zk_rwl A.2.2.2.1.2.2.2.1 x = some q) (hU : ∀ a, U a → ∃ x ∈ xs, a = (r x).toNat) (hl : ∀ q ∈ locs', D.ba ≤ q.base) : zk_I D E (zk_kp PF PB F B xs S A) r ty' H1 locs' ls (S.map (zk_c r)) := by
  obtain ⟨a1, a2, a3, a4, a5, a6, a7, a8, a9, a10, a11⟩ := I
  obtain ⟨g1, g2, g3, g4, g5, g6, g7⟩ := a4
  have hF2 := zk_F_trans a5 a6 h hF hB (fun a ha => by
    obtain ⟨x, hx, rfl⟩ := hU a ha
    obtain ⟨q, hq⟩ := hxs x hx
    exact a11 _ (zk_rwl_mem hq))
  refine ⟨a1, rfl, a3, ⟨fun q hq => ⟨(g1 q hq).1, h.2.1 _ _ (g1 q hq).2⟩, fun q hq => ?_, fun q hq => ?_, fun q hq => ?_, g5.filter _, g6, fun q hq => ?_⟩, hT, hF2, a7, a8, a9, hl, fun q hq => a11 q (List.mem_filter.mp hq).1⟩
  · obtain ⟨h1, h2⟩ := List.mem_filter.mp hq
    obtain ⟨⟨t, t1, t2, t3, t4⟩, cell, c1, c2⟩ := g2 q h1
    have hlt := zk_T_lt hT (a := (r q.1).toNat) (by rw [h.2.1 _ _ t1]; omega)
    refine ⟨⟨t, h.2.1 _ _ t1, t2, t3, t4⟩, _, Array.getElem?_eq_getElem hlt, ?_⟩
    have hnF : (t, q.2.2.1) ∉ F := by
      intro z
      unfold zk_fd at h2
      split at h2
      · rename_i u hu
        have k1 := (g1 _ (zk_rtl_mem hu)).2
        dsimp only at k1
        have : u = t := by omega
        subst this
        rw [List.contains_iff_mem.mpr z] at h2
        cases h2
      · have : (F.any (fun f => f.2 == q.2.2.1)) = true := List.any_eq_true.mpr ⟨_, z, by simp⟩
        rw [this] at h2
        cases h2
    have := h.2.2.2.2.2 _ t t1 t2 q.2.2.1 t4 hnF cell _ c1 (Array.getElem?_eq_getElem hlt)
    rw [t3] at this
    rw [this]
    exact c2
  · obtain ⟨h1, h2⟩ := List.mem_filter.mp hq
    obtain ⟨u1, u2, u3, cell, c1, c2⟩ := g3 q h1
    refine ⟨h.2.1 _ _ u1, u2, u3, cell, ?_, c2⟩
    rw [h.2.2.2.2.1 _ _ u1 u2 (fun z => by
      rw [List.contains_iff_mem.mpr z] at h2
      cases h2)]
    exact c1
  · obtain ⟨h1, h2⟩ := List.mem_filter.mp hq
    obtain ⟨u1, u2, u3, cell, c1, c2⟩ := g4 q h1
    have hlt := (Array.getElem?_eq_some_iff.mp c1).1
    have hnU : ¬ U (r q.1).toNat := by
      intro z
      obtain ⟨x, hx, ex⟩ := hU _ z
      obtain ⟨q', hq'⟩ := hxs x hx
      have hq2 := zk_rwl_mem hq'
      have h0x := (g4 _ hq2).1
      dsimp only at h0x
      have er : r q.1 = r x := by omega
      have hne : q ≠ (x, q') := fun e => by
        rw [e] at h2
        dsimp only at h2
        rw [List.contains_iff_mem.mpr hx] at h2
        cases h2
      exact zk_pw (R := fun x y : Nat × Nat × List zV => r x.1 ≠ r y.1) (fun _ _ z => z.symm) g5 h1 hq2 hne er
    refine ⟨u1, u2, by rw [h.2.2.1 _ hlt hnU]; exact u3, cell, ?_, c2⟩
    rw [h.2.2.2.1 _ hlt u3 hnU]
    exact c1
  · obtain ⟨h1, h2⟩ := List.mem_filter.mp hq
    simp only [Bool.and_eq_true, List.all_eq_true, Bool.not_eq_true'] at h2
    refine hO _ _ _ _ _ _ (zk_st_call h (fun f hf z => ?_) (fun b hb z => ?_)) a5 hT (g7 q h1)
    · have := h2.1 f hf
      rw [List.contains_iff_mem.mpr z] at this
      cases this
    · have := h2.2 b hb
      rw [List.contains_iff_mem.mpr z] at this
      cases this
end
end
section
/-! THE CHECKER, 21: what a callee's end says, in the caller's symbols: entry symbols below m0 by u, the others from nx on. -/
def zk_px (u : zU) (m0 nx : Nat) (x : Nat) : Nat × Int := if x < m0 then zk_sx u x else (nx + (x - m0), 0)
def zk_pv (u : zU) (m0 nx : Nat) (v : zV) : zV := (v.1, (zk_px u m0 nx v.2.1).1, v.2.2 + (zk_px u m0 nx v.2.1).2)
def zk_pi (u : zU) (m0 nx : Nat) : List (Nat × Int × Int) → zP → Option zP
  | [], P => some P
  | q :: l, P => if q.1 < m0 then (match zk_le P (0, 0, q.2.1) (zk_pv u m0 nx (0, q.1, 0)) 0 with
      | none => none
      | some P1 => (match zk_le P1 (zk_pv u m0 nx (0, q.1, 0)) (0, 0, q.2.2) 0 with | none => none | some P2 => zk_pi u m0 nx l P2))
    else zk_pi u m0 nx l ((nx + (q.1 - m0), q.2.1, q.2.2) :: P.1, P.2)
def zk_pd (u : zU) (m0 nx : Nat) : List (Nat × Nat × Int) → zP → Option zP
  | [], P => some P
  | q :: l, P => match zk_le P (zk_pv u m0 nx (0, q.1, 0)) (zk_pv u m0 nx (0, q.2.1, 0)) q.2.2 with | none => none | some P1 => zk_pd u m0 nx l P1
def zk_pP (u : zU) (m0 nx : Nat) (c P : zP) : Option zP := match zk_pi u m0 nx c.1 P with
  | none => none
  | some P1 => (match zk_pd u m0 nx c.2.1 P1 with
    | none => none
    | some P2 => some (P2.1, P2.2.1, P2.2.2.1, c.2.2.2.map (fun q => ((zk_px u m0 nx q.1).1, q.2 - (zk_px u m0 nx q.1).2)) ++ P2.2.2.2))
def zk_pk (u : zU) (m0 nx : Nat) (xs : List Nat) (g : zG) : Bool := g.1.all (fun q => decide ((zk_px u m0 nx q.1).2 = 0)) && g.2.1.all (fun q => decide ((zk_px u m0 nx q.1).2 = 0)) && g.2.2.1.all (fun q => decide ((zk_px u m0 nx q.1).2 = 0)) && g.2.2.2.1.all (fun q => decide ((zk_px u m0 nx q.1).2 = 0) && xs.contains (zk_px u m0 nx q.1).1) && zk_nodup (g.2.2.2.1.map (fun q => (zk_px u m0 nx q.1).1)) && g.2.2.2.2.1.isEmpty
def zk_pG (u : zU) (m0 nx : Nat) (g G : zG) : zG :=
  (g.1.map (fun q => ((zk_px u m0 nx q.1).1, q.2)) ++ G.1, g.2.1.map (fun q => ((zk_px u m0 nx q.1).1, q.2.1, q.2.2.1, zk_pv u m0 nx q.2.2.2)) ++ G.2.1, g.2.2.1.map (fun q => ((zk_px u m0 nx q.1).1, q.2.1, zk_pv u m0 nx q.2.2.1, zk_pv u m0 nx q.2.2.2)) ++ G.2.2.1,
   g.2.2.2.1.map (fun q => ((zk_px u m0 nx q.1).1, q.2.1, q.2.2.map (zk_pv u m0 nx))) ++ G.2.2.2.1, G.2.2.2.2.1, g.2.2.2.2.2.map (fun q => (q.1, q.2.map (zk_pv u m0 nx))) ++ G.2.2.2.2.2)
section
variable {D : zD} {E : zE} {A : zA} {r r1 : Nat → Int} {ty : Nat → Nat} {H : Heap} {u : zU} {m0 nx : Nat}
theorem zk_n_pv (hr : ∀ x, r (zk_px u m0 nx x).1 + (zk_px u m0 nx x).2 = r1 x) (v : zV) : zk_n r (zk_pv u m0 nx v) = zk_n r1 v := by
  unfold zk_n zk_pv; dsimp only; rw [← hr v.2.1]; omega
theorem zk_c_pv (hr : ∀ x, r (zk_px u m0 nx x).1 + (zk_px u m0 nx x).2 = r1 x) (v : zV) : zk_c r (zk_pv u m0 nx v) = zk_c r1 v := by
  unfold zk_c; rw [zk_n_pv hr]; rfl
theorem zk_pi_ok (hr : ∀ x, r (zk_px u m0 nx x).1 + (zk_px u m0 nx x).2 = r1 x) (h0 : r 0 = 0) : ∀ {l : List (Nat × Int × Int)} {P : zP}, zk_P r P → (∀ q ∈ l, q.2.1 ≤ r1 q.1 ∧ r1 q.1 ≤ q.2.2) → ∃ P', zk_pi u m0 nx l P = some P' ∧ zk_P r P'
  | [], P, hP, _ => ⟨P, rfl, hP⟩
  | q :: l, P, hP, h => by
    have hq := h q List.mem_cons_self
    have hn : zk_n r (zk_pv u m0 nx (0, q.1, 0)) = r1 q.1 := by rw [zk_n_pv hr]; unfold zk_n; dsimp only; omega
    have hc : ∀ k : Int, zk_n r (0, 0, k) = k := fun k => by unfold zk_n; dsimp only; rw [h0]; omega
    unfold zk_pi
    split
    · obtain ⟨P1, e1, h1⟩ := zk_le_ok hP (v := (0, 0, q.2.1)) (w := zk_pv u m0 nx (0, q.1, 0)) (c := 0) (by rw [hn, hc]; omega)
      rw [e1]
      obtain ⟨P2, e2, h2⟩ := zk_le_ok h1 (v := zk_pv u m0 nx (0, q.1, 0)) (w := (0, 0, q.2.2)) (c := 0) (by rw [hn, hc]; omega)
      dsimp only
      rw [e2]
      exact zk_pi_ok hr h0 h2 (fun z hz => h z (List.mem_cons_of_mem _ hz))
    · rename_i hm
      refine zk_pi_ok hr h0 ⟨fun z hz => ?_, hP.2⟩ (fun z hz => h z (List.mem_cons_of_mem _ hz))
      rcases List.mem_cons.mp hz with rfl | hz
      · have := hr q.1
        unfold zk_px at this
        rw [if_neg hm] at this
        dsimp only at this ⊢
        omega
      · exact hP.1 z hz
theorem zk_pd_ok (hr : ∀ x, r (zk_px u m0 nx x).1 + (zk_px u m0 nx x).2 = r1 x) : ∀ {l : List (Nat × Nat × Int)} {P : zP}, zk_P r P → (∀ q ∈ l, r1 q.1 ≤ r1 q.2.1 + q.2.2) → ∃ P', zk_pd u m0 nx l P = some P' ∧ zk_P r P'
  | [], P, h, _ => ⟨P, rfl, h⟩
  | q :: l, P, h, hl => by
    unfold zk_pd
    obtain ⟨P1, e1, h1⟩ := zk_le_ok h (v := zk_pv u m0 nx (0, q.1, 0)) (w := zk_pv u m0 nx (0, q.2.1, 0)) (c := q.2.2) (by
      rw [zk_n_pv hr, zk_n_pv hr]
      have := hl q List.mem_cons_self
      unfold zk_n
      dsimp only
      omega)
    rw [e1]
    exact zk_pd_ok hr h1 (fun q' hq => hl q' (List.mem_cons_of_mem _ hq))
theorem zk_pP_ok (hr : ∀ x, r (zk_px u m0 nx x).1 + (zk_px u m0 nx x).2 = r1 x) (h0 : r 0 = 0) {c P : zP} (hP : zk_P r P) (hc : zk_P r1 c) : ∃ P', zk_pP u m0 nx c P = some P' ∧ zk_P r P' := by
  obtain ⟨P1, e1, h1⟩ := zk_pi_ok (u := u) (m0 := m0) (nx := nx) hr h0 hP hc.1
  obtain ⟨P2, e2, h2⟩ := zk_pd_ok (u := u) (m0 := m0) (nx := nx) hr h1 hc.2.1
  unfold zk_pP
  rw [e1]
  dsimp only
  rw [e2]
  refine ⟨_, rfl, h2.1, h2.2.1, h2.2.2.1, fun q hq => ?_⟩
  rcases List.mem_append.mp hq with hq | hq
  · obtain ⟨z, hz, rfl⟩ := List.mem_map.mp hq
    have a := hc.2.2.2 z hz
    have b := hr z.1
    dsimp only
    omega
  · exact h2.2.2.2 q hq
theorem zk_pG_ok (hr : ∀ x, r (zk_px u m0 nx x).1 + (zk_px u m0 nx x).2 = r1 x) {xs : List Nat} {g G : zG} (hk : zk_pk u m0 nx xs g = true) (hG : zk_H D r ty H G) (hg : zk_H D r1 ty H g) (hx : ∀ q ∈ G.2.2.2.1, ∀ x ∈ xs, r q.1 ≠ r x) (hxx : ∀ x ∈ xs, ∀ y ∈ xs, x ≠ y → r x ≠ r y) : zk_H D r ty H (zk_pG u m0 nx g G) := by
  simp only [zk_pk, Bool.and_eq_true, List.all_eq_true, decide_eq_true_eq, List.contains_iff_mem] at hk
  obtain ⟨⟨⟨⟨⟨k1, k2⟩, k3⟩, k4⟩, k5⟩, k6⟩ := hk
  obtain ⟨G1, G2, G3, G4, G5, G6, G7⟩ := hG
  obtain ⟨g1, g2, g3, g4, g5, g6, g7⟩ := hg
  have he : ∀ {x : Nat}, (zk_px u m0 nx x).2 = 0 → r (zk_px u m0 nx x).1 = r1 x := fun {x} h => by have := hr x; omega
  refine ⟨fun q hq => ?_, fun q hq => ?_, fun q hq => ?_, fun q hq => ?_, ?_, G6, fun q hq => ?_⟩
  · rcases List.mem_append.mp hq with hq | hq
    · obtain ⟨z, hz, rfl⟩ := List.mem_map.mp hq
      have := g1 z hz
      unfold zk_rt at this ⊢
      dsimp only
      rw [he (k1 z hz)]; exact this
    · exact G1 q hq
  · rcases List.mem_append.mp hq with hq | hq
    · obtain ⟨z, hz, rfl⟩ := List.mem_map.mp hq
      have := g2 z hz
      unfold zk_fm at this ⊢
      dsimp only
      rw [he (k2 z hz), zk_c_pv hr]; exact this
    · exact G2 q hq
  · rcases List.mem_append.mp hq with hq | hq
    · obtain ⟨z, hz, rfl⟩ := List.mem_map.mp hq
      have := g3 z hz
      unfold zk_em at this ⊢
      dsimp only
      rw [he (k3 z hz), zk_c_pv hr, zk_n_pv hr]; exact this
    · exact G3 q hq
  · rcases List.mem_append.mp hq with hq | hq
    · obtain ⟨z, hz, rfl⟩ := List.mem_map.mp hq
      obtain ⟨a1, a2, a3, cell, a4, a5, a6⟩ := g4 z hz
      unfold zk_rw
      dsimp only
      rw [he (k4 z hz).1]
      refine ⟨a1, a2, a3, cell, a4, a5, ?_⟩
      split at a6
      · rename_i hc
        rw [if_pos hc]
        refine ⟨a6.1, fun k v hk => ?_⟩
        rw [List.getElem?_map] at hk
        cases hv : z.2.2[k]? with
        | none => rw [hv] at hk; cases hk
        | some w =>
          rw [hv] at hk
          cases hk
          rw [zk_c_pv hr]
          exact a6.2 k w hv
      · rename_i hc
        rw [if_neg hc]
        refine ⟨a6.1, by rw [a6.2.1, List.length_map], fun k v hk => ?_⟩
        rw [List.getElem?_map] at hk
        cases hv : z.2.2[k]? with
        | none => rw [hv] at hk; cases hk
        | some w =>
          rw [hv] at hk
          cases hk
          rw [zk_c_pv hr]
          exact a6.2.2 k w hv
    · exact G4 q hq
  · refine List.pairwise_append.mpr ⟨?_, G5, fun a ha b hb => ?_⟩
    · have hnd := List.pairwise_map.mp (zk_nodup_ok k5)
      rw [List.pairwise_map]
      refine List.Pairwise.imp_of_mem ?_ hnd
      intro a b ha hb hab
      exact hxx _ (k4 a ha).2 _ (k4 b hb).2 hab
    · obtain ⟨z, hz, rfl⟩ := List.mem_map.mp ha
      exact (hx b hb _ (k4 z hz).2).symm
  · rcases List.mem_append.mp hq with hq | hq
    · obtain ⟨z, hz, rfl⟩ := List.mem_map.mp hq
      have := g7 z hz
      dsimp only
      have e : (z.2.map (zk_pv u m0 nx)).map (zk_n r) = z.2.map (zk_n r1) := by
        rw [List.map_map]
        apply List.map_congr_left
        intro v _
        exact zk_n_pv hr v
      rw [e]; exact this
    · exact G7 q hq
end
end
section
/-! THE CHECKER, 22: a call by its contract. -/
def zk_U (r : Nat → Int) (g : zG) : Nat → Prop := fun a => ∃ q ∈ g.2.2.2.1, a = (r q.1).toNat
/-- the end of a call, by its contract -/
def zk_Qc (D : zD) (cs : zQ) (r : Nat → Int) (ty : Nat → Nat) : State → Outcome → State → Prop := fun st o t =>
  ∃ c ∈ cs.2.2.1, ∃ (r' : Nat → Int) (ty' : Nat → Nat), (∀ x, x < cs.1.1 → r' x = r x) ∧ o = .returned (c.1.map (zk_c r')) ∧ zk_P r' c.2.1 ∧ zk_H D r' ty' t.heap c.2.2 ∧ zk_T D ty' t.heap ∧ zk_F D cs.2.2.2.1.1 cs.2.2.2.1.2 (zk_U r cs.2.1.2.2) ty st.heap ty' t.heap
def zk_cA (u : zU) (cs : zQ) (c : Option zV × zP × zG) (P : zP) (A1 : zA) : zA :=
  (A1.1, (c.1.map (zk_pv u cs.1.1 A1.2.2.2.2.1)).toList ++ A1.2.1, P, zk_pG u cs.1.1 A1.2.2.2.2.1 c.2.2 A1.2.2.2.1, (A1.2.2.2.2.1 + (cs.1.2 - cs.1.1), A1.2.2.2.2.2.1, A1.2.2.2.2.2.2.1 + cs.2.2.2.2.1, A1.2.2.2.2.2.2.2 + cs.2.2.2.2.2))
def zk_xs (u : zU) (cs : zQ) : List Nat := cs.2.1.2.2.2.2.2.1.map (fun q => (zk_sx u q.1).1)
def zk_call (PF : Nat → List (Nat × Nat)) (F : List (Nat × Nat)) (PB : Nat → List Nat) (B : List Nat) (n0 rc rs : Nat) (cs : zQ) (u : zU) (K : Nat → zA → Bool) (pc : Nat) (A : zA) : Bool :=
  decide (A.2.1 = (cs.2.1.1.map (zk_va u)).reverse ++ A.2.1.drop cs.2.1.1.length) && zk_inP u A.2.2.1 cs.2.1.2.1 && zk_inG u A.2.2.2.1 cs.2.1.2.2 && decide (zk_sx u 0 = (0, 0)) && (List.range cs.1.1).all (fun x => Nat.blt (zk_sx u x).1 A.2.2.2.2.1) &&
  decide (((A.2.1.drop cs.2.1.1.length).map (fun v => if v.1 = 1 then 2 else 1)).sum ≤ 8 ∧ A.2.2.2.2.2.2.1 + cs.2.2.2.2.1 ≤ rc ∧ A.2.2.2.2.2.2.2 + cs.2.2.2.2.2 ≤ rs) && zk_ok n0 A && cs.2.2.2.1.1.all (fun f => F.contains f) && cs.2.2.2.1.2.all (fun b => B.contains b) &&
  cs.2.2.1.all (fun c => zk_pk u cs.1.1 A.2.2.2.2.1 (zk_xs u cs) c.2.2 && (match zk_pP u cs.1.1 A.2.2.2.2.1 c.2.1 A.2.2.1 with
    | none => true
    | some P => K (pc + 3) (zk_cA u cs c P (zk_kp PF PB cs.2.2.2.1.1 cs.2.2.2.1.2 (zk_xs u cs) (A.2.1.drop cs.2.1.1.length) A))))
section
variable {p : Program} {l : Launch} {e : Env} {R : Room} {s : State} {m : MethodId} {args : Array Value} {below : List Frame} {meth : Method} {c : Code} {Q : State → Prop} {cc : ByteArray} {pc : Nat} {D : zD} {E : zE} {A : zA} {K : Nat → zA → Bool} {PF : Nat → List (Nat × Nat)} {PB : Nat → List Nat}
theorem zk_call_ok {n0 rc rs : Nat} {F : List (Nat × Nat)} {B : List Nat} {cs : zQ} {u : zU} (hO : zk_stable D PF PB) (hF : F = E.2.2.1.1) (hB : B = E.2.2.1.2) (hn0 : n0 = E.2.1.1) (hK : ∀ (n : Nat) (A : zA), K n A = true → zk_W p l e R s m args below meth c Q D E n A) (h : zk_call PF F PB B n0 rc rs cs u K pc A = true)
    (hrun : ∀ (r : Nat → Int) (ty : Nat → Nat) (H : Heap) (locs : List Loc) (ls : Array Slot), zk_I D E A r ty H locs ls (A.2.1.map (zk_c r)) → zk_P (zk_cp r u) cs.2.1.2.1 → zk_H D (zk_cp r u) ty H cs.2.1.2.2 → zk_cp r u 0 = 0 → (cs.2.1.1.map (zk_c (zk_cp r u))).reverse ++ (A.2.1.drop cs.2.1.1.length).map (zk_c r) = A.2.1.map (zk_c r) → (((A.2.1.drop cs.2.1.1.length).map (zk_c r)).map (fun v => v.category)).sum ≤ 8 → A.2.2.2.2.2.2.1 + cs.2.2.2.2.1 ≤ rc ∧ A.2.2.2.2.2.2.2 + cs.2.2.2.2.2 ≤ rs → va_Run p l e R s m args below meth c H locs A.2.2.2.2.2.2.1 A.2.2.2.2.2.2.2 cs.2.2.2.2.1 cs.2.2.2.2.2 (F0 m pc ls (A.2.1.map (zk_c r))) ((A.2.1.drop cs.2.1.1.length).map (zk_c r)) (zk_Qc D cs (zk_cp r u) ty) (fun q => D.ba ≤ q)) : zk_W p l e R s m args below meth c Q D E pc A := by
  simp only [zk_call, Bool.and_eq_true, decide_eq_true_eq, List.all_eq_true, List.contains_iff_mem] at h
  obtain ⟨⟨⟨⟨⟨⟨⟨⟨⟨h1, h2⟩, h3⟩, h4⟩, h5⟩, ⟨h6, h7⟩⟩, h8⟩, h9⟩, h10⟩, h11⟩ := h
  intro r ty H locs ls st I
  have hst := I.2.1
  subst hst
  have hok' : zk_ok E.2.1.1 A = true := hn0 ▸ h8
  have hP1 := zk_inP_ok I.2.2.1 h2
  have hG1 := zk_inG_ok I.2.2.2.1 h3
  have hz0 : zk_cp r u 0 = 0 := by unfold zk_cp; rw [h4]; dsimp only; rw [I.2.2.2.2.2.2.1]; rfl
  have hcat : ∀ v : zV, (zk_c r v).category = if v.1 = 1 then 2 else 1 := fun v => by
    split
    · rename_i e1; exact zk_cat2 e1
    · rename_i e1; exact zk_cat1 e1
  have hsum : (((A.2.1.drop cs.2.1.1.length).map (zk_c r)).map (fun v => v.category)).sum ≤ 8 := by
    rw [List.map_map]
    have : ((fun v : Value => v.category) ∘ zk_c r) = fun v : zV => if v.1 = 1 then 2 else 1 := funext (fun v => hcat v)
    rw [this]; exact h6
  have hstk : (cs.2.1.1.map (zk_c (zk_cp r u))).reverse ++ (A.2.1.drop cs.2.1.1.length).map (zk_c r) = A.2.1.map (zk_c r) := by
    have e1 : A.2.1.map (zk_c r) = ((cs.2.1.1.map (zk_va u)).reverse ++ A.2.1.drop cs.2.1.1.length).map (zk_c r) := by rw [← h1]
    rw [e1, List.map_append, List.map_reverse, List.map_map]
    congr 2
    apply List.map_congr_left
    intro v _
    exact (zk_c_va v).symm
  have hr := hrun r ty H locs ls I hP1 hG1 hz0 hstk hsum h7
  intro T hT X
  obtain ⟨v, st₀, t, T', L, q1, X', q2, q3, q4, ⟨c', hc', r', ty', w1, w2, w3, w4, w5, w6⟩, go⟩ := hr T hT X
  have hv : v = c'.1.map (zk_c r') := by injection w2
  obtain ⟨k1, k2⟩ := h11 c' hc'
  -- the caller's valuation
  obtain ⟨r2, hr2⟩ : ∃ r2 : Nat → Int, r2 = fun y => if y < A.2.2.2.2.1 then r y else r' (cs.1.1 + (y - A.2.2.2.2.1)) := ⟨_, rfl⟩
  have hlow : ∀ x, x < A.2.2.2.2.1 → r2 x = r x := fun x hx => by rw [hr2]; dsimp only; rw [if_pos hx]
  have hmap : ∀ x, r2 (zk_px u cs.1.1 A.2.2.2.2.1 x).1 + (zk_px u cs.1.1 A.2.2.2.2.1 x).2 = r' x := fun x => by
    unfold zk_px
    split
    · rename_i hx
      rw [hlow _ (zk_blt (h5 x (List.mem_range.mpr hx))), w1 x hx]
      rfl
    · rename_i hx
      dsimp only
      rw [hr2]
      dsimp only
      rw [if_neg (by omega), show cs.1.1 + (A.2.2.2.2.1 + (x - cs.1.1) - A.2.2.2.2.1) = x by omega]
      omega
  rw [q1] at w6
  have hloc : ∀ q ∈ locs ++ L, D.ba ≤ q.base := fun q hq => by
    rcases List.mem_append.mp hq with hq | hq
    · exact I.2.2.2.2.2.2.2.2.2.1 q hq
    · exact q2 q hq
  simp only [zk_inG, Bool.and_eq_true, List.all_eq_true, decide_eq_true_eq, beq_iff_eq] at h3
  have hraw := h3.1.1.1.2
  have hI2 := zk_I_new hok' hlow I
  have I1 := zk_I_kp (F := cs.2.2.2.1.1) (B := cs.2.2.2.1.2) (xs := zk_xs u cs) (PF := PF) (PB := PB) (S := A.2.1.drop cs.2.1.1.length) (locs' := locs ++ L) hO hI2 w6 w5 (fun f hf => by rw [← hF]; exact h9 f hf) (fun b hb => by rw [← hB]; exact h10 b hb)
    (fun x hx => by
      obtain ⟨q, hq, rfl⟩ := List.mem_map.mp hx
      exact ⟨_, (hraw q hq).2⟩)
    (fun a ha => by
      obtain ⟨q, hq, rfl⟩ := ha
      refine ⟨_, List.mem_map.mpr ⟨q, hq, rfl⟩, ?_⟩
      have hm := zk_rwl_mem (hraw q hq).2
      have hlt : (zk_sx u q.1).1 < A.2.2.2.2.1 := by
        have h := hok'
        simp only [zk_ok, zk_fA, zk_fG, Bool.and_eq_true, List.all_eq_true] at h
        exact zk_blt (h.2.2.1.2.1.1.2 _ hm).1
      rw [hlow _ hlt, zk_cp0 (hraw q hq).1])
    hloc
  obtain ⟨P', e1, hP'⟩ := zk_pP_ok (u := u) (m0 := cs.1.1) (nx := A.2.2.2.2.1) hmap hI2.2.2.2.2.2.2.1 hI2.2.2.1 w3
  rw [e1] at k2
  have I1' := I1
  obtain ⟨a1, a2, a3, a4, a5, a6, a7, a8, a9, a10, a11⟩ := I1
  have hpw := hI2.2.2.2.1.2.2.2.2.1
  have hG' := zk_pG_ok (xs := zk_xs u cs) hmap k1 a4 w4 (fun q hq x hx => by
      obtain ⟨hq1, hq2⟩ := List.mem_filter.mp hq
      obtain ⟨z, hz, rfl⟩ := List.mem_map.mp hx
      refine zk_pw (R := fun x y : Nat × Nat × List zV => r2 x.1 ≠ r2 y.1) (fun _ _ z => z.symm) hpw hq1 (zk_rwl_mem (hraw z hz).2) (fun e => ?_)
      rw [e] at hq2
      dsimp only at hq2
      rw [List.contains_iff_mem.mpr hx] at hq2
      cases hq2) (fun x hx y hy hne => by
      obtain ⟨z, hz, rfl⟩ := List.mem_map.mp hx
      obtain ⟨z', hz', rfl⟩ := List.mem_map.mp hy
      exact zk_pw (R := fun x y : Nat × Nat × List zV => r2 x.1 ≠ r2 y.1) (fun _ _ z => z.symm) hpw (zk_rwl_mem (hraw z hz).2) (zk_rwl_mem (hraw z' hz').2) (fun e => hne (by have := congrArg Prod.fst e; exact this)))
  have hkk := hK _ _ k2 r2 ty' T'.heap (locs ++ L) ls (v.toList ++ (A.2.1.drop cs.2.1.1.length).map (zk_c r)) (by
    rw [q3]
    refine ⟨a1, ?_, hP', hG', w5, a6, a7, a8, a9, a10, ?_⟩
    · have eS : (A.2.1.drop cs.2.1.1.length).map (zk_c r2) = (A.2.1.drop cs.2.1.1.length).map (zk_c r) := by
        apply List.map_congr_left
        intro v hv
        exact zk_c_eq hlow (zk_okS hok' (List.mem_of_mem_drop hv))
      show _ = ((c'.1.map (zk_pv u cs.1.1 A.2.2.2.2.1)).toList ++ A.2.1.drop cs.2.1.1.length).map (zk_c r2)
      rw [List.map_append, eS, hv]
      congr 1
      cases hc1 : c'.1 with
      | none => rfl
      | some w =>
        simp only [Option.map_some, Option.toList_some, List.map_cons, List.map_nil]
        rw [zk_c_pv hmap]
    · intro q hq
      rcases List.mem_append.mp hq with hq | hq
      · obtain ⟨z, hz, rfl⟩ := List.mem_map.mp hq
        simp only [zk_pk, Bool.and_eq_true, List.all_eq_true, decide_eq_true_eq, List.contains_iff_mem] at k1
        obtain ⟨x, hx, ex⟩ := List.mem_map.mp (k1.1.1.2 z hz).2
        show E.2.2.2.1.1 (r2 (zk_px u cs.1.1 A.2.2.2.2.1 z.1).1).toNat ∨ E.2.2.2.1.2.2.size ≤ (r2 (zk_px u cs.1.1 A.2.2.2.2.1 z.1).1).toNat
        rw [← ex]
        exact hI2.2.2.2.2.2.2.2.2.2.2 _ (zk_rwl_mem (hraw x hx).2)
      · exact a11 q hq)
  obtain ⟨t2, b1, b2⟩ := hkk T' rfl X'
  exact ⟨t2, go t2 b1, b2⟩
end
end
section
/-! THE CHECKER, 23: arriving at an annotated place. The substitution is found by program (nothing rests on how), then checked. -/
def zk_bd (n0 : Nat) (u : zU) (v' v : zV) : zU := if Nat.blt v'.2.1 n0 || u.any (fun q => q.1 == v'.2.1) then u else (v'.2.1, v.2.1, v.2.2 - v'.2.2) :: u
def zk_mtV (n0 : Nat) : List zV → List zV → zU → zU
  | v' :: l', v :: l, u => zk_mtV n0 l' l (zk_bd n0 u v' v)
  | _, _, u => u
def zk_mtL (n0 : Nat) (L : List (Nat × zV)) : List (Nat × zV) → zU → zU
  | [], u => u
  | q :: l, u => zk_mtL n0 L l (match zk_find L q.1 with | some v => zk_bd n0 u q.2 v | none => u)
def zk_mtF (n0 : Nat) (L : List (Nat × Nat × Nat × zV)) : List (Nat × Nat × Nat × zV) → zU → zU
  | [], u => u
  | q :: l, u => zk_mtF n0 L l (match zk_fml L (zk_sx u q.1).1 q.2.1 q.2.2.1 with | some v => zk_bd n0 u q.2.2.2 v | none => u)
def zk_mtE (n0 : Nat) (L : List (Nat × Nat × zV × zV)) : List (Nat × Nat × zV × zV) → zU → zU
  | [], u => u
  | q :: l, u => zk_mtE n0 L l (match zk_eml L (zk_sx u q.1).1 q.2.1 (zk_va u q.2.2.1) with | some v => zk_bd n0 u q.2.2.2 v | none => u)
def zk_mtR (n0 : Nat) (L : List (Nat × Nat × List zV)) : List (Nat × Nat × List zV) → zU → zU
  | [], u => u
  | q :: l, u => zk_mtR n0 L l (match zk_rwl L (zk_sx u q.1).1 with | some v => zk_mtV n0 q.2.2 v.2 u | none => u)
def zk_opf : List (Nat × List zV) → Nat → Option (List zV)
  | [], _ => none
  | q :: l, j => if q.1 = j then some q.2 else zk_opf l j
def zk_mtO (n0 : Nat) (L : List (Nat × List zV)) : List (Nat × List zV) → zU → zU
  | [], u => u
  | q :: l, u => zk_mtO n0 L l (match zk_opf L q.1 with | some v => zk_mtV n0 q.2 v u | none => u)
def zk_mtN (n0 : Nat) (L : List (Nat × zV)) : List (Nat × zV) → zU → zU
  | [], u => u
  | q :: l, u => zk_mtN n0 L l (match zk_find L (zk_sx u q.1).1 with | some v => zk_bd n0 u q.2 v | none => u)
def zk_mtG (n0 : Nat) (G G' : zG) (u : zU) : zU := zk_mtO n0 G.2.2.2.2.2 G'.2.2.2.2.2 (zk_mtE n0 G.2.2.1 G'.2.2.1 (zk_mtN n0 G.2.2.2.2.1 G'.2.2.2.2.1 (zk_mtF n0 G.2.1 G'.2.1 (zk_mtR n0 G.2.2.2.1 G'.2.2.2.1 u))))
def zk_mt (n0 : Nat) (A B : zA) : zU := zk_mtG n0 A.2.2.2.1 B.2.2.2.1 (zk_mtV n0 B.2.1 A.2.1 (zk_mtL n0 A.1 B.1 []))
/-- the state A lies within B by u, and B's measure is less than A's -/
def zk_arv (n0 : Nat) (u : zU) (A B : zA) : Bool :=
  B.1.all (fun q => zk_find A.1 q.1 == some (zk_va u q.2)) && decide (A.2.1 = B.2.1.map (zk_va u)) && zk_inP u A.2.2.1 B.2.2.1 && zk_inG u A.2.2.2.1 B.2.2.2.1 && u.all (fun q => Nat.ble n0 q.1 && Nat.blt 0 q.1) && decide (A.2.2.2.2.2.2.1 ≤ B.2.2.2.2.2.2.1 ∧ A.2.2.2.2.2.2.2 ≤ B.2.2.2.2.2.2.2) && zk_pos A.2.2.1 (zk_mm u A.2.2.2.2.2.1 B.2.2.2.2.2.1)
/-- the frame with another measure -/
def zk_sE (E : zE) (M : Int) : zE := (E.1, E.2.1, E.2.2.1, E.2.2.2.1, M)
theorem zk_sx_id {u : zU} {x : Nat} (h : ∀ q ∈ u, q.1 ≠ x) : zk_sx u x = (x, 0) := by
  induction u with
  | nil => rfl
  | cons q l ih =>
    unfold zk_sx
    rw [if_neg (h q List.mem_cons_self)]
    exact ih (fun z hz => h z (List.mem_cons_of_mem _ hz))
theorem zk_arv_ok {D : zD} {E : zE} {A B : zA} {u : zU} {r : Nat → Int} {ty : Nat → Nat} {H : Heap} {locs : List Loc} {ls : Array Slot} {st : List Value} {n0 : Nat} (hn0 : n0 = E.2.1.1) (h : zk_arv n0 u A B = true) (I : zk_I D E A r ty H locs ls st) : ∃ (r' : Nat → Int) (M : Int), zk_I D (zk_sE E M) B r' ty H locs ls st ∧ M + 1 ≤ E.2.2.2.2 ∧ A.2.2.2.2.2.2.1 ≤ B.2.2.2.2.2.2.1 ∧ A.2.2.2.2.2.2.2 ≤ B.2.2.2.2.2.2.2 := by
  simp only [zk_arv, Bool.and_eq_true, decide_eq_true_eq, List.all_eq_true, beq_iff_eq] at h
  obtain ⟨⟨⟨⟨⟨⟨h1, h2⟩, h3⟩, h4⟩, h5⟩, ⟨h6, h7⟩⟩, h8⟩ := h
  obtain ⟨a1, a2, a3, a4, a5, a6, a7, a8, a9, a10, a11⟩ := I
  have hz : ∀ x, (x = 0 ∨ x < n0) → zk_cp r u x = r x := fun x hx => by
    have e : zk_sx u x = (x, 0) := zk_sx_id (fun q hq => by
      have k1 := Nat.le_of_ble_eq_true (h5 q hq).1
      have k2 := zk_blt (h5 q hq).2
      omega)
    unfold zk_cp
    rw [e]
    dsimp only
    omega
  refine ⟨zk_cp r u, zk_lin (zk_cp r u) B.2.2.2.2.2.1, ⟨⟨a1.1, a1.2.1, fun q hq => ?_⟩, ?_, zk_inP_ok a3 h3, zk_inG_ok a4 h4, a5, a6, by rw [hz 0 (Or.inl rfl)]; exact a7, fun x hx => ?_, rfl, a10, fun q hq => ?_⟩, ?_, h6, h7⟩
  · obtain ⟨q', hq', rfl⟩ := List.mem_map.mp hq
    have := zk_local a1 (h1 q' hq')
    rw [zk_c_va] at this
    exact this
  · rw [a2, h2, List.map_map]
    apply List.map_congr_left
    intro v _
    exact zk_c_va v
  · rw [hz x (Or.inr (by rw [hn0]; exact hx))]; exact a8 x hx
  · simp only [zk_inG, Bool.and_eq_true, List.all_eq_true, decide_eq_true_eq, beq_iff_eq] at h4
    have hr := h4.1.1.1.2 q hq
    show E.2.2.2.1.1 (zk_cp r u q.1).toNat ∨ E.2.2.2.1.2.2.size ≤ (zk_cp r u q.1).toNat
    rw [zk_cp0 hr.1]
    exact a11 _ (zk_rwl_mem hr.2)
  · have k1 := zk_pos_ok a3 h8
    rw [zk_mm_ok] at k1
    omega
end
section
/-! THE CHECKER, 23b: lemmas between steps: a split of a local, a local that is one number, the method's own lemmas. -/
def zk_spA (P : Option zP) (A : zA) : List zA := match P with | none => [] | some P => [zk_sp P A.2.1 A]
/-- every value through a substitution -/
def zk_mapA (u : zU) (A : zA) : zA :=
  (A.1.map (fun q => (q.1, zk_va u q.2)), A.2.1.map (zk_va u), A.2.2.1, (A.2.2.2.1.1, A.2.2.2.1.2.1.map (fun q => (q.1, q.2.1, q.2.2.1, zk_va u q.2.2.2)), A.2.2.2.1.2.2.1.map (fun q => (q.1, q.2.1, zk_va u q.2.2.1, zk_va u q.2.2.2)), A.2.2.2.1.2.2.2.1, A.2.2.2.1.2.2.2.2.1, A.2.2.2.1.2.2.2.2.2.map (fun q => (q.1, q.2.map (zk_va u)))), A.2.2.2.2)
/-- the bound of a symbol by what it is known to be below -/
def zk_tg (x : Nat) : List (Nat × Nat × Int) → zP → Option zP
  | [], P => some P
  | q :: l, P => if q.1 = x then (match zk_le P (0, x, 0) (0, q.2.1, 0) q.2.2 with | none => none | some P' => zk_tg x l P') else zk_tg x l P
theorem zk_tg_ok {r : Nat → Int} {x : Nat} : ∀ {l : List (Nat × Nat × Int)} {P : zP}, zk_P r P → (∀ q ∈ l, r q.1 ≤ r q.2.1 + q.2.2) → ∃ P', zk_tg x l P = some P' ∧ zk_P r P'
  | [], P, h, _ => ⟨P, rfl, h⟩
  | q :: l, P, h, hl => by
    unfold zk_tg
    split
    · rename_i e
      obtain ⟨P1, e1, h1⟩ := zk_le_ok h (v := (0, x, 0)) (w := (0, q.2.1, 0)) (c := q.2.2) (by
        have := hl q List.mem_cons_self
        rw [e] at this
        unfold zk_n
        dsimp only
        omega)
      rw [e1]
      exact zk_tg_ok h1 (fun q' hq => hl q' (List.mem_cons_of_mem _ hq))
    · exact zk_tg_ok h (fun q' hq => hl q' (List.mem_cons_of_mem _ hq))
/-- two differences in one -/
def zk_tr (x : Nat) (l : List (Nat × Nat × Int)) : List (Nat × Nat × Int) := (l.filter (fun q => Nat.beq q.1 x)).flatMap (fun q => (l.filter (fun z => Nat.beq z.1 q.2.1)).map (fun z => (x, z.2.1, q.2.2 + z.2.2)))
theorem zk_tr_ok {r : Nat → Int} {x : Nat} {l : List (Nat × Nat × Int)} (h : ∀ q ∈ l, r q.1 ≤ r q.2.1 + q.2.2) : ∀ q ∈ zk_tr x l, r q.1 ≤ r q.2.1 + q.2.2 := by
  intro q hq
  obtain ⟨a, ha, hq⟩ := List.mem_flatMap.mp hq
  obtain ⟨z, hz, rfl⟩ := List.mem_map.mp hq
  obtain ⟨a1, a2⟩ := List.mem_filter.mp ha
  obtain ⟨z1, z2⟩ := List.mem_filter.mp hz
  have e1 := Nat.eq_of_beq_eq_true a2
  have e2 := Nat.eq_of_beq_eq_true z2
  have h1 := h a a1
  have h2 := h z z1
  rw [e1] at h1
  rw [e2] at h2
  dsimp only
  omega
/-- a place of the stack gets a new symbol -/
def zk_wrp (j : Nat) (q : zV × zP) (A : zA) : zA := (A.1, A.2.1.set j q.1, q.2, A.2.2.2.1, (A.2.2.2.2.1 + 1, A.2.2.2.2.2))
theorem zk_set_same {α : Type} : ∀ {l : List α} {j : Nat} {x : α}, l[j]? = some x → l.set j x = l
  | [], _, _, _ => rfl
  | y :: l, 0, x, h => by simp at h; rw [h]; rfl
  | y :: l, j + 1, x, h => by
    simp at h
    show y :: l.set j x = y :: l
    rw [zk_set_same h]
theorem zk_I_wrp {D : zD} {E : zE} {A : zA} {r : Nat → Int} {ty : Nat → Nat} {H : Heap} {locs : List Loc} {ls : Array Slot} {st : List Value} (hok : zk_ok E.2.1.1 A = true) (I : zk_I D E A r ty H locs ls st) {j : Nat} {v : zV} (hv : A.2.1[j]? = some v) {q : zV × zP} (hG : zk_G r A.2.2.2.2.1 q (zk_c r v)) : ∃ r', zk_I D E (zk_wrp j q A) r' ty H locs ls st := by
  obtain ⟨z, g1, g2, -⟩ := hG
  refine ⟨zk_u r A.2.2.2.2.1 z, ?_⟩
  have hn := zk_I_new (r' := zk_u r A.2.2.2.2.1 z) hok (fun y hy => zk_u_ne hy) I
  obtain ⟨a1, a2, a3, a4, a5, a6, a7, a8, a9, a10⟩ := hn
  refine ⟨a1, ?_, g1, a4, a5, a6, a7, a8, a9, a10⟩
  show st = (A.2.1.set j q.1).map _
  rw [List.map_set, g2, a2]
  symm
  apply zk_set_same
  rw [List.getElem?_map, hv, Option.map_some, zk_c_new (zk_okS hok (List.mem_of_getElem? hv))]
def zk_lmo (n0 : Nat) (UL : Nat → Nat → zA → List zA) (o : Nat × Nat × Int) (A : zA) : List zA := match o.1 with
  | 0 => (match zk_find A.1 o.2.1 with
    | none => [A]
    | some v => zk_spA (zk_le A.2.2.1 v (0, 0, o.2.2) 0) A ++ zk_spA (zk_le A.2.2.1 (0, 0, o.2.2) v (-1)) A)
  | 1 => (match zk_find A.1 o.2.1 with
    | none => [A]
    | some v => (match zk_iv A.2.2.1.1 v.2.1 with
      | some i => if i.1 = i.2 ∧ v.1 < 2 ∧ v.2.1 ≠ 0 then [zk_mapA [(v.2.1, 0, i.1)] A] else [A]
      | none => [A]))
  | 3 => (match A.2.1[o.2.1]? with
    | some v => if v.1 = 0 ∧ zk_inb A.2.2.1 v (-2147483648) 2147483647 = false ∧ zk_ok n0 A = true then [zk_wrp o.2.1 (zk_nw 0 A.2.2.2.2.1 (-2147483648) 2147483647 [] A.2.2.1) A]
      else if v.1 = 1 ∧ zk_inb A.2.2.1 v (-9223372036854775808) 9223372036854775807 = false ∧ zk_ok n0 A = true then [zk_wrp o.2.1 (zk_nw 1 A.2.2.2.2.1 (-9223372036854775808) 9223372036854775807 [] A.2.2.1) A] else [A]
    | none => [A])
  | 4 => (match A.2.1[o.2.1]? with
    | some v => zk_spA (zk_tg v.2.1 A.2.2.1.2.1 A.2.2.1) A
    | none => [A])
  | 5 => (match A.2.1[o.2.1]? with
    | some v => zk_spA (zk_le A.2.2.1 v (0, 0, o.2.2) 0) A ++ zk_spA (zk_le A.2.2.1 (0, 0, o.2.2) v (-1)) A
    | none => [A])
  | 6 => [zk_sp (A.2.2.1.1, zk_tr (if o.2.2 = 0 then o.2.1 else (match zk_find A.1 o.2.1 with | some v => v.2.1 | none => 0)) A.2.2.1.2.1 ++ A.2.2.1.2.1, A.2.2.1.2.2) A.2.1 A]
  | 7 => (match zk_find A.1 o.2.1 with
    | some v => zk_spA (zk_tg v.2.1 A.2.2.1.2.1 A.2.2.1) A
    | none => [A])
  | _ => UL n0 o.2.1 A
def zk_lms (n0 : Nat) (UL : Nat → Nat → zA → List zA) : List (Nat × Nat × Int) → zA → List zA
  | [], A => [A]
  | o :: l, A => (zk_lmo n0 UL o A).flatMap (zk_lms n0 UL l)
def zk_ULok (D : zD) (E : zE) (UL : Nat → Nat → zA → List zA) : Prop := ∀ (j : Nat) (A : zA) (r : Nat → Int) (ty : Nat → Nat) (H : Heap) (locs : List Loc) (ls : Array Slot) (st : List Value), zk_I D E A r ty H locs ls st → ∃ A' ∈ UL E.2.1.1 j A, ∃ r', zk_I D E A' r' ty H locs ls st ∧ A'.2.2.2.2.2.2 = A.2.2.2.2.2.2
theorem zk_I_map {D : zD} {E : zE} {A : zA} {r : Nat → Int} {ty : Nat → Nat} {H : Heap} {locs : List Loc} {ls : Array Slot} {st : List Value} {u : zU} (hu : zk_cp r u = r) (I : zk_I D E A r ty H locs ls st) : zk_I D E (zk_mapA u A) r ty H locs ls st := by
  obtain ⟨a1, a2, a3, ⟨b1, b2, b3, b4, b5, b6, b7⟩, a5, a6, a7, a8, a9, a10, a11⟩ := I
  have en : ∀ v : zV, zk_n r (zk_va u v) = zk_n r v := fun v => by rw [zk_n_va, hu]
  have ec : ∀ v : zV, zk_c r (zk_va u v) = zk_c r v := fun v => by rw [zk_c_va, hu]
  refine ⟨?_, ?_, a3, ⟨b1, fun q hq => ?_, fun q hq => ?_, b4, b5, b6, fun q hq => ?_⟩, a5, a6, a7, a8, a9, a10, a11⟩
  · have e : ((zk_mapA u A).1.map fun q => (q.1, zk_c r q.2)) = A.1.map fun q => (q.1, zk_c r q.2) := by
      show (A.1.map (fun q => (q.1, zk_va u q.2))).map _ = _
      rw [List.map_map]
      apply List.map_congr_left
      intro q _
      simp only [Function.comp, ec]
    rw [e]; exact a1
  · show st = (A.2.1.map (zk_va u)).map (zk_c r)
    rw [List.map_map, a2]
    apply List.map_congr_left
    intro q _
    simp only [Function.comp, ec]
  · obtain ⟨q', hq', rfl⟩ := List.mem_map.mp hq
    have := b2 q' hq'
    unfold zk_fm at this ⊢
    dsimp only
    rw [ec]
    exact this
  · obtain ⟨q', hq', rfl⟩ := List.mem_map.mp hq
    have := b3 q' hq'
    unfold zk_em at this ⊢
    dsimp only
    rw [ec, en]
    exact this
  · obtain ⟨q', hq', rfl⟩ := List.mem_map.mp hq
    have := b7 q' hq'
    dsimp only
    rw [List.map_map]
    have e : (zk_n r ∘ zk_va u) = zk_n r := funext en
    rw [e]
    exact this
theorem zk_lmo_ok {D : zD} {E : zE} {A : zA} {n0 : Nat} (hn0 : n0 = E.2.1.1) {UL : Nat → Nat → zA → List zA} (hU : zk_ULok D E UL) {o : Nat × Nat × Int} {r : Nat → Int} {ty : Nat → Nat} {H : Heap} {locs : List Loc} {ls : Array Slot} {st : List Value} (I : zk_I D E A r ty H locs ls st) : ∃ A' ∈ zk_lmo n0 UL o A, ∃ r', zk_I D E A' r' ty H locs ls st ∧ A'.2.2.2.2.2.2 = A.2.2.2.2.2.2 := by
  have hst := I.2.1
  have hP := I.2.2.1
  have h0 := I.2.2.2.2.2.2.1
  unfold zk_lmo
  split
  · split
    · exact ⟨A, List.mem_singleton.mpr rfl, r, I, rfl⟩
    · rename_i v hv
      by_cases hc : zk_n r v ≤ o.2.2
      · obtain ⟨P1, e1, g1⟩ := zk_le_ok hP (v := v) (w := (0, 0, o.2.2)) (c := 0) (by unfold zk_n at hc ⊢; dsimp only; rw [h0]; omega)
        refine ⟨zk_sp P1 A.2.1 A, List.mem_append_left _ (by rw [e1]; exact List.mem_singleton.mpr rfl), r, ?_, rfl⟩
        have := zk_I_sp (S := A.2.1) I g1
        rw [← hst] at this
        exact this
      · obtain ⟨P1, e1, g1⟩ := zk_le_ok hP (v := (0, 0, o.2.2)) (w := v) (c := -1) (by unfold zk_n at hc ⊢; dsimp only; rw [h0]; omega)
        refine ⟨zk_sp P1 A.2.1 A, List.mem_append_right _ (by rw [e1]; exact List.mem_singleton.mpr rfl), r, ?_, rfl⟩
        have := zk_I_sp (S := A.2.1) I g1
        rw [← hst] at this
        exact this
  · split
    · exact ⟨A, List.mem_singleton.mpr rfl, r, I, rfl⟩
    · rename_i v hv
      split
      · rename_i i hi
        split
        · rename_i hc
          refine ⟨_, List.mem_singleton.mpr rfl, r, zk_I_map ?_ I, rfl⟩
          funext x
          have hb := hP.1 _ (zk_iv_mem hi)
          dsimp only at hb
          unfold zk_cp zk_sx
          split
          · rename_i e
            dsimp only at e ⊢
            rw [h0, ← e]
            omega
          · unfold zk_sx
            dsimp only
            omega
        · exact ⟨A, List.mem_singleton.mpr rfl, r, I, rfl⟩
      · exact ⟨A, List.mem_singleton.mpr rfl, r, I, rfl⟩
  · split
    · rename_i v hv
      split
      · rename_i hc
        have hok : zk_ok E.2.1.1 A = true := by rw [← hn0]; exact hc.2.2
        obtain ⟨r', I'⟩ := zk_I_wrp hok I hv (zk_G_top (t := 0) (lo := -2147483648) (hi := 2147483647) (zk_okP hok) hP (by rw [zk_e0 hc.1]; exact zk_tI _))
        exact ⟨_, List.mem_singleton.mpr rfl, r', I', rfl⟩
      · split
        · rename_i hc
          have hok : zk_ok E.2.1.1 A = true := by rw [← hn0]; exact hc.2.2
          obtain ⟨r', I'⟩ := zk_I_wrp hok I hv (zk_G_top (t := 1) (lo := -9223372036854775808) (hi := 9223372036854775807) (zk_okP hok) hP (by rw [zk_e1 hc.1]; exact zk_tL _))
          exact ⟨_, List.mem_singleton.mpr rfl, r', I', rfl⟩
        · exact ⟨A, List.mem_singleton.mpr rfl, r, I, rfl⟩
    · exact ⟨A, List.mem_singleton.mpr rfl, r, I, rfl⟩
  · split
    · rename_i v hv
      obtain ⟨P1, e1, g1⟩ := zk_tg_ok (x := v.2.1) hP hP.2.1
      refine ⟨zk_sp P1 A.2.1 A, by rw [e1]; exact List.mem_singleton.mpr rfl, r, ?_, rfl⟩
      have := zk_I_sp (S := A.2.1) I g1
      rw [← hst] at this
      exact this
    · exact ⟨A, List.mem_singleton.mpr rfl, r, I, rfl⟩
  · split
    · rename_i v hv
      by_cases hc : zk_n r v ≤ o.2.2
      · obtain ⟨P1, e1, g1⟩ := zk_le_ok hP (v := v) (w := (0, 0, o.2.2)) (c := 0) (by unfold zk_n at hc ⊢; dsimp only; rw [h0]; omega)
        refine ⟨zk_sp P1 A.2.1 A, List.mem_append_left _ (by rw [e1]; exact List.mem_singleton.mpr rfl), r, ?_, rfl⟩
        have := zk_I_sp (S := A.2.1) I g1
        rw [← hst] at this
        exact this
      · obtain ⟨P1, e1, g1⟩ := zk_le_ok hP (v := (0, 0, o.2.2)) (w := v) (c := -1) (by unfold zk_n at hc ⊢; dsimp only; rw [h0]; omega)
        refine ⟨zk_sp P1 A.2.1 A, List.mem_append_right _ (by rw [e1]; exact List.mem_singleton.mpr rfl), r, ?_, rfl⟩
        have := zk_I_sp (S := A.2.1) I g1
        rw [← hst] at this
        exact this
    · exact ⟨A, List.mem_singleton.mpr rfl, r, I, rfl⟩
  · refine ⟨_, List.mem_singleton.mpr rfl, r, ?_, rfl⟩
    have := zk_I_sp (S := A.2.1) (P := (A.2.2.1.1, zk_tr (if o.2.2 = 0 then o.2.1 else (match zk_find A.1 o.2.1 with | some v => v.2.1 | none => 0)) A.2.2.1.2.1 ++ A.2.2.1.2.1, A.2.2.1.2.2)) I ⟨hP.1, fun q hq => by
      rcases List.mem_append.mp hq with hq | hq
      · exact zk_tr_ok hP.2.1 q hq
      · exact hP.2.1 q hq, hP.2.2⟩
    rw [← hst] at this
    exact this
  · split
    · rename_i v hv
      obtain ⟨P1, e1, g1⟩ := zk_tg_ok (x := v.2.1) hP hP.2.1
      refine ⟨zk_sp P1 A.2.1 A, by rw [e1]; exact List.mem_singleton.mpr rfl, r, ?_, rfl⟩
      have := zk_I_sp (S := A.2.1) I g1
      rw [← hst] at this
      exact this
    · exact ⟨A, List.mem_singleton.mpr rfl, r, I, rfl⟩
  · rw [hn0]; exact hU _ A r ty H locs ls st I
theorem zk_lms_ok {D : zD} {E : zE} {n0 : Nat} (hn0 : n0 = E.2.1.1) {UL : Nat → Nat → zA → List zA} (hU : zk_ULok D E UL) {ty : Nat → Nat} {H : Heap} {locs : List Loc} {ls : Array Slot} {st : List Value} : ∀ {os : List (Nat × Nat × Int)} {A : zA} {r : Nat → Int}, zk_I D E A r ty H locs ls st → ∃ A' ∈ zk_lms n0 UL os A, ∃ r', zk_I D E A' r' ty H locs ls st ∧ A'.2.2.2.2.2.2 = A.2.2.2.2.2.2
  | [], A, r, I => ⟨A, List.mem_singleton.mpr rfl, r, I, rfl⟩
  | o :: l, A, r, I => by
    obtain ⟨A1, m1, r1, I1, e1⟩ := zk_lmo_ok hn0 hU (o := o) I
    obtain ⟨A2, m2, r2, I2, e2⟩ := zk_lms_ok hn0 hU (os := l) I1
    exact ⟨A2, List.mem_flatMap.mpr ⟨A1, m1, m2⟩, r2, I2, by rw [e2, e1]⟩
section
variable {p : Program} {l : Launch} {e : Env} {R : Room} {s : State} {m : MethodId} {args : Array Value} {below : List Frame} {meth : Method} {c : Code} {Q : State → Prop} {D : zD} {E : zE}
theorem zk_lms_W {n0 : Nat} (hn0 : n0 = E.2.1.1) {UL : Nat → Nat → zA → List zA} (hU : zk_ULok D E UL) {n : Nat} {K : zA → Bool} (hK : ∀ A, K A = true → zk_W p l e R s m args below meth c Q D E n A) {os : List (Nat × Nat × Int)} {A : zA} (h : (zk_lms n0 UL os A).all K = true) : zk_W p l e R s m args below meth c Q D E n A := by
  intro r ty H locs ls st I
  obtain ⟨A', m', r', I', e'⟩ := zk_lms_ok hn0 hU (os := os) I
  have := hK A' (List.all_eq_true.mp h A' m') r' ty H locs ls st I'
  rw [e'] at this
  exact this
end
end
section
/-! THE CHECKER, 24: the whole of it. XT: what is left to the method (calls, returns, texts). -/
section
variable (cl : List vw_C) (ft : Nat → Nat → FieldType) (TT : Nat → zS) (PF : Nat → List (Nat × Nat)) (PB : Nat → List Nat) (SU : zSU)
variable (FX : Nat → Option (Nat × Nat)) (CX LX : Nat → Option Int) (NX : Nat → Option (Nat × Nat)) (NA : Nat → Option Nat) (oc : Nat) (ini : Bool)
variable (nL n0 rc rs : Nat) (F : List (Nat × Nat)) (B : List Nat) (FT : Nat → Option (Instr × Nat)) (AN : Nat → List zA) (FZ : Nat → List (Nat × Nat)) (LM : Nat → List (Nat × Nat × Int)) (UL : Nat → Nat → zA → List zA) (AT : Nat → Option Nat)
variable (XT : (Nat → zA → Bool) → Nat → zA → Instr → Nat → Bool)
def zk_heap (K : Nat → zA → Bool) (pc : Nat) (A : zA) (i : Instr) (len : Nat) : Bool := match i, len with
  | .getfield x, 3 => zk_get TT FX n0 K pc x A
  | .putfield x, 3 => zk_put cl ft TT FX PF SU F oc ini K pc x A
  | .iaload, 1 => zk_ald TT [1] n0 K pc A || zk_sld n0 K pc A
  | .baload, 1 => zk_ald TT [2] n0 K pc A || zk_ald TT [3] n0 K pc A
  | .laload, 1 => zk_ald TT [4] n0 K pc A
  | .aaload, 1 => zk_ald TT [10, 12, 13, 14, 19] n0 K pc A || zk_rld K pc A
  | .arraylength, 1 => zk_alen TT K pc A
  | .iastore, 1 => zk_ast TT B PB SU [1] K pc A
  | .bastore, 1 => zk_ast TT B PB SU [2, 3] K pc A
  | .lastore, 1 => zk_ast TT B PB SU [4] K pc A
  | .aastore, 1 => zk_ast TT B PB SU [10, 12, 13, 14, 19] K pc A || zk_rast TT K pc A
  | .new x, 3 => zk_new cl ft NX n0 rc rs K pc x A
  | .newarray t, 2 => zk_newa TT AT n0 rc rs K pc t A
  | .anewarray x, 3 => zk_anew NA n0 rc rs K pc x A
  | _, _ => false
def zk_step (K : Nat → zA → Bool) (pc : Nat) (A : zA) : Bool := match FT pc with
  | none => false
  | some q => zk_plain CX LX nL n0 K pc A q.1 q.2 || (zk_heap cl ft TT PF PB SU FX NX NA oc ini n0 rc rs F B AT K pc A q.1 q.2 || XT K pc A q.1 q.2)
def zk_exec : Nat → Nat → zA → Bool
  | 0, _, _ => false
  | f + 1, pc, A => match zk_frz TT (FZ pc) A with
    | none => false
    | some A1 => (zk_lms n0 UL (LM pc) A1).all (fun A2 => zk_step cl ft TT PF PB SU FX CX LX NX NA oc ini nL n0 rc rs F B FT AT XT (fun n A3 => match AN n with | [] => zk_exec f n A3 | b :: l => (b :: l).any (fun Bn => zk_arv n0 (zk_mt n0 A3 Bn) A3 Bn)) pc A2)
end
section
variable {p : Program} {l : Launch} {e : Env} {R : Room} {s : State} {m : MethodId} {args : Array Value} {below : List Frame} {meth : Method} {c : Code} {Q : State → Prop} {cc : ByteArray} {D : zD} {E : zE}
variable {cl : List vw_C} {ft : Nat → Nat → FieldType} {PF : Nat → List (Nat × Nat)} {PB : Nat → List Nat} {SU : zSU} {own : String}
variable {FX : Nat → Option (Nat × Nat)} {CX LX : Nat → Option Int} {NX : Nat → Option (Nat × Nat)} {NA : Nat → Option Nat} {oc : Nat} {ini : Bool}
variable {nL n0 rc rs : Nat} {F : List (Nat × Nat)} {B : List Nat} {FT : Nat → Option (Instr × Nat)} {AN : Nat → List zA} {FZ : Nat → List (Nat × Nat)} {LM : Nat → List (Nat × Nat × Int)} {UL : Nat → Nat → zA → List zA} {AT : Nat → Option Nat} {XT : (Nat → zA → Bool) → Nat → zA → Instr → Nat → Bool}
/-- what the checker rests on, at a method -/
def zk_ctx (p : Program) (R : Room) (s : State) (m : MethodId) (args : Array Value) (meth : Method) (c : Code) (cc : ByteArray) (D : zD) (cl : List vw_C) (ft : Nat → Nat → FieldType) (PF : Nat → List (Nat × Nat)) (PB : Nat → List Nat) (SU : zSU) (own : String) (FX : Nat → Option (Nat × Nat)) (CX LX : Nat → Option Int) (NX : Nat → Option (Nat × Nat)) (NA : Nat → Option Nat) (oc : Nat) (ini : Bool) (rc rs : Nat) (FT : Nat → Option (Instr × Nat)) : Prop :=
  p.tables.exec = Jvm.exec ∧ c.code = cc ∧ s.vm.findClass own = some m.cls ∧ zk_env D cl ft s args ∧ zk_FX cl FX own s args ∧ (∀ (i : Nat) (k : Int), CX i = some k → (Jvm.Cond.constant own i (Int32.ofInt k)).before args s = true) ∧ (∀ (i : Nat) (k : Int), LX i = some k → (Jvm.Cond.constantLong own i (Int64.ofInt k)).before args s = true) ∧ zk_NX cl NX own s args ∧ zk_NA cl NA own s args ∧ (ini = true → own = zk_cn cl oc) ∧ (ini = true → meth.name = "<init>") ∧ (∀ k : ArrayType, zk_ak k ≠ 0 → (Cond.arrayClass (newarray.typeOf k)).before args s = true) ∧ (rc ≤ R.cells ∧ rs ≤ R.slots) ∧ zk_stb D PF PB SU ∧ ∀ (pc : Nat) (q : Instr × Nat), FT pc = some q → decode cc pc = .ok q
def zk_SC (D : zD) (E : zE) (s : State) : Prop := ∀ (a : Nat) (n : Int), D.SC a n → ∃ cell : Cell, s.heap[a]? = some cell ∧ s.isArrayOf cell .int ∧ cell.vm ≠ .unknown ∧ (cell.slots.size : Int) = n ∧ n ≤ 2147483647 ∧ (∀ j : Nat, j < cell.slots.size → ∃ y : Int32, cell.slots[j]? = some (.int y)) ∧ ∀ (H : Heap) (ty : Nat → Nat), zk_T D ty H → zk_F D E.2.2.1.1 E.2.2.1.2 E.2.2.2.1.1 E.2.2.2.1.2.1 E.2.2.2.1.2.2 ty H → H[a]? = some cell
theorem zk_W.raise {n : Nat} {A A' : zA} (h : ∀ (r : Nat → Int) (ty : Nat → Nat) (H : Heap) (locs : List Loc) (ls : Array Slot) (st : List Value), zk_I D E A r ty H locs ls st → ∃ ty', zk_I D E A' r ty' H locs ls st ∧ A'.2.2.2.2 = A.2.2.2.2) (k : zk_W p l e R s m args below meth c Q D E n A') : zk_W p l e R s m args below meth c Q D E n A := by
  intro r ty H locs ls st I
  obtain ⟨ty', I', e1⟩ := h r ty H locs ls st I
  have := k r ty' H locs ls st I'
  rw [e1] at this
  exact this
set_option maxHeartbeats 1000000 in
theorem zk_heap_ok (hQ : zk_fr D ∨ ∀ pc, AT pc = none) (C : zk_ctx p R s m args meth c cc D cl ft PF PB SU own FX CX LX NX NA oc ini rc rs FT) (hSC : zk_SC D E s) (hn0 : n0 = E.2.1.1) (hF : F = E.2.2.1.1) (hB : B = E.2.2.1.2) {K : Nat → zA → Bool} (hK : ∀ (n : Nat) (A : zA), K n A = true → zk_W p l e R s m args below meth c Q D E n A) {pc : Nat} {A : zA} {i : Instr} {len : Nat} (hd : decode cc pc = .ok (i, len)) (h : zk_heap cl ft D.TT PF PB SU FX NX NA oc ini n0 rc rs F B AT K pc A i len = true) : zk_W p l e R s m args below meth c Q D E pc A := by
  obtain ⟨hx, hb, hown, hV, hFX, hCX, hLX, hNX, hNA, hoc, hini, hAC, hR, hO, hFT⟩ := C
  unfold zk_heap at h
  split at h
  · exact zk_get_ok hx hb hown hV hFX hn0 hK hd h
  · exact zk_put_ok hx hb hown hV hFX hoc hini hO hF hK hd h
  · rcases Bool.or_eq_true _ _ ▸ h with h | h
    · exact zk_ald_ok (ks := [1]) (by decide) hV hn0 hK (fun {H locs cells slots a ls rest x cell j k} hk h1 h2 h3 h4 h5 kk => by
        rw [List.mem_singleton.mp hk] at h2
        exact W.iald hx hb h1 h2 h3 h4 h5 rfl rfl hd kk) h
    · exact zk_sld_ok hx hb hn0 hSC hK hd h
  · rcases Bool.or_eq_true _ _ ▸ h with h | h
    · exact zk_ald_ok (ks := [2]) (by decide) hV hn0 hK (fun {H locs cells slots a ls rest x cell j k} hk h1 h2 h3 h4 h5 kk => by
        rw [List.mem_singleton.mp hk] at h2
        exact W.bald hx hb h1 h2 h3 h4 h5 rfl rfl hd kk) h
    · exact zk_ald_ok (ks := [3]) (by decide) hV hn0 hK (fun {H locs cells slots a ls rest x cell j k} hk h1 h2 h3 h4 h5 kk => by
        rw [List.mem_singleton.mp hk] at h2
        exact W.zald hx hb h1 h2 h3 h4 h5 rfl rfl hd kk) h
  · exact zk_ald_ok (ks := [4]) (by decide) hV hn0 hK (fun {H locs cells slots a ls rest x cell j k} hk h1 h2 h3 h4 h5 kk => by
      rw [List.mem_singleton.mp hk] at h2
      exact W.lald hx hb h1 h2 h3 h4 h5 rfl rfl hd kk) h
  · rcases Bool.or_eq_true _ _ ▸ h with h | h
    · exact zk_ald_ok (ks := [10, 12, 13, 14, 19]) (by decide) hV hn0 hK (fun {H locs cells slots a ls rest x cell j k} hk h1 h2 h3 h4 h5 kk => by
        refine W.aald hx hb h1 h2 ?_ h3 h4 h5 rfl rfl hd kk
        simp only [List.mem_cons, List.not_mem_nil, or_false] at hk
        rcases hk with z | z | z | z | z <;> subst z <;> rfl) h
    · exact zk_rld_ok hx hb hV hK hd h
  · exact zk_alen_ok hx hb hV hSC hK hd h
  · exact zk_ast_ok hx hb hV hO hB (ks := [1]) (by decide) hd hK h
  · exact zk_ast_ok hx hb hV hO hB (ks := [2, 3]) (by decide) hd hK h
  · exact zk_ast_ok hx hb hV hO hB (ks := [4]) (by decide) hd hK h
  · rcases Bool.or_eq_true _ _ ▸ h with h | h
    · exact zk_ast_ok hx hb hV hO hB (ks := [10, 12, 13, 14, 19]) (by decide) hd hK h
    · exact zk_rast_ok hx hb hV hO.1 hd hK h
  · exact zk_new_ok hx hb hown hV hNX hO.1 hn0 hR hK hd h
  · exact zk_newa_ok hQ hx hb hV hAC hO.1 hn0 hR hK hd h
  · exact zk_anew_ok hx hb hown hV hNA hO.1 hn0 hR hK hd h
  · cases h
end
end
section
/-! THE CHECKER, 25: it is right. -/
section
variable {p : Program} {l : Launch} {e : Env} {R : Room} {s : State} {m : MethodId} {args : Array Value} {below : List Frame} {meth : Method} {c : Code} {Q : State → Prop} {cc : ByteArray} {D : zD}
variable {cl : List vw_C} {ft : Nat → Nat → FieldType} {PF : Nat → List (Nat × Nat)} {PB : Nat → List Nat} {SU : zSU} {own : String}
variable {FX : Nat → Option (Nat × Nat)} {CX LX : Nat → Option Int} {NX : Nat → Option (Nat × Nat)} {NA : Nat → Option Nat} {oc : Nat} {ini : Bool}
variable {nL n0 rc rs : Nat} {F : List (Nat × Nat)} {B : List Nat} {FT : Nat → Option (Instr × Nat)} {AN : Nat → List zA} {FZ : Nat → List (Nat × Nat)} {LM : Nat → List (Nat × Nat × Int)} {UL : Nat → Nat → zA → List zA} {AT : Nat → Option Nat} {XT : (Nat → zA → Bool) → Nat → zA → Instr → Nat → Bool}
/-- what is left to the method is right at a frame -/
def zk_XT (p : Program) (l : Launch) (e : Env) (R : Room) (s : State) (m : MethodId) (args : Array Value) (below : List Frame) (meth : Method) (c : Code) (Q : State → Prop) (cc : ByteArray) (D : zD) (E : zE) (XT : (Nat → zA → Bool) → Nat → zA → Instr → Nat → Bool) : Prop :=
  ∀ (K : Nat → zA → Bool), (∀ (n : Nat) (A : zA), K n A = true → zk_W p l e R s m args below meth c Q D E n A) → ∀ (pc : Nat) (A : zA) (i : Instr) (len : Nat), decode cc pc = .ok (i, len) → XT K pc A i len = true → zk_W p l e R s m args below meth c Q D E pc A
theorem zk_exec_ok (hQ : zk_fr D ∨ ((∀ pc, FZ pc = []) ∧ ∀ pc, AT pc = none)) (C : zk_ctx p R s m args meth c cc D cl ft PF PB SU own FX CX LX NX NA oc ini rc rs FT) {E : zE} (hSC : zk_SC D E s) (hE : E.1 = nL) (hn0 : n0 = E.2.1.1) (hF : F = E.2.2.1.1) (hB : B = E.2.2.1.2) (hX : zk_XT p l e R s m args below meth c Q cc D E XT) (hU : zk_ULok D E UL) (hA : ∀ (M : Int), M + 1 ≤ E.2.2.2.2 → ∀ (n : Nat) (Bn : zA), Bn ∈ AN n → zk_W p l e R s m args below meth c Q D (zk_sE E M) n Bn) :
    ∀ (f pc : Nat) (A : zA), zk_exec cl ft D.TT PF PB SU FX CX LX NX NA oc ini nL n0 rc rs F B FT AN FZ LM UL AT XT f pc A = true → zk_W p l e R s m args below meth c Q D E pc A := by
  intro f
  induction f with
  | zero => intro pc A h; cases h
  | succ f ih =>
    intro pc A h
    unfold zk_exec at h
    split at h
    · cases h
    · rename_i A1 hfz
      refine zk_W.raise (A' := A1) (fun r ty H locs ls st I => zk_frz_ok C.2.2.2.2.2.2.2.2.2.2.2.2.2.1.1 (hQ.imp_right (fun z => z.1 pc)) I hfz) ?_
      refine zk_lms_W hn0 hU (fun A2 h2 => ?_) h
      have hK : ∀ (n : Nat) (A3 : zA), (match AN n with | [] => zk_exec cl ft D.TT PF PB SU FX CX LX NX NA oc ini nL n0 rc rs F B FT AN FZ LM UL AT XT f n A3 | b :: l => (b :: l).any (fun Bn => zk_arv n0 (zk_mt n0 A3 Bn) A3 Bn)) = true → zk_W p l e R s m args below meth c Q D E n A3 := by
        intro n A3 h3
        split at h3
        · exact ih n A3 h3
        · rename_i b l' hl
          obtain ⟨Bn, hBn, harv⟩ := List.any_eq_true.mp h3
          intro r ty H locs ls st I
          obtain ⟨r', M, I', hM, c1, c2⟩ := zk_arv_ok hn0 harv I
          exact W.widen c1 c2 (hA M hM n Bn (by rw [hl]; exact hBn) r' ty H locs ls st I')
      have C' := C
      obtain ⟨hx, hb, hown, hV, hFX, hCX, hLX, hNX, hNA, hoc, hini, hAC, hR, hO, hFT⟩ := C'
      unfold zk_step at h2
      split at h2
      · cases h2
      · rename_i q hq
        have hd := hFT pc q hq
        rcases Bool.or_eq_true _ _ ▸ h2 with h2 | h2
        · exact zk_plain_ok hx hb hown hE hn0 hCX hLX hK hd h2
        · rcases Bool.or_eq_true _ _ ▸ h2 with h2 | h2
          · exact zk_heap_ok (hQ.imp_right (fun z => z.2)) C hSC hn0 hF hB hK hd h2
          · exact hX _ hK pc A2 q.1 q.2 hd h2
/-- every annotated place, by its measure -/
theorem zk_ann_ok (hQ : zk_fr D ∨ ((∀ pc, FZ pc = []) ∧ ∀ pc, AT pc = none)) (C : zk_ctx p R s m args meth c cc D cl ft PF PB SU own FX CX LX NX NA oc ini rc rs FT) {fuel : Nat} (hAll : ∀ (n : Nat) (Bn : zA), Bn ∈ AN n → zk_exec cl ft D.TT PF PB SU FX CX LX NX NA oc ini nL n0 rc rs F B FT AN FZ LM UL AT XT fuel n Bn = true ∧ zk_pos Bn.2.2.1 (Bn.2.2.2.2.2.1.1, Bn.2.2.2.2.2.1.2 + 1) = true) :
    ∀ (k : Nat) (E : zE), zk_SC D E s → E.1 = nL → n0 = E.2.1.1 → F = E.2.2.1.1 → B = E.2.2.1.2 → (∀ M, zk_XT p l e R s m args below meth c Q cc D (zk_sE E M) XT) → (∀ M, zk_ULok D (zk_sE E M) UL) → E.2.2.2.2 < k → ∀ (n : Nat) (Bn : zA), Bn ∈ AN n → zk_W p l e R s m args below meth c Q D E n Bn := by
  intro k
  induction k with
  | zero =>
    intro E hSC hE hn0 hF hB hX hU hk n Bn hBn r ty H locs ls st I
    have h1 := zk_pos_ok I.2.2.1 (hAll n Bn hBn).2
    have h2 := I.2.2.2.2.2.2.2.2.1
    rw [zk_lin_lf] at h2
    dsimp only at h1
    omega
  | succ k ih =>
    intro E hSC hE hn0 hF hB hX hU hk n Bn hBn
    refine zk_exec_ok hQ C hSC hE hn0 hF hB (by have := hX E.2.2.2.2; exact this) (by have := hU E.2.2.2.2; exact this) (fun M hM n' B' hB' => ?_) fuel n Bn (hAll n Bn hBn).1
    exact ih (zk_sE E M) hSC hE hn0 hF hB (fun M' => hX M') (fun M' => hU M') (by show M < (k : Int); omega) n' B' hB'
/-- a method, from its entry -/
theorem zk_body_ok (hQ : zk_fr D ∨ ((∀ pc, FZ pc = []) ∧ ∀ pc, AT pc = none)) (C : zk_ctx p R s m args meth c cc D cl ft PF PB SU own FX CX LX NX NA oc ini rc rs FT) {fuel : Nat} {E : zE} {A0 : zA} (hAll : ∀ (n : Nat) (Bn : zA), Bn ∈ AN n → zk_exec cl ft D.TT PF PB SU FX CX LX NX NA oc ini nL n0 rc rs F B FT AN FZ LM UL AT XT fuel n Bn = true ∧ zk_pos Bn.2.2.1 (Bn.2.2.2.2.2.1.1, Bn.2.2.2.2.2.1.2 + 1) = true)
    (h0 : zk_exec cl ft D.TT PF PB SU FX CX LX NX NA oc ini nL n0 rc rs F B FT AN FZ LM UL AT XT fuel 0 A0 = true) (hSC : zk_SC D E s) (hE : E.1 = nL) (hn0 : n0 = E.2.1.1) (hF : F = E.2.2.1.1) (hB : B = E.2.2.1.2) (hX : ∀ M, zk_XT p l e R s m args below meth c Q cc D (zk_sE E M) XT) (hU : ∀ M, zk_ULok D (zk_sE E M) UL) : zk_W p l e R s m args below meth c Q D E 0 A0 := by
  refine zk_exec_ok hQ C hSC hE hn0 hF hB (by have := hX E.2.2.2.2; exact this) (by have := hU E.2.2.2.2; exact this) (fun M hM n' B' hB' => ?_) fuel 0 A0 h0
  exact zk_ann_ok hQ C hAll (M.toNat + 1) (zk_sE E M) hSC hE hn0 hF hB (fun M' => hX M') (fun M' => hU M') (by show M < ((M.toNat + 1 : Nat) : Int); omega) n' B' hB'
end
end
section
/-! THE CHECKER, 26: returns, and a method's contract. -/
def zk_ret1 (n0 : Nat) (v : Option zV) (A : zA) (c : Option zV × zP × zG) (u : zU) : Bool := decide (c.1.map (zk_va u) = v) && zk_inP u A.2.2.1 c.2.1 && zk_inG u A.2.2.2.1 c.2.2 && u.all (fun q => Nat.ble n0 q.1 && Nat.blt 0 q.1)
def zk_retu (n0 : Nat) (v : Option zV) (A : zA) (c : Option zV × zP × zG) : zU := zk_mtG n0 A.2.2.2.1 c.2.2 (match c.1, v with | some w, some v => zk_bd n0 [] w v | _, _ => [])
def zk_ret (n0 : Nat) (cs : zQ) (v : Option zV) (A : zA) : Bool := decide (A.2.2.2.2.2.2.1 ≤ cs.2.2.2.2.1 ∧ A.2.2.2.2.2.2.2 ≤ cs.2.2.2.2.2) && cs.2.2.1.any (fun c => zk_ret1 n0 v A c (zk_retu n0 v A c))
/-- how a method's frame begins -/
def zk_E0 (nL : Nat) (cs : zQ) (r : Nat → Int) (ty : Nat → Nat) (H0 : Heap) (M : Int) : zE := (nL, (cs.1.1, r), cs.2.2.2.1, (zk_U r cs.2.1.2.2, ty, H0), M)
theorem zk_ret_ok {D : zD} {cs : zQ} {nL : Nat} {r0 : Nat → Int} {ty0 : Nat → Nat} {s t : State} {M : Int} {A : zA} {r : Nat → Int} {ty : Nat → Nat} {H : Heap} {locs : List Loc} {ls : Array Slot} {st : List Value} {v : Option zV} (I : zk_I D (zk_E0 nL cs r0 ty0 s.heap M) A r ty H locs ls st) (ht : t.heap = H) (h : zk_ret cs.1.1 cs v A = true) : zk_Qc D cs r0 ty0 s (.returned (v.map (zk_c r))) t := by
  simp only [zk_ret, Bool.and_eq_true, List.any_eq_true] at h
  obtain ⟨-, c, hc, h⟩ := h
  simp only [zk_ret1, Bool.and_eq_true, decide_eq_true_eq, List.all_eq_true] at h
  generalize zk_retu cs.1.1 v A c = u at h
  obtain ⟨⟨⟨h1, h2⟩, h3⟩, h4⟩ := h
  obtain ⟨a1, a2, a3, a4, a5, a6, a7, a8, a9, a10, a11⟩ := I
  have hz : ∀ x, x < cs.1.1 → zk_cp r u x = r x := fun x hx => by
    have e : zk_sx u x = (x, 0) := zk_sx_id (fun q hq => by
      have k1 := Nat.le_of_ble_eq_true (h4 q hq).1
      omega)
    unfold zk_cp
    rw [e]
    dsimp only
    omega
  refine ⟨c, hc, zk_cp r u, ty, fun x hx => ?_, ?_, zk_inP_ok a3 h2, by rw [ht]; exact zk_inG_ok a4 h3, by rw [ht]; exact a5, by rw [ht]; exact a6⟩
  · rw [hz x hx]; exact a8 x hx
  · rw [← h1]
    cases c.1 with
    | none => rfl
    | some w => simp only [Option.map_some]; rw [zk_c_va]
section
variable {p : Program} {l : Launch} {e : Env} {R : Room} {s : State} {m : MethodId} {args : Array Value} {below : List Frame} {meth : Method} {c : Code} {cc : ByteArray} {D : zD} {cs : zQ} {nL : Nat} {r0 : Nat → Int} {ty0 : Nat → Nat} {M : Int} {pc : Nat} {A : zA}
/-- the end of a method with this contract -/
def zk_MQ (below : List Frame) (D : zD) (cs : zQ) (r0 : Nat → Int) (ty0 : Nat → Nat) (args : Array Value) (s : State) : State → Prop := MQ below (fun _ st o t => zk_Qc D cs r0 ty0 st o t) args s cs.2.2.2.2.1 cs.2.2.2.2.2 (fun q => D.ba ≤ q)
def zk_retX (n0 : Nat) (cs : zQ) (A : zA) (i : Instr) (len : Nat) : Bool := match i, len with
  | .ireturn, 1 => (match A.2.1 with | [v] => decide (v.1 = 0) && zk_ret n0 cs (some v) A | _ => false)
  | .lreturn, 1 => (match A.2.1 with | [v] => decide (v.1 = 1) && zk_ret n0 cs (some v) A | _ => false)
  | .return_, 1 => (match A.2.1 with | [] => zk_ret n0 cs none A | _ => false)
  | _, _ => false
/-- rt: the method's type of answer; of a boolean the answer must be 0 or 1 -/
def zk_retok (rt : Option FieldType) (A : zA) (i : Instr) : Bool := match i with
  | .ireturn => (match rt with | some .int => true | some .boolean => (match A.2.1 with | [v] => zk_inb A.2.2.1 v 0 1 | _ => false) | _ => false)
  | .lreturn => decide (rt = some .long)
  | .return_ => decide (rt = none)
  | _ => false
theorem zk_retX_ok {rt : Option FieldType} (hx : p.tables.exec = Jvm.exec) (hb : c.code = cc) (hr : meth.sig.returnType = rt) (hlocks : meth.locks = false) {i : Instr} {len : Nat} (hd : decode cc pc = .ok (i, len)) (h : zk_retX cs.1.1 cs A i len = true) (hk : zk_retok rt A i = true) : zk_W p l e R s m args below meth c (zk_MQ below D cs r0 ty0 args s) D (zk_E0 nL cs r0 ty0 s.heap M) pc A := by
  intro r ty H locs ls st I
  have hst := I.2.1
  subst hst
  have hl := I.2.2.2.2.2.2.2.2.2.1
  unfold zk_retX at h
  split at h
  · split at h
    rotate_left
    · cases h
    rename_i v hS
    simp only [Bool.and_eq_true, decide_eq_true_eq] at h
    have hw := h.2
    simp only [zk_ret, Bool.and_eq_true, decide_eq_true_eq] at hw
    refine W.widen hw.1.1 hw.1.2 ?_
    rw [hS]
    show W p l e R s m args below meth c H locs _ _ _ (F0 m pc ls [zk_c r v])
    rw [zk_e0 h.1]
    unfold zk_retok at hk
    dsimp only at hk
    have hq : ∀ t : State, t.heap = H → s.WarmedH t.vm → zk_Qc D cs r0 ty0 s (.returned (some (.int (Int32.ofInt (zk_n r v))))) t := fun t ht _ => by
      have := zk_ret_ok I ht h.2
      rw [Option.map_some, zk_e0 h.1] at this
      exact this
    split at hk
    · exact W.iret hx hb hr hq hl hd
    · rw [hS] at hk
      dsimp only at hk
      have hb2 := zk_inb_ok I.2.2.1 hk
      refine W.zret hx hb hr ?_ hq hl hd
      rcases (show zk_n r v = 0 ∨ zk_n r v = 1 by omega) with z | z <;> rw [z] <;> decide
    · cases hk
  · split at h
    rotate_left
    · cases h
    rename_i v hS
    simp only [Bool.and_eq_true, decide_eq_true_eq] at h
    have hw := h.2
    simp only [zk_ret, Bool.and_eq_true, decide_eq_true_eq] at hw
    refine W.widen hw.1.1 hw.1.2 ?_
    rw [hS]
    show W p l e R s m args below meth c H locs _ _ _ (F0 m pc ls [zk_c r v])
    rw [zk_e1 h.1]
    simp only [zk_retok, decide_eq_true_eq] at hk
    refine W.lret hx hb (by rw [hr]; exact hk) (fun t ht _ => ?_) hl hd
    have := zk_ret_ok I ht h.2
    rw [Option.map_some, zk_e1 h.1] at this
    exact this
  · split at h
    rotate_left
    · cases h
    rename_i hS
    have hw := h
    simp only [zk_ret, Bool.and_eq_true, decide_eq_true_eq] at hw
    refine W.widen hw.1.1 hw.1.2 ?_
    rw [hS]
    simp only [zk_retok, decide_eq_true_eq] at hk
    refine W.vret hx hb (by rw [hr]; exact hk) (fun t ht _ => ?_) hl hd
    exact zk_ret_ok I ht h
  · cases h
end
end
section
/-! TEXTS: length and charAt of the claim's own literals (printed by wip/tools/mktext.py). -/
def zs_txt : List String := ["same", "drop", "double", "first", "two", "one", "makes", "turns", "mixes", "sends", "counts", "pads", "meets", "sums", "same drop double first one two makes turns mixes sends counts pads meets sums "]
def zs_byt : List (List Int32) := [[115, 97, 109, 101], [100, 114, 111, 112], [100, 111, 117, 98, 108, 101], [102, 105, 114, 115, 116], [116, 119, 111], [111, 110, 101], [109, 97, 107, 101, 115], [116, 117, 114, 110, 115], [109, 105, 120, 101, 115], [115, 101, 110, 100, 115], [99, 111, 117, 110, 116, 115], [112, 97, 100, 115], [109, 101, 101, 116, 115], [115, 117, 109, 115], [115, 97, 109, 101, 32, 100, 114, 111, 112, 32, 100, 111, 117, 98, 108, 101, 32, 102, 105, 114, 115, 116, 32, 111, 110, 101, 32, 116, 119, 111, 32, 109, 97, 107, 101, 115, 32, 116, 117, 114, 110, 115, 32, 109, 105, 120, 101, 115, 32, 115, 101, 110, 100, 115, 32, 99, 111, 117, 110, 116, 115, 32, 112, 97, 100, 115, 32, 109, 101, 101, 116, 115, 32, 115, 117, 109, 115, 32]]
def zs_len : List Nat := [4, 4, 6, 5, 3, 3, 5, 5, 5, 5, 6, 4, 5, 4, 78]
/-- the texts' world at a state: their objects, what String's statics hold -/
def zs_S (adK adV : Nat → Nat) (A : Nat → Prop) (U : State) (H : Heap) : Prop := vk_S 15 zs_len zs_byt adK adV A U H ∧ va_Z "java/lang/String" "COMPACT_STRINGS" "Z" (.int 1) A U H ∧ va_Zq "jdk/internal/util/Preconditions" "SIOOBE_FORMATTER" "Ljava/util/function/BiFunction;" A U H
theorem zs_S.moved {adK adV : Nat → Nat} {A : Nat → Prop} {u U : State} {H : Heap} (hvm : u.vm.Alike U.vm) (h : zs_S adK adV A u H) : zs_S adK adV A U H := ⟨vk_S.moved hvm h.1, va_Z.moved hvm h.2.1, va_Zq.moved hvm h.2.2⟩
end
section
/-! THE CHECKER, 27: a method's contract. -/
/-- calls of nest mates: own class, entry, method, host; texts: own class, entry, text, type -/
def zk_nst : List (String × Nat × MethodName × String) := [("BothLists$Speller", 33, ⟨"BothLists", "letterAt", "(JI)I"⟩, "BothLists"), ("BothLists$Hand", 49, ⟨"BothLists", "numberOf", "(JI)I"⟩, "BothLists"), ("BothLists$Agreement", 95, ⟨"BothLists", "numberOf", "(JI)I"⟩, "BothLists")]
def zk_str : List (String × Nat × String × Nat) := [("BothLists$Reader", 51, "same", 0), ("BothLists$Reader", 61, "drop", 1), ("BothLists$Reader", 66, "double", 2), ("BothLists$Reader", 71, "first", 3), ("BothLists$Reader", 143, "two", 4), ("BothLists$Reader", 145, "one", 5), ("BothLists$Reader", 167, "makes", 6), ("BothLists$Reader", 169, "turns", 7), ("BothLists$Reader", 171, "mixes", 8), ("BothLists$Reader", 173, "sends", 9), ("BothLists$Reader", 175, "counts", 10), ("BothLists$Reader", 177, "pads", 11), ("BothLists$Reader", 179, "meets", 12), ("BothLists$Reader", 181, "sums", 13), ("BothListsModel", 176, "same drop double first one two makes turns mixes sends counts pads meets sums ", 14)]
/-- the texts: where they are; fact 0 says that they are as they were -/
def zk_sk (D : zD) (U : State) : Prop := ∃ (H0 : Heap) (adK adV : Nat → Nat), zs_S adK adV (fun q => D.ba ≤ q) U H0 ∧ (∀ q ∈ zk_str, q.2.2.2 < 15 ∧ vk_R q.1 q.2.1 q.2.2.1 (adK q.2.2.2) U) ∧ (∀ t a, t < 15 → D.RO t a → a = adK t) ∧ ∀ (ty : Nat → Nat) (H : Heap), D.OP 0 ty H [] → (∀ t, t < 15 → ty (adK t) = t + 1) ∧ ∀ U' : State, zs_S adK adV (fun q => D.ba ≤ q) U' H0 → zs_S adK adV (fun q => D.ba ≤ q) U' H
theorem zk_sk.warm {D : zD} {u U : State} (hW : u.WarmedH U.vm) (h : zk_sk D u) : zk_sk D U := by
  obtain ⟨H0, adK, adV, h1, h2, h3⟩ := h
  exact ⟨H0, adK, adV, zs_S.moved hW.alike h1, fun q hq => ⟨(h2 q hq).1, vk_R.warm hW (h2 q hq).2⟩, h3⟩
theorem zk_sk.same {D : zD} {u U : State} (hvm : U.vm = u.vm) (h : zk_sk D u) : zk_sk D U := by
  obtain ⟨H0, adK, adV, h1, h2, h3⟩ := h
  exact ⟨H0, adK, adV, zs_S.moved (by rw [hvm]; exact Vm.Alike.refl u.vm) h1, fun q hq => ⟨(h2 q hq).1, vk_R.same hvm (h2 q hq).2⟩, h3⟩
def zk_aos : List String := ["BothLists$Names", "BothLists$Turning", "BothLists$Bag", "BothLists$Hand", "BothLists$Agreement"]
def zk_kn (D : zD) (cl : List vw_C) (U : State) : Prop := (∀ (ci : Nat) (q : vw_C), cl[ci]? = some q → u_Kn U q.1 q.2.1 q.2.2 (D.dC ci) (D.dI ci)) ∧
  (∀ k : Nat, k ∈ [1, 2, 3, 4, 10, 12, 13, 14, 19] → ∃ (kA : Class) (comp : ClassId), U.vm.classes[D.cA k]? = some kA ∧ kA.kind = .array comp (zk_et cl k) ∧ (10 ≤ k → U.vm.findClass (zk_cn cl (k - 10)) = some comp) ∧ U.vm.findClass ("[" ++ (zk_et cl k).toString) = some (D.cA k)) ∧
  (∀ q ∈ zk_nst, va_Nw (.methodLinkNest q.1 q.2.1 q.2.2.1 q.2.2.2) U) ∧ zk_sk D U ∧ ∀ C ∈ zk_aos, va_AO C U
theorem zk_kn.warm {D : zD} {cl : List vw_C} {u U : State} (hW : u.WarmedH U.vm) (h : zk_kn D cl u) : zk_kn D cl U := by
  have hvm := hW.alike
  refine ⟨fun ci q hq => u_Kn_moved hvm (h.1 ci q hq), fun k hk => ?_, fun q hq => va_Nw.warmM hW (h.2.2.1 q hq), h.2.2.2.1.warm hW, fun C hC => va_AO.moved hvm (h.2.2.2.2 C hC)⟩
  · obtain ⟨kA, comp, h1, h2, h3, h4⟩ := h.2.1 k hk
    obtain ⟨k', hk', he⟩ := hvm.2.2 _ _ h1
    exact ⟨k', comp, hk', by rw [he]; exact h2, fun h10 => by rw [hvm.findClass]; exact h3 h10, by rw [hvm.findClass]; exact h4⟩
theorem zk_kn.same {D : zD} {cl : List vw_C} {u U : State} (hvm : U.vm = u.vm) (h : zk_kn D cl u) : zk_kn D cl U := by
  have ha : u.vm.Alike U.vm := by rw [hvm]; exact Vm.Alike.refl u.vm
  refine ⟨fun ci q hq => u_Kn_moved ha (h.1 ci q hq), fun k hk => ?_, fun q hq => va_Nw.same rfl hvm.symm (h.2.2.1 q hq), h.2.2.2.1.same hvm, fun C hC => va_AO.moved ha (h.2.2.2.2 C hC)⟩
  · rw [hvm]; exact h.2.1 k hk
/-- pure facts of the class table and the types -/
def zk_clok (D : zD) (cl : List vw_C) (ft : Nat → Nat → FieldType) : Prop :=
  (∀ (ci : Nat) (q : vw_C), cl[ci]? = some q → (∀ k, k < q.2.2 → parseFieldDescriptor (q.2.1 k).2.2.1 = some (ft ci k)) ∧ (∀ a, a < q.2.2 → ∀ b, b < q.2.2 → a ≠ b → (q.2.1 a).2.1 ≠ (q.2.1 b).2.1) ∧ ∀ a, a < q.2.2 → (q.2.1 a).1 = q.1) ∧
  (∀ t : Nat, (D.TT t).1 ≠ 0 → (D.TT t).1 ≠ 9 → (D.TT t).1 ∈ [1, 2, 3, 4, 10, 12, 13, 14, 19]) ∧
  ∀ t : Nat, (D.TT t).1 = 0 → ∃ q : vw_C, cl[(D.TT t).2.1]? = some q ∧ (D.TT t).2.2.length = q.2.2
/-- what the words say at a method of a class -/
def zk_wok (cl : List vw_C) (own : String) (FX : Nat → Option (Nat × Nat)) (CX LX : Nat → Option Int) (NX : Nat → Option (Nat × Nat)) (NA : Nat → Option Nat) (s : State) (args : Array Value) : Prop :=
  (∀ (ci : Nat) (q : vw_C), cl[ci]? = some q → ∀ w ∈ u_ws q.1 q.2.1 q.2.2, w.before args s = true) ∧ zk_FX cl FX own s args ∧ (∀ (i : Nat) (k : Int), CX i = some k → (Jvm.Cond.constant own i (Int32.ofInt k)).before args s = true) ∧ (∀ (i : Nat) (k : Int), LX i = some k → (Jvm.Cond.constantLong own i (Int64.ofInt k)).before args s = true) ∧ zk_NX cl NX own s args ∧ (∀ (idx ci : Nat), NA idx = some ci → (Cond.classLink own idx (zk_cn cl ci)).before args s = true ∧ zk_cn cl ci ∈ zk_aos) ∧ ∀ k : ArrayType, zk_ak k ≠ 0 → (Cond.arrayClass (newarray.typeOf k)).before args s = true
theorem zk_env_of {D : zD} {cl : List vw_C} {ft : Nat → Nat → FieldType} {s : State} {args : Array Value} (h1 : zk_kn D cl s) (h2 : zk_clok D cl ft) (h3 : ∀ (ci : Nat) (q : vw_C), cl[ci]? = some q → ∀ w ∈ u_ws q.1 q.2.1 q.2.2, w.before args s = true) : zk_env D cl ft s args :=
  ⟨fun ci q hq => ⟨h1.1 ci q hq, h3 ci q hq, (h2.1 ci q hq).1, (h2.1 ci q hq).2.1, (h2.1 ci q hq).2.2⟩, h1.2.1, h2.2.1, h2.2.2⟩
def zk_Pc (D : zD) (cl : List vw_C) (cs : zQ) (r : Nat → Int) (ty : Nat → Nat) : Array Value → State → Prop := fun a U => a = (cs.2.1.1.map (zk_c r)).toArray ∧ zk_kn D cl U ∧ r 0 = 0 ∧ zk_P r cs.2.1.2.1 ∧ zk_H D r ty U.heap cs.2.1.2.2 ∧ zk_T D ty U.heap
theorem zk_Pc_blind {D : zD} {cl : List vw_C} {cs : zQ} {r : Nat → Int} {ty : Nat → Nat} : FrameBlind (zk_Pc D cl cs r ty) := fun a U g mk h => ⟨h.1, zk_kn.same (u := U) (U := U.calling g mk a) rfl h.2.1, h.2.2⟩
def zk_con (D : zD) (cl : List vw_C) (l : Launch) (y : MethodName) (ws : List Jvm.Cond) (rm : Room) (cs : zQ) : Prop := ∀ (r : Nat → Int) (ty : Nat → Nat), Met l y ws rm (zk_Pc D cl cs r ty) (fun _ st o t => zk_Qc D cs r ty st o t) cs.2.2.2.2.1 cs.2.2.2.2.2 (fun q => D.ba ≤ q)
def zk_la : Nat → List zV → List (Nat × zV)
  | _, [] => []
  | i, v :: l => (i, v) :: zk_la (if v.1 = 1 then i + 2 else i + 1) l
theorem zk_la_ok {r : Nat → Int} : ∀ {l : List zV} {i : Nat}, lv_args i (l.map (zk_c r)) = (zk_la i l).map (fun q => (q.1, zk_c r q.2))
  | [], _ => rfl
  | v :: l, i => by
    show (i, zk_c r v) :: lv_args (if (zk_c r v).category = 2 then i + 2 else i + 1) (l.map (zk_c r)) = (i, zk_c r v) :: (zk_la (if v.1 = 1 then i + 2 else i + 1) l).map _
    rw [zk_la_ok]
    by_cases h : v.1 = 1
    · rw [if_pos h, if_pos (zk_cat2 h)]
    · rw [if_neg h, if_neg (by rw [zk_cat1 h]; decide)]
def zk_ln (l : List zV) : Nat := (l.map (fun v => if v.1 = 1 then 2 else 1)).sum
theorem zk_ln_ok {r : Nat → Int} : ∀ {l : List zV}, (lg_sl (l.map (zk_c r))).length = zk_ln l
  | [] => rfl
  | v :: l => by
    have ih := zk_ln_ok (r := r) (l := l)
    have e : lg_sl (zk_c r v :: l.map (zk_c r)) = (if (zk_c r v).category = 2 then [Slot.val (zk_c r v), Slot.second] else [Slot.val (zk_c r v)]) ++ lg_sl (l.map (zk_c r)) := List.flatMap_cons
    have e2 : zk_ln (v :: l) = (if v.1 = 1 then 2 else 1) + zk_ln l := by unfold zk_ln; rw [List.map_cons, List.sum_cons]
    rw [List.map_cons, e, List.length_append, ih, e2]
    by_cases h : v.1 = 1
    · rw [if_pos h, if_pos (zk_cat2 h)]; rfl
    · rw [if_neg h, if_neg (by rw [zk_cat1 h]; decide)]; rfl
/-- a method's first state -/
def zk_A0 (cs : zQ) (M : Int) : zA := (zk_la 0 cs.2.1.1, [], cs.2.1.2.1, cs.2.1.2.2, (cs.1.1, ([], M), 0, 0))
section
variable {D : zD} {cl : List vw_C} {ft : Nat → Nat → FieldType} {PF : Nat → List (Nat × Nat)} {PB : Nat → List Nat} {SU : zSU} {l : Launch}
/-- a contract, out of the checker's run. hXT: calls, returns, texts -/
theorem zk_con_of {y : MethodName} {ws ws' : List Jvm.Cond} {rm : Room} {cs : zQ} {cc : ByteArray} {maxL fuel : Nat} {rt : Option FieldType} {own : String} {FX : Nat → Option (Nat × Nat)} {CX LX : Nat → Option Int} {NX : Nat → Option (Nat × Nat)} {NA : Nat → Option Nat} {oc : Nat} {ini : Bool} {FT : Nat → Option (Instr × Nat)} {AN : Nat → List zA} {FZ : Nat → List (Nat × Nat)} {LM : Nat → List (Nat × Nat × Int)} {UL : Nat → Nat → zA → List zA} {AT : Nat → Option Nat} {XT : (Nat → zA → Bool) → Nat → zA → Instr → Nat → Bool} {M : Int}
    (hQ : zk_fr D ∨ ((∀ pc, FZ pc = []) ∧ ∀ pc, AT pc = none)) (hy : plainFor y = true) (hw : ws = Cond.code y cc maxL rt :: ws') (hown : y.cls = own) (hcl : zk_clok D cl ft) (hSC : ∀ a n, ¬ D.SC a n) (hO : zk_stb D PF PB SU) (hFT : ∀ (pc : Nat) (q : Instr × Nat), FT pc = some q → decode cc pc = .ok q) (hoc : ini = true → own = zk_cn cl oc) (hini : ini = true → y.name = "<init>") (hlen : zk_ln cs.2.1.1 ≤ maxL)
    (hwok : ∀ (s : State) (args : Array Value), (∀ w ∈ ws, w.before args s = true) → zk_wok cl own FX CX LX NX NA s args)
    (hXT : ∀ (p : Program) (e : Env) (s : State) (m : MethodId) (args : Array Value) (below : List Frame) (meth : Method) (c : Code) (r : Nat → Int) (ty : Nat → Nat) (M : Int), p.tables.exec = Jvm.exec → c.code = cc → c.maxLocals = maxL → s.vm.findClass own = some m.cls → (∀ w ∈ ws, w.before args s = true) → zk_kn D cl s → meth.sig.returnType = rt → meth.locks = false → zk_XT p l e rm s m args below meth c (zk_MQ below D cs r ty args s) cc D (zk_E0 maxL cs r ty s.heap M) XT)
    (hUL : ∀ (r : Nat → Int) (ty : Nat → Nat) (H : Heap) (M : Int), zk_ULok D (zk_E0 maxL cs r ty H M) UL)
    (hAll : ∀ (n : Nat) (Bn : zA), Bn ∈ AN n → zk_exec cl ft D.TT PF PB SU FX CX LX NX NA oc ini maxL cs.1.1 rm.cells rm.slots cs.2.2.2.1.1 cs.2.2.2.1.2 FT AN FZ LM UL AT XT fuel n Bn = true ∧ zk_pos Bn.2.2.1 (Bn.2.2.2.2.2.1.1, Bn.2.2.2.2.2.1.2 + 1) = true)
    (h0 : zk_exec cl ft D.TT PF PB SU FX CX LX NX NA oc ini maxL cs.1.1 rm.cells rm.slots cs.2.2.2.1.1 cs.2.2.2.1.2 FT AN FZ LM UL AT XT fuel 0 (zk_A0 cs M) = true) : zk_con D cl l y ws rm cs := by
  intro r ty
  refine va_MetF (cc := cc) (maxL := maxL) (ret := rt) hy hw ?_
  intro p e s m args below meth c s₁ Bd hml hP
  obtain ⟨rfl, hk, hr0, hPP, hHH, hTT⟩ := hP
  have hx := Bd.exec
  have hb := Bd.bytes
  have hr := Bd.returns
  have hts := atoms_spec (ws := ws) Bd.pre
  have hfc : s.vm.findClass own = some m.cls := by rw [← hown]; exact findClass_of_methodNamed Bd.named
  have hlocks := Bd.notSynchronized
  have hwk := hwok s _ hts
  obtain ⟨k1, k2, k3, k4, k5, k6, k7⟩ := hwk
  have C : zk_ctx p rm s m (cs.2.1.1.map (zk_c r)).toArray meth c cc D cl ft PF PB SU own FX CX LX NX NA oc ini rm.cells rm.slots FT :=
    ⟨hx, hb, hfc, zk_env_of hk hcl k1, k2, k3, k4, k5, fun idx ci h => ⟨(k6 idx ci h).1, va_AO.use (hk.2.2.2.2 _ (k6 idx ci h).2)⟩, hoc, fun hi => by rw [← hini hi]; exact (name_of_methodNamed Bd.named Bd.method).1, k7, ⟨Nat.le_refl _, Nat.le_refl _⟩, hO, hFT⟩
  have hbody := zk_body_ok hQ (l := l) (e := e) (below := below) (Q := zk_MQ below D cs r ty (cs.2.1.1.map (zk_c r)).toArray s) C (E := zk_E0 maxL cs r ty s.heap M) hAll h0 (fun a n h => absurd h (hSC a n)) rfl rfl rfl rfl (fun M' => hXT p e s m _ below meth c r ty M' hx hb hml hfc hts hk hr hlocks) (fun M' => hUL r ty s.heap M')
  rw [lg_entry_eq]
  have hl := lv_entry (cs.2.1.1.map (zk_c r)) (n := maxL) (by rw [zk_ln_ok]; exact hlen)
  refine hbody r ty s.heap [] _ [] ⟨by rw [zk_la_ok] at hl; exact hl, rfl, hPP, hHH, hTT, ⟨Nat.le_refl _, fun _ _ h => h, fun _ _ _ => rfl, fun _ _ _ _ => rfl, fun _ _ _ _ _ => rfl, fun _ _ _ _ _ _ _ c0 c1 e0 e1 => by cases e0.symm.trans e1; rfl⟩, hr0, fun _ _ => rfl, rfl, fun q hq => by (cases hq), fun q hq => Or.inl ⟨q, hq, rfl⟩⟩
end
end
section
/-! THE CHECKER, 28: calls of methods with contracts. -/
section
variable {p : Program} {l : Launch} {e : Env} {R : Room} {s : State} {m : MethodId} {args : Array Value} {below : List Frame} {meth : Method} {c : Code} {Q : State → Prop} {cc : ByteArray} {pc : Nat} {D : zD} {E : zE} {A : zA} {K : Nat → zA → Bool} {cl : List vw_C} {PF : Nat → List (Nat × Nat)} {PB : Nat → List Nat} {own C : String} {Ts ws : List Jvm.Cond} {rm : Room} {cs : zQ} {u : zU} {y : MethodName} {bytes : ByteArray} {maxL idx n0 rc rs : Nat} {ret : Option FieldType} {F : List (Nat × Nat)} {B : List Nat}
/-- what a callee finds at its start -/
theorem zk_Pc_at {r : Nat → Int} {ty : Nat → Nat} {H : Heap} (hk : zk_kn D cl s) (h0 : r 0 = 0) (hP : zk_P r cs.2.1.2.1) (hG : zk_H D r ty H cs.2.1.2.2) (hT : zk_T D ty H) (U : State) (hU : U.heap = H) (hW : s.WarmedH U.vm) : zk_Pc D cl cs r ty (cs.2.1.1.map (zk_c r)).toArray U := ⟨rfl, zk_kn.warm hW hk, h0, hP, by rw [hU]; exact hG, by rw [hU]; exact hT⟩
theorem zk_callS_ok (S : CallFix p m c cc E.1 s args Ts own) (hk : zk_kn D cl s) (hM : zk_con D cl l y ws rm cs) (cw : CallB R s args own idx y bytes maxL ret ws rm cs.2.2.2.2.1 cs.2.2.2.2.2 cs.2.1.1.length ∧ (Cond.static y).before args s = true) (hd : decode cc pc = .ok (.invokestatic idx, 3)) (hO : zk_stable D PF PB) (hF : F = E.2.2.1.1) (hB : B = E.2.2.1.2) (hn0 : n0 = E.2.1.1) (hR : rc ≤ R.cells ∧ rs ≤ R.slots) (hK : ∀ (n : Nat) (A : zA), K n A = true → zk_W p l e R s m args below meth c Q D E n A) (h : zk_call PF F PB B n0 rc rs cs u K pc A = true) : zk_W p l e R s m args below meth c Q D E pc A := by
  refine zk_call_ok hO hF hB hn0 hK h (fun r ty H locs ls I hP hG h0 hst hsum hroom => ?_)
  exact va_runS (As := cs.2.1.1.map (zk_c (zk_cp r u))) (rest := (A.2.1.drop cs.2.1.1.length).map (zk_c r)) S (hM (zk_cp r u) ty) cw ⟨zk_Pc_blind, fun U hU hW => zk_Pc_at hk h0 hP hG I.2.2.2.2.1 U hU hW⟩ rfl (by rw [List.length_map]) I.1.1 hst.symm (lv_room hsum) hd ⟨Nat.le_trans hroom.1 hR.1, Nat.le_trans hroom.2 hR.2⟩
/-- the receiver: a typed cell of its class, or one that is being made -/
def zk_rcv (TT : Nat → zS) (ci : Nat) (u : zU) (cs : zQ) (A : zA) : Bool := match cs.2.1.1 with
  | v :: _ => decide ((zk_va u v).1 = 2 ∧ (zk_va u v).2.2 = 0) && (match zk_rtl A.2.2.2.1.1 (zk_va u v).2.1 with
    | some t => decide ((TT t).1 = 0 ∧ (TT t).2.1 = ci)
    | none => (match zk_rwl A.2.2.2.1.2.2.2.1 (zk_va u v).2.1 with | some q => decide (q.1 = ci ∧ q.1 < 1000) | none => false))
  | [] => false
theorem zk_rcv_ok {r : Nat → Int} {ty : Nat → Nat} {H : Heap} {locs : List Loc} {ls : Array Slot} {st : List Value} {ci : Nat} {q : vw_C} (hk : zk_kn D cl s) (hq : cl[ci]? = some q) (I : zk_I D E A r ty H locs ls st) (h : zk_rcv D.TT ci u cs A = true) : ∃ (b : Nat) (As : List zV), cs.2.1.1.map (zk_c (zk_cp r u)) = .ref b :: As.map (zk_c (zk_cp r u)) ∧ cs.2.1.1.length = As.length + 1 ∧ ∃ cell : Cell, H[b]? = some cell ∧ cell.vm.isStatics = false ∧ s.vm.findClass q.1 = some cell.cls := by
  unfold zk_rcv at h
  split at h
  · rename_i v As hv
    simp only [Bool.and_eq_true, decide_eq_true_eq] at h
    obtain ⟨h1, h⟩ := h
    obtain ⟨g1, g2, g3, g4, g5⟩ := I.2.2.2.1
    have hfc := (hk.1 ci q hq).2.1
    refine ⟨(r (zk_va u v).2.1).toNat, As, ?_, by rw [hv]; rfl, ?_⟩
    · rw [hv, List.map_cons, ← zk_c_va, zk_ref h1]
    · split at h
      · rename_i t ht
        simp only [decide_eq_true_eq] at h
        have hT := I.2.2.2.2.1.2 _ _ (g1 _ (zk_rtl_mem ht)).2
        rw [if_neg (by rw [h.1]; decide)] at hT
        have hC := hT.2
        unfold zk_C at hC
        rw [if_pos h.1] at hC
        obtain ⟨cell, d1, d2, d3, -⟩ := hC
        exact ⟨cell, d1, by rw [d3]; rfl, by rw [d2, h.2]; exact hfc⟩
      · split at h
        · rename_i w hw
          simp only [decide_eq_true_eq] at h
          obtain ⟨-, -, -, cell, c1, c2, c3⟩ := g4 _ (zk_rwl_mem hw)
          rw [if_pos h.2] at c3
          exact ⟨cell, c1, by rw [c2]; rfl, by rw [c3.1]; dsimp only; rw [h.1]; exact hfc⟩
        · cases h
  · cases h
theorem zk_callV_ok {ci : Nat} {q : vw_C} (hq : cl[ci]? = some q) (S : CallFix p m c cc E.1 s args Ts own) (hk : zk_kn D cl s) (hM : zk_con D cl l y ws rm cs) (cw : CallW R s args own q.1 idx y bytes maxL ret ws rm cs.2.2.2.2.1 cs.2.2.2.2.2 (cs.2.1.1.length - 1)) (hd : decode cc pc = .ok (.invokevirtual idx, 3)) (hO : zk_stable D PF PB) (hF : F = E.2.2.1.1) (hB : B = E.2.2.1.2) (hn0 : n0 = E.2.1.1) (hR : rc ≤ R.cells ∧ rs ≤ R.slots) (hK : ∀ (n : Nat) (A : zA), K n A = true → zk_W p l e R s m args below meth c Q D E n A) (hrc : zk_rcv D.TT ci u cs A = true) (h : zk_call PF F PB B n0 rc rs cs u K pc A = true) : zk_W p l e R s m args below meth c Q D E pc A := by
  refine zk_call_ok hO hF hB hn0 hK h (fun r ty H locs ls I hP hG h0 hst hsum hroom => ?_)
  obtain ⟨b, As, e1, e2, hcell⟩ := zk_rcv_ok hk hq I hrc
  have hpc := fun U hU hW => zk_Pc_at (cs := cs) hk h0 hP hG I.2.2.2.2.1 U hU hW
  have hM' := hM (zk_cp r u) ty
  have e3 : (cs.2.1.1.map (zk_c (zk_cp r u))).toArray = (Value.ref b :: As.map (zk_c (zk_cp r u))).toArray := by rw [e1]
  rw [e3] at hpc
  rw [e1, List.reverse_cons, List.append_assoc] at hst
  exact va_runV (As := As.map (zk_c (zk_cp r u))) (rest := (A.2.1.drop cs.2.1.1.length).map (zk_c r)) S hM' cw ⟨zk_Pc_blind, hcell, hpc⟩ rfl (by rw [List.length_map]; omega) I.1.1 hst.symm (lv_room hsum) hd ⟨Nat.le_trans hroom.1 hR.1, Nat.le_trans hroom.2 hR.2⟩
theorem zk_callI_ok {ci : Nat} {q : vw_C} (hq : cl[ci]? = some q) (S : CallFix p m c cc E.1 s args Ts own) (hk : zk_kn D cl s) (hM : zk_con D cl l y ws rm cs) (cw : CallB R s args own idx y bytes maxL none ws rm cs.2.2.2.2.1 cs.2.2.2.2.2 (cs.2.1.1.length - 1) ∧ y.name = "<init>" ∧ (Cond.instanceMethod y).before args s = true) (hd : decode cc pc = .ok (.invokespecial idx, 3)) (hO : zk_stable D PF PB) (hF : F = E.2.2.1.1) (hB : B = E.2.2.1.2) (hn0 : n0 = E.2.1.1) (hR : rc ≤ R.cells ∧ rs ≤ R.slots) (hK : ∀ (n : Nat) (A : zA), K n A = true → zk_W p l e R s m args below meth c Q D E n A) (hrc : zk_rcv D.TT ci u cs A = true) (h : zk_call PF F PB B n0 rc rs cs u K pc A = true) : zk_W p l e R s m args below meth c Q D E pc A := by
  refine zk_call_ok hO hF hB hn0 hK h (fun r ty H locs ls I hP hG h0 hst hsum hroom => ?_)
  obtain ⟨b, As, e1, e2, hcell⟩ := zk_rcv_ok hk hq I hrc
  have hpc := fun U hU hW => zk_Pc_at (cs := cs) hk h0 hP hG I.2.2.2.2.1 U hU hW
  have hM' := hM (zk_cp r u) ty
  have e3 : (cs.2.1.1.map (zk_c (zk_cp r u))).toArray = (Value.ref b :: As.map (zk_c (zk_cp r u))).toArray := by rw [e1]
  rw [e3] at hpc
  rw [e1, List.reverse_cons, List.append_assoc] at hst
  exact va_runI (As := As.map (zk_c (zk_cp r u))) (rest := (A.2.1.drop cs.2.1.1.length).map (zk_c r)) S hM' cw ⟨zk_Pc_blind, hpc⟩ rfl (by rw [List.length_map]; omega) I.1.1 hst.symm (lv_room hsum) hd ⟨Nat.le_trans hroom.1 hR.1, Nat.le_trans hroom.2 hR.2⟩
end
end
section
/-! THE CHECKER, 29: a static method of a nest mate's. -/
section
variable {p : Program} {l : Launch} {e : Env} {R : Room} {s : State} {m : MethodId} {args : Array Value} {below : List Frame} {meth : Method} {c : Code} {Q : State → Prop} {cc : ByteArray} {pc : Nat} {D : zD} {E : zE} {A : zA} {K : Nat → zA → Bool} {cl : List vw_C} {PF : Nat → List (Nat × Nat)} {PB : Nat → List Nat} {own host : String} {Ts ws : List Jvm.Cond} {rm : Room} {cs : zQ} {u : zU} {y : MethodName} {bytes : ByteArray} {maxL idx n0 rc rs : Nat} {ret : Option FieldType} {F : List (Nat × Nat)} {B : List Nat}
theorem zk_callSN_ok (S : CallFix p m c cc E.1 s args Ts own) (hk : zk_kn D cl s) (hM : zk_con D cl l y ws rm cs) (cw : va_CN R s args own idx y host bytes maxL ret ws rm cs.2.2.2.2.1 cs.2.2.2.2.2 cs.2.1.1.length ∧ (Cond.static y).before args s = true ∧ True) (hd : decode cc pc = .ok (.invokestatic idx, 3)) (hO : zk_stable D PF PB) (hF : F = E.2.2.1.1) (hB : B = E.2.2.1.2) (hn0 : n0 = E.2.1.1) (hR : rc ≤ R.cells ∧ rs ≤ R.slots) (hK : ∀ (n : Nat) (A : zA), K n A = true → zk_W p l e R s m args below meth c Q D E n A) (h : zk_call PF F PB B n0 rc rs cs u K pc A = true) : zk_W p l e R s m args below meth c Q D E pc A := by
  refine zk_call_ok hO hF hB hn0 hK h (fun r ty H locs ls I hP hG h0 hst hsum hroom => ?_)
  exact va_runSN (As := cs.2.1.1.map (zk_c (zk_cp r u))) (rest := (A.2.1.drop cs.2.1.1.length).map (zk_c r)) S (hM (zk_cp r u) ty) cw ⟨zk_Pc_blind, fun U hU hW => zk_Pc_at hk h0 hP hG I.2.2.2.2.1 U hU hW⟩ rfl (by rw [List.length_map]) I.1.1 hst.symm (lv_room hsum) hd ⟨Nat.le_trans hroom.1 hR.1, Nat.le_trans hroom.2 hR.2⟩
end
end
section
/-! THE CHECKER, 30: one list of words for all methods; calls by hints. -/
def zw : List Cond := lw_tbl.filter goodWord
theorem zw_in {i : Nat} {w : Cond} (h : lw_tbl[i]? = some w) (hg : goodWord w = true) : w ∈ zw := List.mem_filter.mpr ⟨List.mem_of_getElem? h, hg⟩
/-- method: name, bytes, locals, type of answer, room, contract -/
abbrev zM : Type := MethodName × ByteArray × Nat × Option FieldType × Room × zQ
abbrev zM.y (M : zM) := M.1
abbrev zM.b (M : zM) := M.2.1
abbrev zM.n (M : zM) := M.2.2.1
abbrev zM.rt (M : zM) := M.2.2.2.1
abbrev zM.rm (M : zM) := M.2.2.2.2.1
abbrev zM.cs (M : zM) := M.2.2.2.2.2
def zk_ws (M : zM) : List Cond := Cond.code M.y M.b M.n M.rt :: zw
theorem zk_good (M M' : zM) (h : Cond.code M'.y M'.b M'.n M'.rt ∈ zw) : GoodIn (zk_ws M) (zk_ws M') := by
  intro w hw
  have h1 : w ∈ zw := by
    rcases List.mem_cons.mp hw with e | e
    · rw [e]; exact h
    · exact e
  exact ⟨List.mem_cons_of_mem _ h1, good_of_word (List.mem_filter.mp h1).2⟩
/-- a hint: entry, kind (0 static, 1 a nest mate's static, 2 virtual, 3 constructor), class of the receiver, callee -/
abbrev zX : Type := Nat × Nat × Nat × zM
def zk_cu (cs : zQ) (A : zA) : zU := zk_mtG 1 A.2.2.2.1 cs.2.1.2.2 (zk_mtV 1 cs.2.1.1 (A.2.1.take cs.2.1.1.length).reverse [])
def zk_XTc (TT : Nat → zS) (PF : Nat → List (Nat × Nat)) (F : List (Nat × Nat)) (PB : Nat → List Nat) (B : List Nat) (rt : Option FieldType) (rm : Room) (cs0 : zQ) (OI : Option Nat) (HX : List zX) (K : Nat → zA → Bool) (pc : Nat) (A : zA) (i : Instr) (len : Nat) : Bool := match i, len with
  | .invokestatic x, 3 => HX.any (fun h => Nat.beq h.1 x && (Nat.ble h.2.1 1 && zk_call PF F PB B cs0.1.1 rm.cells rm.slots h.2.2.2.cs (zk_cu h.2.2.2.cs A) K pc A))
  | .invokevirtual x, 3 => HX.any (fun h => Nat.beq h.1 x && (Nat.beq h.2.1 2 && (zk_rcv TT h.2.2.1 (zk_cu h.2.2.2.cs A) h.2.2.2.cs A && zk_call PF F PB B cs0.1.1 rm.cells rm.slots h.2.2.2.cs (zk_cu h.2.2.2.cs A) K pc A)))
  | .invokespecial x, 3 => (decide (OI = some x ∧ 1 ≤ rm.frames ∧ 24 ≤ rm.locals) && (match A.2.1 with | v :: S => decide (v.1 = 2 ∧ (S.map (fun v => if v.1 = 1 then 2 else 1)).sum ≤ 8) && K (pc + 3) (zk_ss S A) | _ => false)) ||
      HX.any (fun h => Nat.beq h.1 x && (Nat.beq h.2.1 3 && (zk_rcv TT h.2.2.1 (zk_cu h.2.2.2.cs A) h.2.2.2.cs A && zk_call PF F PB B cs0.1.1 rm.cells rm.slots h.2.2.2.cs (zk_cu h.2.2.2.cs A) K pc A)))
  | i, len => zk_retok rt A i && zk_retX cs0.1.1 cs0 A i len
/-- what a hint rests on, apart from its contract -/
def zk_hw (cl : List vw_C) (own : String) (R : Room) (h : zX) : Prop :=
  Cond.code h.2.2.2.y h.2.2.2.b h.2.2.2.n h.2.2.2.rt ∈ zw ∧ Cond.initialized h.2.2.2.y.cls ∈ zw ∧ (h.2.2.2.rm.cells = h.2.2.2.cs.2.2.2.2.1 ∧ h.2.2.2.rm.slots = h.2.2.2.cs.2.2.2.2.2 ∧ h.2.2.2.rm.frames + 1 ≤ R.frames ∧ 8 + (h.2.2.2.n + 11) + h.2.2.2.rm.locals ≤ R.locals) ∧
  (h.2.2.2.y.cls ≠ "java/lang/invoke/MethodHandle" ∧ h.2.2.2.y.cls ≠ "java/lang/invoke/VarHandle") ∧ (parseMethodDescriptor h.2.2.2.y.desc).map (fun d => d.parameters.length) = some (if h.2.1 ≤ 1 then h.2.2.2.cs.2.1.1.length else h.2.2.2.cs.2.1.1.length - 1) ∧
  (if h.2.1 = 0 then Cond.methodLink own h.1 h.2.2.2.y ∈ zw ∧ Cond.static h.2.2.2.y ∈ zw
   else if h.2.1 = 1 then (∃ host, (own, h.1, h.2.2.2.y, host) ∈ zk_nst) ∧ Cond.static h.2.2.2.y ∈ zw
   else if h.2.1 = 2 then Cond.methodLink own h.1 h.2.2.2.y ∈ zw ∧ Cond.instanceMethod h.2.2.2.y ∈ zw ∧ ∃ q, cl[h.2.2.1]? = some q ∧ Cond.selects q.1 h.2.2.2.y h.2.2.2.y ∈ zw
   else Cond.methodLink own h.1 h.2.2.2.y ∈ zw ∧ Cond.instanceMethod h.2.2.2.y ∈ zw ∧ h.2.2.2.y.name = "<init>" ∧ h.2.2.2.rt = none ∧ ∃ q, cl[h.2.2.1]? = some q)
section
variable {p : Program} {l : Launch} {e : Env} {s : State} {m : MethodId} {args : Array Value} {below : List Frame} {meth : Method} {c : Code} {D : zD} {cl : List vw_C} {PF : Nat → List (Nat × Nat)} {PB : Nat → List Nat} {own : String}
theorem zk_XTc_ok {M0 : zM} {OI : Option Nat} {HX : List zX} {r0 : Nat → Int} {ty0 : Nat → Nat} {M : Int} (hx : p.tables.exec = Jvm.exec) (hb : c.code = M0.b) (hml : c.maxLocals = M0.n) (hown : s.vm.findClass own = some m.cls) (hts : ∀ w ∈ zk_ws M0, w.before args s = true) (hk : zk_kn D cl s) (hr : meth.sig.returnType = M0.rt) (hlocks : meth.locks = false) (hO : zk_stable D PF PB)
    (hOI : ∀ x, OI = some x → Cond.methodLink own x Lib.objectInit ∈ zw ∧ Cond.instanceMethod Lib.objectInit ∈ zw ∧ Cond.code Lib.objectInit ⟨#[0xb1]⟩ 1 none ∈ zw)
    (hC : ∀ h ∈ HX, zk_con D cl l h.2.2.2.y (zk_ws h.2.2.2) h.2.2.2.rm h.2.2.2.cs ∧ zk_hw cl own M0.rm h) :
    zk_XT p l e M0.rm s m args below meth c (zk_MQ below D M0.cs r0 ty0 args s) M0.b D (zk_E0 M0.n M0.cs r0 ty0 s.heap M) (zk_XTc D.TT PF M0.cs.2.2.2.1.1 PB M0.cs.2.2.2.1.2 M0.rt M0.rm M0.cs OI HX) := by
  intro K hK pc A i len hd h
  have S : CallFix p m c M0.b (zk_E0 M0.n M0.cs r0 ty0 s.heap M).1 s args (zk_ws M0) own := ⟨hx, hb, hml, hown, hts⟩
  have hw : ∀ w ∈ zw, w.before args s = true := fun w h => hts w (List.mem_cons_of_mem _ h)
  unfold zk_XTc at h
  split at h
  · rename_i x
    obtain ⟨hh, hm, h⟩ := List.any_eq_true.mp h
    simp only [Bool.and_eq_true] at h
    obtain ⟨h1, h2, h3⟩ := h
    have e1 := Nat.eq_of_beq_eq_true h1
    have e2 := Nat.le_of_ble_eq_true h2
    obtain ⟨hc, w1, w2, w3, w4, w5, w6⟩ := hC hh hm
    rw [if_pos e2] at w5
    subst e1
    by_cases e3 : hh.2.1 = 0
    · rw [if_pos e3] at w6
      exact zk_callS_ok (bytes := hh.2.2.2.b) (maxL := hh.2.2.2.n) (ret := hh.2.2.2.rt) S hk hc ⟨callB_of _ hts (zk_good M0 hh.2.2.2 w1) rfl w3.1 w3.2.1 (hw _ w2) (hw _ w6.1) ⟨w4.1, w4.2, w5⟩ ⟨w3.2.2.1, w3.2.2.2⟩, hw _ w6.2⟩ hd hO rfl rfl rfl ⟨Nat.le_refl _, Nat.le_refl _⟩ hK h3
    · rw [if_neg e3, if_pos (by omega)] at w6
      obtain ⟨⟨host, w7⟩, w8⟩ := w6
      exact zk_callSN_ok (bytes := hh.2.2.2.b) (maxL := hh.2.2.2.n) (ret := hh.2.2.2.rt) (host := host) S hk hc ⟨va_cnB _ hts (zk_good M0 hh.2.2.2 w1) rfl w3.1 w3.2.1 (hk.2.2.1 _ w7) (hw _ w2) ⟨w4.1, w4.2, w5⟩ ⟨w3.2.2.1, w3.2.2.2⟩, hw _ w8, trivial⟩ hd hO rfl rfl rfl ⟨Nat.le_refl _, Nat.le_refl _⟩ hK h3
  · rename_i x
    obtain ⟨hh, hm, h⟩ := List.any_eq_true.mp h
    simp only [Bool.and_eq_true] at h
    obtain ⟨h1, h2, h2', h3⟩ := h
    have e1 := Nat.eq_of_beq_eq_true h1
    have e2 := Nat.eq_of_beq_eq_true h2
    obtain ⟨hc, w1, w2, w3, w4, w5, w6⟩ := hC hh hm
    rw [if_neg (by omega)] at w5
    rw [if_neg (by omega), if_neg (by omega), if_pos e2] at w6
    obtain ⟨w7, w8, q, w9, w10⟩ := w6
    subst e1
    exact zk_callV_ok (bytes := hh.2.2.2.b) (maxL := hh.2.2.2.n) (ret := hh.2.2.2.rt) w9 S hk hc ⟨callB_of _ hts (zk_good M0 hh.2.2.2 w1) rfl w3.1 w3.2.1 (hw _ w2) (hw _ w7) ⟨w4.1, w4.2, w5⟩ ⟨w3.2.2.1, w3.2.2.2⟩, hw _ w8, hw _ w10⟩ hd hO rfl rfl rfl ⟨Nat.le_refl _, Nat.le_refl _⟩ hK h2' h3
  · rename_i x
    rcases Bool.or_eq_true _ _ ▸ h with h | h
    · simp only [Bool.and_eq_true, decide_eq_true_eq] at h
      obtain ⟨⟨h1, h2, h3⟩, h⟩ := h
      split at h
      · rename_i v T hS
        simp only [Bool.and_eq_true, decide_eq_true_eq] at h
        obtain ⟨⟨hv, hsum⟩, h⟩ := h
        obtain ⟨o1, o2, o3⟩ := hOI x h1
        intro r ty H locs ls st I
        have hst := I.2.1
        rw [hS, List.map_cons] at hst
        have hvr : zk_c r v = .ref (zk_n r v).toNat := by unfold zk_c; rw [hv]; rfl
        rw [hvr] at hst
        refine W.objInit hx hb hown (hw _ o1) (hw _ o2) (hw _ o3) rfl (by rw [hml]; exact I.1.1) hst hd h2 ?_ ?_
        · have hq : ((T.map (zk_c r)).map fun v => v.category).sum = (T.map (fun v => if v.1 = 1 then 2 else 1)).sum := by
            rw [List.map_map]
            congr 1
            apply List.map_congr_left
            intro v _
            simp only [Function.comp]
            by_cases h : v.1 = 1
            · rw [if_pos h, zk_cat2 h]
            · rw [if_neg h, zk_cat1 h]
          rw [hq]
          show 2 * 0 + _ + 12 ≤ _
          omega
        · exact hK _ _ h r ty H locs ls _ (zk_I_ss I)
      · cases h
    · obtain ⟨hh, hm, h⟩ := List.any_eq_true.mp h
      simp only [Bool.and_eq_true] at h
      obtain ⟨h1, h2, h2', h3⟩ := h
      have e1 := Nat.eq_of_beq_eq_true h1
      have e2 := Nat.eq_of_beq_eq_true h2
      obtain ⟨hc, w1, w2, w3, w4, w5, w6⟩ := hC hh hm
      rw [if_neg (by omega)] at w5
      rw [if_neg (by omega), if_neg (by omega), if_neg (by omega)] at w6
      obtain ⟨w7, w8, w9, w10, q, w11⟩ := w6
      subst e1
      have cb := callB_of _ hts (zk_good M0 hh.2.2.2 w1) rfl w3.1 w3.2.1 (hw _ w2) (hw _ w7) ⟨w4.1, w4.2, w5⟩ ⟨w3.2.2.1, w3.2.2.2⟩
      rw [w10] at cb
      exact zk_callI_ok (bytes := hh.2.2.2.b) (maxL := hh.2.2.2.n) w11 S hk hc ⟨cb, w9, hw _ w8⟩ hd hO rfl rfl rfl ⟨Nat.le_refl _, Nat.le_refl _⟩ hK h2' h3
  · simp only [Bool.and_eq_true] at h
    exact zk_retX_ok hx hb hr hlocks hd h.2 h.1
end
end
section
/-! THE CHECKER, 31: a method as data. -/
def zk_al {α : Type} : List (Nat × α) → Nat → Option α
  | [], _ => none
  | q :: l, x => if Nat.beq q.1 x then some q.2 else zk_al l x
theorem zk_al_mem {α : Type} : ∀ {l : List (Nat × α)} {x : Nat} {v : α}, zk_al l x = some v → (x, v) ∈ l
  | [], _, _, h => by simp [zk_al] at h
  | q :: l, x, v, h => by
    unfold zk_al at h
    split at h
    · rename_i h1
      cases h
      rw [← Nat.eq_of_beq_eq_true h1]
      exact List.mem_cons_self
    · exact List.mem_cons_of_mem _ (zk_al_mem h)
/-- a table in blocks: (bound, block) -/
def zk_bl {α : Type} : List (Nat × List (Nat × α)) → Nat → Option α
  | [], _ => none
  | q :: l, x => if Nat.blt x q.1 then zk_al q.2 x else zk_bl l x
theorem zk_bl_mem {α : Type} : ∀ {l : List (Nat × List (Nat × α))} {x : Nat} {v : α}, zk_bl l x = some v → ∃ q ∈ l, (x, v) ∈ q.2
  | [], _, _, h => by simp [zk_bl] at h
  | q :: l, x, v, h => by
    unfold zk_bl at h
    split at h
    · exact ⟨q, List.mem_cons_self, zk_al_mem h⟩
    · obtain ⟨q', h1, h2⟩ := zk_bl_mem h
      exact ⟨q', List.mem_cons_of_mem _ h1, h2⟩
def zk_ans (ANl : List (Nat × List zA)) (n : Nat) : List zA := match zk_al ANl n with | none => [] | some l => l
def zk_fzs {α : Type} (l : List (Nat × List α)) (n : Nat) : List α := match zk_al l n with | none => [] | some l => l
def zk_de (b : ByteArray) (pc : Nat) (q : Instr × Nat) : Bool := decide (decode b pc = .ok q)
theorem zk_de_ok {b : ByteArray} {pc : Nat} {q : Instr × Nat} (h : zk_de b pc q = true) : decode b pc = .ok q := by
  unfold zk_de at h
  exact of_decide_eq_true h
def zk_ftb (b : ByteArray) (FTl : List (Nat × List (Nat × Instr × Nat))) : Bool := FTl.all (fun q => q.2.all (fun z => zk_de b z.1 z.2))
def zk_deq (b : ByteArray) (pc : Nat) (q : Instr × Nat) : Prop := decode b pc = .ok q
theorem zk_deq_of {b : ByteArray} {pc : Nat} {q : Instr × Nat} (h : zk_de b pc q = true) : zk_deq b pc q := zk_de_ok h
set_option maxHeartbeats 100000 in
theorem zk_ftb_ok0 {b : ByteArray} {FTl : List (Nat × List (Nat × Instr × Nat))} (h : zk_ftb b FTl = true) (pc : Nat) (q : Instr × Nat) (hq : zk_bl FTl pc = some q) : zk_de b pc q = true := by
  obtain ⟨z, z1, z2⟩ := zk_bl_mem hq
  have h1 : z.2.all (fun z => zk_de b z.1 z.2) = true := List.all_eq_true.mp h z z1
  have h2 : zk_de b pc q = true := List.all_eq_true.mp h1 (pc, q) z2
  exact h2
set_option maxHeartbeats 100000 in
theorem zk_ftb_ok {b : ByteArray} {FTl : List (Nat × List (Nat × Instr × Nat))} (h : zk_ftb b FTl = true) (pc : Nat) (q : Instr × Nat) (hq : zk_bl FTl pc = some q) : decode b pc = .ok q := zk_deq_of (zk_ftb_ok0 h pc q hq)
/-- the operation of a recorded fact about ints -/
def zk_ro (o : Nat) : Nat := if o = 25 then 1 else if o = 26 then 0 else if o = 27 then 2 else 4
/-- recorded arithmetic, and absolute values: pure facts -/
def zk_rc (D : zD) : Prop := (∀ o, o ∈ [21, 22, 23, 24] → ∀ (ty : Nat → Nat) (H : Heap) (a b c : Int), D.OP o ty H [a, b, c] ↔ zk_f o (.long (Int64.ofInt a)) (.long (Int64.ofInt b)) = some (.long (Int64.ofInt c))) ∧ (∀ (ty : Nat → Nat) (H : Heap) (y a : Int), (D.OP 60 ty H [y, a] ↔ a = (y.natAbs : Int))) ∧ ∀ o, o ∈ [25, 26, 27, 28] → ∀ (ty : Nat → Nat) (H : Heap) (a b c : Int), D.OP o ty H [a, b, c] ↔ zk_f (zk_ro o) (.int (Int32.ofInt a)) (.int (Int32.ofInt b)) = some (.int (Int32.ofInt c))
def zk_wd (D : zD) (cl : List vw_C) (ft : Nat → Nat → FieldType) (TT : Nat → zS) (PF : Nat → List (Nat × Nat)) (PB : Nat → List Nat) (SU : zSU) (UL : Nat → Nat → zA → List zA) : Prop := D.TT = TT ∧ (∀ a n, ¬ D.SC a n) ∧ zk_stb D PF PB SU ∧ (∀ E : zE, zk_ULok D E UL) ∧ zk_rc D ∧ zk_clok D cl ft
/-- a class's pool: fields, ints, longs, classes made, classes of arrays made, Object's constructor -/
abbrev zL : Type := List (Nat × Nat × Nat) × List (Nat × Int) × List (Nat × Int) × List (Nat × Nat × Nat) × List (Nat × Nat) × Option Nat
def zk_pool (cl : List vw_C) (own : String) (L : zL) : Prop :=
  (∀ (s : State) (args : Array Value), (∀ w ∈ zw, w.before args s = true) → zk_wok cl own (zk_al L.1) (zk_al L.2.1) (zk_al L.2.2.1) (zk_al L.2.2.2.1) (zk_al L.2.2.2.2.1) s args) ∧
  ∀ x, L.2.2.2.2.2 = some x → Cond.methodLink own x Lib.objectInit ∈ zw ∧ Cond.instanceMethod Lib.objectInit ∈ zw ∧ Cond.code Lib.objectInit ⟨#[0xb1]⟩ 1 none ∈ zw
end
section
/-! THE CHECKER, 32: words by their places. -/
def zk_wb (w : Cond) (p : Nat) : Bool := (match lw_tbl[p]? with | some v => decide (v = w) | none => false) && goodWord w
theorem zk_wb_ok {w : Cond} {p : Nat} (h : zk_wb w p = true) : w ∈ zw := by
  simp only [zk_wb, Bool.and_eq_true] at h
  obtain ⟨h1, h2⟩ := h
  split at h1
  · rename_i v hv
    rw [of_decide_eq_true h1] at hv
    exact zw_in hv h2
  · cases h1
def zk_wsb : List Cond → List Nat → Bool
  | [], _ => true
  | w :: l, p :: ps => zk_wb w p && zk_wsb l ps
  | _ :: _, [] => false
theorem zk_wsb_ok : ∀ {l : List Cond} {ps : List Nat}, zk_wsb l ps = true → ∀ w ∈ l, w ∈ zw
  | [], _, _, w, h => by cases h
  | v :: l, [], h, w, hw => by cases h
  | v :: l, p :: ps, h, w, hw => by
    simp only [zk_wsb, Bool.and_eq_true] at h
    rcases List.mem_cons.mp hw with e | e
    · rw [e]; exact zk_wb_ok h.1
    · exact zk_wsb_ok h.2 w e
/-- two lists side by side -/
def zk_z {α β : Type} (f : α → β → Bool) : List α → List β → Bool
  | [], _ => true
  | a :: l, b :: m => f a b && zk_z f l m
  | _ :: _, [] => false
theorem zk_z_ok {α β : Type} {f : α → β → Bool} : ∀ {l : List α} {m : List β}, zk_z f l m = true → ∀ a ∈ l, ∃ b, f a b = true
  | [], _, _, a, h => by cases h
  | v :: l, [], h, a, ha => by cases h
  | v :: l, p :: ps, h, a, ha => by
    simp only [zk_z, Bool.and_eq_true] at h
    rcases List.mem_cons.mp ha with e | e
    · exact ⟨p, by rw [e]; exact h.1⟩
    · exact zk_z_ok h.2 a e
abbrev zLP : Type := List Nat × List Nat × List Nat × List (Nat × Nat × Nat) × List (Nat × Nat) × Nat
def zk_fb (cl : List vw_C) (own : String) (q : Nat × Nat × Nat) (p : Nat) : Bool := match cl[q.2.1]? with
  | some w => Nat.blt q.2.2 w.2.2 && zk_wb (Cond.fieldLink own q.1 (w.2.1 q.2.2).1 (w.2.1 q.2.2).2.1 (w.2.1 q.2.2).2.2.1) p
  | none => false
def zk_nb (cl : List vw_C) (own : String) (q : Nat × Nat × Nat) (p : Nat × Nat × Nat) : Bool := match cl[q.2.1]? with
  | some w => zk_wb (Cond.classLink own q.1 w.1) p.1 && (zk_wb (Cond.instantiable w.1 q.2.2) p.2.1 && zk_wb (Cond.initialized w.1) p.2.2)
  | none => false
def zk_poolb (cl : List vw_C) (own : String) (L : zL) (P : zLP) (oi : Nat × Nat) : Bool :=
  zk_z (zk_fb cl own) L.1 P.1 && (zk_z (fun q p => zk_wb (Cond.constant own q.1 (Int32.ofInt q.2)) p) L.2.1 P.2.1 && (zk_z (fun q p => zk_wb (Cond.constantLong own q.1 (Int64.ofInt q.2)) p) L.2.2.1 P.2.2.1 && (zk_z (zk_nb cl own) L.2.2.2.1 P.2.2.2.1 && (zk_z (fun q (p : Nat × Nat) => zk_wb (Cond.classLink own q.1 (zk_cn cl q.2)) p.1 && decide (zk_cn cl q.2 ∈ zk_aos)) L.2.2.2.2.1 P.2.2.2.2.1 &&
  (match L.2.2.2.2.2 with | none => true | some x => zk_wb (Cond.methodLink own x Lib.objectInit) P.2.2.2.2.2 && (zk_wb (Cond.instanceMethod Lib.objectInit) oi.1 && zk_wb (Cond.code Lib.objectInit ⟨#[0xb1]⟩ 1 none) oi.2))))))
theorem zk_poolb_ok {cl : List vw_C} {own : String} {L : zL} {P : zLP} {oi : Nat × Nat} (hlay : ∀ (ci : Nat) (q : vw_C), cl[ci]? = some q → ∀ w ∈ u_ws q.1 q.2.1 q.2.2, w ∈ zw) (hac : ∀ k : ArrayType, zk_ak k ≠ 0 → Cond.arrayClass (newarray.typeOf k) ∈ zw) (h : zk_poolb cl own L P oi = true) : zk_pool cl own L := by
  simp only [zk_poolb, Bool.and_eq_true] at h
  obtain ⟨h1, h2, h3, h4, h5, h6⟩ := h
  refine ⟨fun s args hw => ⟨fun ci q hq w h => hw w (hlay ci q hq w h), fun idx f hf => ?_, fun i k hk => ?_, fun i k hk => ?_, fun idx q hq => ?_, fun idx ci hq => ?_, fun k hk => hw _ (hac k hk)⟩, fun x hx => ?_⟩
  · obtain ⟨p, hp⟩ := zk_z_ok h1 _ (zk_al_mem hf)
    unfold zk_fb at hp
    split at hp
    · rename_i w hw'
      simp only [Bool.and_eq_true] at hp
      exact ⟨w, hw', zk_blt hp.1, hw _ (zk_wb_ok hp.2)⟩
    · cases hp
  · obtain ⟨p, hp⟩ := zk_z_ok h2 _ (zk_al_mem hk)
    exact hw _ (zk_wb_ok hp)
  · obtain ⟨p, hp⟩ := zk_z_ok h3 _ (zk_al_mem hk)
    exact hw _ (zk_wb_ok hp)
  · obtain ⟨p, hp⟩ := zk_z_ok h4 _ (zk_al_mem hq)
    unfold zk_nb at hp
    split at hp
    · rename_i w hw'
      simp only [Bool.and_eq_true] at hp
      exact ⟨w, hw', hw _ (zk_wb_ok hp.1), hw _ (zk_wb_ok hp.2.1), hw _ (zk_wb_ok hp.2.2)⟩
    · cases hp
  · obtain ⟨p, hp⟩ := zk_z_ok h5 _ (zk_al_mem hq)
    simp only [Bool.and_eq_true] at hp
    exact ⟨hw _ (zk_wb_ok hp.1), of_decide_eq_true hp.2⟩
  · rw [hx] at h6
    simp only [Bool.and_eq_true] at h6
    exact ⟨zk_wb_ok h6.1, zk_wb_ok h6.2.1, zk_wb_ok h6.2.2⟩
/-- a hint's words: places of code, initialized, link, static or instanceMethod, selects -/
def zk_hwb (cl : List vw_C) (own : String) (R : Room) (h : zX) (P : Nat × Nat × Nat × Nat × Nat) : Bool :=
  zk_wb (Cond.code h.2.2.2.y h.2.2.2.b h.2.2.2.n h.2.2.2.rt) P.1 && (zk_wb (Cond.initialized h.2.2.2.y.cls) P.2.1 && (decide (h.2.2.2.rm.cells = h.2.2.2.cs.2.2.2.2.1 ∧ h.2.2.2.rm.slots = h.2.2.2.cs.2.2.2.2.2 ∧ h.2.2.2.rm.frames + 1 ≤ R.frames ∧ 8 + (h.2.2.2.n + 11) + h.2.2.2.rm.locals ≤ R.locals) &&
  (decide (h.2.2.2.y.cls ≠ "java/lang/invoke/MethodHandle" ∧ h.2.2.2.y.cls ≠ "java/lang/invoke/VarHandle") && (decide ((parseMethodDescriptor h.2.2.2.y.desc).map (fun d => d.parameters.length) = some (if h.2.1 ≤ 1 then h.2.2.2.cs.2.1.1.length else h.2.2.2.cs.2.1.1.length - 1)) &&
  (if h.2.1 = 0 then zk_wb (Cond.methodLink own h.1 h.2.2.2.y) P.2.2.1 && zk_wb (Cond.static h.2.2.2.y) P.2.2.2.1
   else if h.2.1 = 1 then decide ((own, h.1, h.2.2.2.y, "BothLists") ∈ zk_nst) && zk_wb (Cond.static h.2.2.2.y) P.2.2.2.1
   else if h.2.1 = 2 then zk_wb (Cond.methodLink own h.1 h.2.2.2.y) P.2.2.1 && (zk_wb (Cond.instanceMethod h.2.2.2.y) P.2.2.2.1 && (match cl[h.2.2.1]? with | some q => zk_wb (Cond.selects q.1 h.2.2.2.y h.2.2.2.y) P.2.2.2.2 | none => false))
   else zk_wb (Cond.methodLink own h.1 h.2.2.2.y) P.2.2.1 && (zk_wb (Cond.instanceMethod h.2.2.2.y) P.2.2.2.1 && (decide (h.2.2.2.y.name = "<init>" ∧ h.2.2.2.rt = none) && (cl[h.2.2.1]?).isSome)))))))
theorem zk_hwb_ok {cl : List vw_C} {own : String} {R : Room} {h : zX} {P : Nat × Nat × Nat × Nat × Nat} (hb : zk_hwb cl own R h P = true) : zk_hw cl own R h := by
  simp only [zk_hwb, Bool.and_eq_true] at hb
  obtain ⟨h1, h2, h3, h4, h5, h6⟩ := hb
  refine ⟨zk_wb_ok h1, zk_wb_ok h2, of_decide_eq_true h3, of_decide_eq_true h4, of_decide_eq_true h5, ?_⟩
  split
  · rename_i e
    rw [if_pos e] at h6
    simp only [Bool.and_eq_true] at h6
    exact ⟨zk_wb_ok h6.1, zk_wb_ok h6.2⟩
  · rename_i e
    rw [if_neg e] at h6
    split
    · rename_i e1
      rw [if_pos e1] at h6
      simp only [Bool.and_eq_true] at h6
      exact ⟨⟨_, of_decide_eq_true h6.1⟩, zk_wb_ok h6.2⟩
    · rename_i e1
      rw [if_neg e1] at h6
      split
      · rename_i e2
        rw [if_pos e2] at h6
        simp only [Bool.and_eq_true] at h6
        obtain ⟨a1, a2, a3⟩ := h6
        split at a3
        · rename_i q hq
          exact ⟨zk_wb_ok a1, zk_wb_ok a2, q, hq, zk_wb_ok a3⟩
        · cases a3
      · rename_i e2
        rw [if_neg e2] at h6
        simp only [Bool.and_eq_true] at h6
        obtain ⟨a1, a2, a3, a4⟩ := h6
        have a3 := of_decide_eq_true a3
        exact ⟨zk_wb_ok a1, zk_wb_ok a2, a3.1, a3.2, Option.isSome_iff_exists.mp a4⟩
def zk_hwsb (cl : List vw_C) (own : String) (R : Room) : List zX → List (Nat × Nat × Nat × Nat × Nat) → Bool := zk_z (zk_hwb cl own R)
theorem zk_hcs {D : zD} {cl : List vw_C} {l : Launch} {own : String} {R : Room} {HX : List zX} {ps : List (Nat × Nat × Nat × Nat × Nat)} (hc : ∀ x ∈ HX, zk_con D cl l x.2.2.2.y (zk_ws x.2.2.2) x.2.2.2.rm x.2.2.2.cs) (hw : zk_hwsb cl own R HX ps = true) : ∀ x ∈ HX, zk_con D cl l x.2.2.2.y (zk_ws x.2.2.2) x.2.2.2.rm x.2.2.2.cs ∧ zk_hw cl own R x := fun x hx => by
  obtain ⟨p, hp⟩ := zk_z_ok hw x hx
  exact ⟨hc x hx, zk_hwb_ok hp⟩
end
section
def zs_Pc (adK adV : Nat → Nat) (A : Nat → Prop) (as : List Value) : Array Value → State → Prop := fun a U => a = as.toArray ∧ zs_S adK adV A U U.heap
def zs_Qc (v : Option Value) : Array Value → State → Outcome → State → Prop := fun _ s o t => o = .returned v ∧ t.heap = s.heap
theorem zs_blind {adK adV : Nat → Nat} {A : Nat → Prop} {as : List Value} : FrameBlind (zs_Pc adK adV A as) := fun a U g mk h => ⟨h.1, zs_S.moved (u := U) (U := U.calling g mk a) (Vm.Alike.refl U.vm) h.2⟩
theorem zs_at {adK adV : Nat → Nat} {A : Nat → Prop} {as : List Value} {s : State} {H : Heap} (h : zs_S adK adV A s H) (U : State) (hU : U.heap = H) (hW : s.WarmedH U.vm) : zs_Pc adK adV A as as.toArray U := ⟨rfl, by rw [hU]; exact zs_S.moved hW.alike h⟩
def zs_q0 : zQ := ((0, 0), ([], ([], [], [], []), ([], [], [], [], [], [])), [], ([], []), (0, 0))
def zs_rm (f l : Nat) : Room := { frames := f, cells := 0, slots := 0, locals := l }
def zs_M (y : MethodName) (b : ByteArray) (n : Nat) (rt : Option FieldType) (f l : Nat) : zM := (y, b, n, rt, zs_rm f l, zs_q0)
def zs_coder : zM := zs_M yJ0_coder_7d493 cJ0_coder_7d493 1 (some .byte) 1 12
def zs_lat : zM := zs_M yJ0_isLatin1_aae02 cJ0_isLatin1_aae02 1 (some .boolean) 1 12
def zs_lenm : zM := zs_M yJ0_length_8abf5 cJ0_length_8abf5 1 (some .int) 2 32
def zs_pre : zM := zs_M yJ3_checkIndex_8e157 cJ3_checkIndex_8e157 3 (some .int) 1 12
def zs_chk : zM := zs_M yJ0_checkIndex_df160 cJ0_checkIndex_df160 2 none 2 34
def zs_l1 : zM := zs_M yJ1_charAt_3b067 cJ1_charAt_3b067 2 (some .char) 3 55
def zs_cat : zM := zs_M yJ0_charAt_5068e cJ0_charAt_5068e 2 (some .char) 4 76
theorem zs_w_c_coder : Cond.code zs_coder.y zs_coder.b zs_coder.n zs_coder.rt ∈ zw := zk_wb_ok (p := 567) (by decide +kernel)
theorem zs_w_c_lat : Cond.code zs_lat.y zs_lat.b zs_lat.n zs_lat.rt ∈ zw := zk_wb_ok (p := 577) (by decide +kernel)
theorem zs_w_c_lenm : Cond.code zs_lenm.y zs_lenm.b zs_lenm.n zs_lenm.rt ∈ zw := zk_wb_ok (p := 563) (by decide +kernel)
theorem zs_w_c_pre : Cond.code zs_pre.y zs_pre.b zs_pre.n zs_pre.rt ∈ zw := zk_wb_ok (p := 588) (by decide +kernel)
theorem zs_w_c_chk : Cond.code zs_chk.y zs_chk.b zs_chk.n zs_chk.rt ∈ zw := zk_wb_ok (p := 583) (by decide +kernel)
theorem zs_w_c_l1 : Cond.code zs_l1.y zs_l1.b zs_l1.n zs_l1.rt ∈ zw := zk_wb_ok (p := 580) (by decide +kernel)
theorem zs_w_c_cat : Cond.code zs_cat.y zs_cat.b zs_cat.n zs_cat.rt ∈ zw := zk_wb_ok (p := 573) (by decide +kernel)
theorem zs_w_f38 : Cond.fieldLink RJ0 38 "java/lang/String" "COMPACT_STRINGS" "Z" ∈ zw := zk_wb_ok (p := 568) (by decide +kernel)
theorem zs_w_f15 : Cond.fieldLink RJ0 15 "java/lang/String" "coder" "B" ∈ zw := zk_wb_ok (p := 1710) (by decide +kernel)
theorem zs_w_f9 : Cond.fieldLink RJ0 9 "java/lang/String" "value" "[B" ∈ zw := zk_wb_ok (p := 1709) (by decide +kernel)
theorem zs_w_f1053 : Cond.fieldLink RJ0 1053 "jdk/internal/util/Preconditions" "SIOOBE_FORMATTER" "Ljava/util/function/BiFunction;" ∈ zw := zk_wb_ok (p := 584) (by decide +kernel)
theorem zs_w_m335 : Cond.methodLink RJ0 335 yJ0_coder_7d493 ∈ zw := zk_wb_ok (p := 564) (by decide +kernel)
theorem zs_w_m492 : Cond.methodLink RJ0 492 yJ0_isLatin1_aae02 ∈ zw := zk_wb_ok (p := 574) (by decide +kernel)
theorem zs_w_m495 : Cond.methodLink RJ0 495 yJ1_charAt_3b067 ∈ zw := zk_wb_ok (p := 578) (by decide +kernel)
theorem zs_w_m9 : Cond.methodLink RJ1 9 yJ0_checkIndex_df160 ∈ zw := zk_wb_ok (p := 581) (by decide +kernel)
theorem zs_w_m1059 : Cond.methodLink RJ0 1059 yJ3_checkIndex_8e157 ∈ zw := zk_wb_ok (p := 586) (by decide +kernel)
theorem zs_w_i_coder : Cond.instanceMethod yJ0_coder_7d493 ∈ zw := zk_wb_ok (p := 565) (by decide +kernel)
theorem zs_w_s_coder : Cond.selects "java/lang/String" yJ0_coder_7d493 yJ0_coder_7d493 ∈ zw := zk_wb_ok (p := 566) (by decide +kernel)
theorem zs_w_i_lat : Cond.instanceMethod yJ0_isLatin1_aae02 ∈ zw := zk_wb_ok (p := 575) (by decide +kernel)
theorem zs_w_s_lat : Cond.selects "java/lang/String" yJ0_isLatin1_aae02 yJ0_isLatin1_aae02 ∈ zw := zk_wb_ok (p := 576) (by decide +kernel)
theorem zs_w_i_lenm : Cond.instanceMethod yJ0_length_8abf5 ∈ zw := zk_wb_ok (p := 561) (by decide +kernel)
theorem zs_w_s_lenm : Cond.selects "java/lang/String" yJ0_length_8abf5 yJ0_length_8abf5 ∈ zw := zk_wb_ok (p := 562) (by decide +kernel)
theorem zs_w_i_cat : Cond.instanceMethod yJ0_charAt_5068e ∈ zw := zk_wb_ok (p := 571) (by decide +kernel)
theorem zs_w_s_cat : Cond.selects "java/lang/String" yJ0_charAt_5068e yJ0_charAt_5068e ∈ zw := zk_wb_ok (p := 572) (by decide +kernel)
theorem zs_w_t_l1 : Cond.static yJ1_charAt_3b067 ∈ zw := zk_wb_ok (p := 579) (by decide +kernel)
theorem zs_w_t_chk : Cond.static yJ0_checkIndex_df160 ∈ zw := zk_wb_ok (p := 582) (by decide +kernel)
theorem zs_w_t_pre : Cond.static yJ3_checkIndex_8e157 ∈ zw := zk_wb_ok (p := 587) (by decide +kernel)
theorem zs_w_n_S : Cond.initialized "java/lang/String" ∈ zw := zk_wb_ok (p := 87) (by decide +kernel)
theorem zs_w_n_L : Cond.initialized "java/lang/StringLatin1" ∈ zw := zk_wb_ok (p := 88) (by decide +kernel)
theorem zs_w_n_P : Cond.initialized "jdk/internal/util/Preconditions" ∈ zw := zk_wb_ok (p := 89) (by decide +kernel)
theorem zd_coder_0 : decode cJ0_coder_7d493 0 = .ok (.getstatic 38, 3) := by decide +kernel
theorem zd_coder_3 : decode cJ0_coder_7d493 3 = .ok (.ifCond .eq 10, 3) := by decide +kernel
theorem zd_coder_6 : decode cJ0_coder_7d493 6 = .ok (.aload_n 0, 1) := by decide +kernel
theorem zd_coder_7 : decode cJ0_coder_7d493 7 = .ok (.getfield 15, 3) := by decide +kernel
theorem zd_coder_10 : decode cJ0_coder_7d493 10 = .ok (.goto 4, 3) := by decide +kernel
theorem zd_coder_13 : decode cJ0_coder_7d493 13 = .ok (.iconst 1, 1) := by decide +kernel
theorem zd_coder_14 : decode cJ0_coder_7d493 14 = .ok (.ireturn, 1) := by decide +kernel
theorem zd_lat_0 : decode cJ0_isLatin1_aae02 0 = .ok (.getstatic 38, 3) := by decide +kernel
theorem zd_lat_3 : decode cJ0_isLatin1_aae02 3 = .ok (.ifCond .eq 14, 3) := by decide +kernel
theorem zd_lat_6 : decode cJ0_isLatin1_aae02 6 = .ok (.aload_n 0, 1) := by decide +kernel
theorem zd_lat_7 : decode cJ0_isLatin1_aae02 7 = .ok (.getfield 15, 3) := by decide +kernel
theorem zd_lat_10 : decode cJ0_isLatin1_aae02 10 = .ok (.ifCond .ne 7, 3) := by decide +kernel
theorem zd_lat_13 : decode cJ0_isLatin1_aae02 13 = .ok (.iconst 1, 1) := by decide +kernel
theorem zd_lat_14 : decode cJ0_isLatin1_aae02 14 = .ok (.goto 4, 3) := by decide +kernel
theorem zd_lat_17 : decode cJ0_isLatin1_aae02 17 = .ok (.iconst 0, 1) := by decide +kernel
theorem zd_lat_18 : decode cJ0_isLatin1_aae02 18 = .ok (.ireturn, 1) := by decide +kernel
theorem zd_lenm_0 : decode cJ0_length_8abf5 0 = .ok (.aload_n 0, 1) := by decide +kernel
theorem zd_lenm_1 : decode cJ0_length_8abf5 1 = .ok (.getfield 9, 3) := by decide +kernel
theorem zd_lenm_4 : decode cJ0_length_8abf5 4 = .ok (.arraylength, 1) := by decide +kernel
theorem zd_lenm_5 : decode cJ0_length_8abf5 5 = .ok (.aload_n 0, 1) := by decide +kernel
theorem zd_lenm_6 : decode cJ0_length_8abf5 6 = .ok (.invokevirtual 335, 3) := by decide +kernel
theorem zd_lenm_9 : decode cJ0_length_8abf5 9 = .ok (.ishr, 1) := by decide +kernel
theorem zd_lenm_10 : decode cJ0_length_8abf5 10 = .ok (.ireturn, 1) := by decide +kernel
theorem zd_pre_0 : decode cJ3_checkIndex_8e157 0 = .ok (.iload_n 0, 1) := by decide +kernel
theorem zd_pre_1 : decode cJ3_checkIndex_8e157 1 = .ok (.ifCond .lt 8, 3) := by decide +kernel
theorem zd_pre_4 : decode cJ3_checkIndex_8e157 4 = .ok (.iload_n 0, 1) := by decide +kernel
theorem zd_pre_5 : decode cJ3_checkIndex_8e157 5 = .ok (.iload_n 1, 1) := by decide +kernel
theorem zd_pre_6 : decode cJ3_checkIndex_8e157 6 = .ok (.if_icmp .lt 10, 3) := by decide +kernel
theorem zd_pre_9 : decode cJ3_checkIndex_8e157 9 = .ok (.aload_n 2, 1) := by decide +kernel
theorem zd_pre_10 : decode cJ3_checkIndex_8e157 10 = .ok (.iload_n 0, 1) := by decide +kernel
theorem zd_pre_11 : decode cJ3_checkIndex_8e157 11 = .ok (.iload_n 1, 1) := by decide +kernel
theorem zd_pre_12 : decode cJ3_checkIndex_8e157 12 = .ok (.invokestatic 95, 3) := by decide +kernel
theorem zd_pre_15 : decode cJ3_checkIndex_8e157 15 = .ok (.athrow, 1) := by decide +kernel
theorem zd_pre_16 : decode cJ3_checkIndex_8e157 16 = .ok (.iload_n 0, 1) := by decide +kernel
theorem zd_pre_17 : decode cJ3_checkIndex_8e157 17 = .ok (.ireturn, 1) := by decide +kernel
theorem zd_chk_0 : decode cJ0_checkIndex_df160 0 = .ok (.iload_n 0, 1) := by decide +kernel
theorem zd_chk_1 : decode cJ0_checkIndex_df160 1 = .ok (.iload_n 1, 1) := by decide +kernel
theorem zd_chk_2 : decode cJ0_checkIndex_df160 2 = .ok (.getstatic 1053, 3) := by decide +kernel
theorem zd_chk_5 : decode cJ0_checkIndex_df160 5 = .ok (.invokestatic 1059, 3) := by decide +kernel
theorem zd_chk_8 : decode cJ0_checkIndex_df160 8 = .ok (.pop, 1) := by decide +kernel
theorem zd_chk_9 : decode cJ0_checkIndex_df160 9 = .ok (.return_, 1) := by decide +kernel
theorem zd_l1_0 : decode cJ1_charAt_3b067 0 = .ok (.iload_n 1, 1) := by decide +kernel
theorem zd_l1_1 : decode cJ1_charAt_3b067 1 = .ok (.aload_n 0, 1) := by decide +kernel
theorem zd_l1_2 : decode cJ1_charAt_3b067 2 = .ok (.arraylength, 1) := by decide +kernel
theorem zd_l1_3 : decode cJ1_charAt_3b067 3 = .ok (.invokestatic 9, 3) := by decide +kernel
theorem zd_l1_6 : decode cJ1_charAt_3b067 6 = .ok (.aload_n 0, 1) := by decide +kernel
theorem zd_l1_7 : decode cJ1_charAt_3b067 7 = .ok (.iload_n 1, 1) := by decide +kernel
theorem zd_l1_8 : decode cJ1_charAt_3b067 8 = .ok (.baload, 1) := by decide +kernel
theorem zd_l1_9 : decode cJ1_charAt_3b067 9 = .ok (.sipush 255, 3) := by decide +kernel
theorem zd_l1_12 : decode cJ1_charAt_3b067 12 = .ok (.iand, 1) := by decide +kernel
theorem zd_l1_13 : decode cJ1_charAt_3b067 13 = .ok (.i2c, 1) := by decide +kernel
theorem zd_l1_14 : decode cJ1_charAt_3b067 14 = .ok (.ireturn, 1) := by decide +kernel
theorem zd_cat_0 : decode cJ0_charAt_5068e 0 = .ok (.aload_n 0, 1) := by decide +kernel
theorem zd_cat_1 : decode cJ0_charAt_5068e 1 = .ok (.invokevirtual 492, 3) := by decide +kernel
theorem zd_cat_4 : decode cJ0_charAt_5068e 4 = .ok (.ifCond .eq 12, 3) := by decide +kernel
theorem zd_cat_7 : decode cJ0_charAt_5068e 7 = .ok (.aload_n 0, 1) := by decide +kernel
theorem zd_cat_8 : decode cJ0_charAt_5068e 8 = .ok (.getfield 9, 3) := by decide +kernel
theorem zd_cat_11 : decode cJ0_charAt_5068e 11 = .ok (.iload_n 1, 1) := by decide +kernel
theorem zd_cat_12 : decode cJ0_charAt_5068e 12 = .ok (.invokestatic 495, 3) := by decide +kernel
theorem zd_cat_15 : decode cJ0_charAt_5068e 15 = .ok (.ireturn, 1) := by decide +kernel
theorem zd_cat_16 : decode cJ0_charAt_5068e 16 = .ok (.aload_n 0, 1) := by decide +kernel
theorem zd_cat_17 : decode cJ0_charAt_5068e 17 = .ok (.getfield 9, 3) := by decide +kernel
theorem zd_cat_20 : decode cJ0_charAt_5068e 20 = .ok (.iload_n 1, 1) := by decide +kernel
theorem zd_cat_21 : decode cJ0_charAt_5068e 21 = .ok (.invokestatic 498, 3) := by decide +kernel
theorem zd_cat_24 : decode cJ0_charAt_5068e 24 = .ok (.ireturn, 1) := by decide +kernel
section
variable {l : Launch} {adK adV : Nat → Nat} {A : Nat → Prop}
/-- a callee's words and room -/
theorem zs_B {R : Room} {s : State} {args : Array Value} {own : String} {idx n : Nat} {M0 M : zM} (hts : ∀ w ∈ zk_ws M0, w.before args s = true) (hc : Cond.code M.y M.b M.n M.rt ∈ zw) (hini : Cond.initialized M.y.cls ∈ zw) (hl : Cond.methodLink own idx M.y ∈ zw) (hz : M.rm.cells = 0 ∧ M.rm.slots = 0) (hd : M.y.cls ≠ "java/lang/invoke/MethodHandle" ∧ M.y.cls ≠ "java/lang/invoke/VarHandle" ∧ (parseMethodDescriptor M.y.desc).map (fun d => d.parameters.length) = some n) (hR : M.rm.frames + 1 ≤ R.frames ∧ 8 + (M.n + 11) + M.rm.locals ≤ R.locals) : CallB R s args own idx M.y M.b M.n M.rt (zk_ws M) M.rm 0 0 n :=
  callB_of n hts (zk_good M0 M hc) rfl hz.1 hz.2 (hts _ (List.mem_cons_of_mem _ hini)) (hts _ (List.mem_cons_of_mem _ hl)) hd hR
theorem zs_coder_ok {i : Nat} (hi : i < 15) : Met l zs_coder.y (zk_ws zs_coder) zs_coder.rm (zs_Pc adK adV A [.ref (adK i)]) (zs_Qc (some (.int 0))) 0 0 (fun _ => False) := by
  refine Met.ofW (cc := cJ0_coder_7d493) (maxL := 1) (ret := some .byte) (by decide) rfl ?_
  intro p e s m args below meth c s₁ B hml hP
  obtain ⟨rfl, hS⟩ := hP
  have hx := B.exec
  have hb := B.bytes
  have hr := B.returns
  have hts := atoms_spec (ws := zk_ws zs_coder) B.pre
  have hown : s.vm.findClass RJ0 = some m.cls := findClass_of_methodNamed B.named
  have hlocks := B.notSynchronized
  have hw : ∀ w ∈ zw, w.before _ s = true := fun w h => hts w (List.mem_cons_of_mem _ h)
  have hl := lv_entry [Value.ref (adK i)] (n := 1) (Nat.le_of_ble_eq_true rfl)
  rw [lg_entry_eq]
  refine va_gets hx hb hS.2.1 va_S.rf hown (hw _ zs_w_f38) (fun _ h => h) zd_coder_0 ?_
  refine lv_if_eq (tgt := 13) hx hb zd_coder_3 (by decide) (fun h => absurd h (by decide)) (fun _ => ?_)
  refine lv_aload_n hx hb zd_coder_6 rfl (lv_at hl 0 rfl) ?_
  refine vk_getf hx hb (hS.1.1 i hi).2.1 va_S.rf hown (hw _ zs_w_f15) (fun _ h => h) zd_coder_7 ?_
  refine lv_goto (tgt := 14) hx hb zd_coder_10 (by decide) ?_
  exact W.zret hx hb hr (by decide) (fun t ht _ => ⟨rfl, ht⟩) (fun q h => by cases h) zd_coder_14
theorem zs_lat_ok {i : Nat} (hi : i < 15) : Met l zs_lat.y (zk_ws zs_lat) zs_lat.rm (zs_Pc adK adV A [.ref (adK i)]) (zs_Qc (some (.int 1))) 0 0 (fun _ => False) := by
  refine Met.ofW (cc := cJ0_isLatin1_aae02) (maxL := 1) (ret := some .boolean) (by decide) rfl ?_
  intro p e s m args below meth c s₁ B hml hP
  obtain ⟨rfl, hS⟩ := hP
  have hx := B.exec
  have hb := B.bytes
  have hr := B.returns
  have hts := atoms_spec (ws := zk_ws zs_lat) B.pre
  have hown : s.vm.findClass RJ0 = some m.cls := findClass_of_methodNamed B.named
  have hlocks := B.notSynchronized
  have hw : ∀ w ∈ zw, w.before _ s = true := fun w h => hts w (List.mem_cons_of_mem _ h)
  have hl := lv_entry [Value.ref (adK i)] (n := 1) (Nat.le_of_ble_eq_true rfl)
  rw [lg_entry_eq]
  refine va_gets hx hb hS.2.1 va_S.rf hown (hw _ zs_w_f38) (fun _ h => h) zd_lat_0 ?_
  refine lv_if_eq (tgt := 17) hx hb zd_lat_3 (by decide) (fun h => absurd h (by decide)) (fun _ => ?_)
  refine lv_aload_n hx hb zd_lat_6 rfl (lv_at hl 0 rfl) ?_
  refine vk_getf hx hb (hS.1.1 i hi).2.1 va_S.rf hown (hw _ zs_w_f15) (fun _ h => h) zd_lat_7 ?_
  refine lv_if_ne (tgt := 17) hx hb zd_lat_10 (by decide) (fun h => absurd rfl h) (fun _ => ?_)
  refine lv_iconst (v := 1) hx hb zd_lat_13 (by decide) ?_
  refine lv_goto (tgt := 18) hx hb zd_lat_14 (by decide) ?_
  exact W.zret hx hb hr (by decide) (fun t ht _ => ⟨rfl, ht⟩) (fun q h => by cases h) zd_lat_18
theorem zs_sh : ∀ i : Fin 15, Int32.ofNat (zs_len.getD i.val 0) >>> ((0 : Int32) &&& 31) = Int32.ofNat (zs_len.getD i.val 0) := by decide +kernel
theorem zs_lenm_ok {i : Nat} (hi : i < 15) : Met l zs_lenm.y (zk_ws zs_lenm) zs_lenm.rm (zs_Pc adK adV A [.ref (adK i)]) (zs_Qc (some (.int (Int32.ofNat (zs_len.getD i 0))))) 0 0 (fun _ => False) := by
  refine Met.ofW (cc := cJ0_length_8abf5) (maxL := 1) (ret := some .int) (by decide) rfl ?_
  intro p e s m args below meth c s₁ B hml hP
  obtain ⟨rfl, hS⟩ := hP
  have hx := B.exec
  have hb := B.bytes
  have hr := B.returns
  have hts := atoms_spec (ws := zk_ws zs_lenm) B.pre
  have hown : s.vm.findClass RJ0 = some m.cls := findClass_of_methodNamed B.named
  have hlocks := B.notSynchronized
  have hw : ∀ w ∈ zw, w.before _ s = true := fun w h => hts w (List.mem_cons_of_mem _ h)
  have hl := lv_entry [Value.ref (adK i)] (n := 1) (Nat.le_of_ble_eq_true rfl)
  rw [lg_entry_eq]
  refine lv_aload_n hx hb zd_lenm_0 rfl (lv_at hl 0 rfl) ?_
  refine vk_getf hx hb (hS.1.1 i hi).2.2.1 va_S.rf hown (hw _ zs_w_f9) (fun _ h => h) zd_lenm_1 ?_
  refine va_tlen hx hb (hS.1.1 i hi).2.2.2 va_S.rf rfl zd_lenm_4 ?_
  refine lv_aload_n hx hb zd_lenm_5 rfl (lv_at hl 0 rfl) ?_
  refine W.callX (W.runV (As := []) (C := "java/lang/String") ⟨hx, hb, hml, hown, hts⟩ (zs_coder_ok (l := l) hi) ⟨zs_B hts zs_w_c_coder zs_w_n_S zs_w_m335 ⟨rfl, rfl⟩ (by decide +kernel) (by decide), hw _ zs_w_i_coder, hw _ zs_w_s_coder⟩ ⟨zs_blind, vk_recv hS.1 hi va_S.rf, fun U hU hW => zs_at hS U hU hW⟩ rfl rfl hl.1 rfl (lv_room (Nat.le_of_ble_eq_true rfl)) zd_lenm_6 (by decide)) (fun x h => h.elim) (fun v st t h1 h2 => ?_)
  obtain ⟨h3, h4⟩ := h2
  cases h3
  rw [h4, h1]
  refine lv_ishr hx hb zd_lenm_9 ?_
  have e := zs_sh ⟨i, hi⟩
  dsimp only at e
  rw [e]
  exact W.iret hx hb hr (fun t ht _ => ⟨rfl, ht⟩) (fun q h => by cases h) zd_lenm_10
end
section
variable {l : Launch} {adK adV : Nat → Nat} {A : Nat → Prop}
theorem zs_pre_ok {x n : Int32} {q : Value} (h0 : ¬ x < 0) (hn : x < n) (hq : q.category = 1) : Met l zs_pre.y (zk_ws zs_pre) zs_pre.rm (zs_Pc adK adV A [.int x, .int n, q]) (zs_Qc (some (.int x))) 0 0 (fun _ => False) := by
  refine Met.ofW (cc := cJ3_checkIndex_8e157) (maxL := 3) (ret := some .int) (by decide) rfl ?_
  intro p e s m args below meth c s₁ B hml hP
  obtain ⟨rfl, hS⟩ := hP
  have hx := B.exec
  have hb := B.bytes
  have hr := B.returns
  have hlocks := B.notSynchronized
  have hsz : (lg_sl [Value.int x, Value.int n, q]).length = 3 := by
    cases q <;> first | rfl | (simp [Value.category] at hq)
  have hl := lv_entry [Value.int x, Value.int n, q] (n := 3) (by rw [hsz]; exact Nat.le_refl _)
  rw [lg_entry_eq]
  have hl2 := lv_sub (l' := [(0, .int x), (1, .int n)]) hl [0, 1] rfl
  refine lv_iload_n hx hb zd_pre_0 rfl (lv_at hl2 0 rfl) ?_
  refine lv_if_lt (tgt := 9) hx hb zd_pre_1 (by decide) (fun h => absurd h h0) (fun _ => ?_)
  refine lv_iload_n hx hb zd_pre_4 rfl (lv_at hl2 0 rfl) ?_
  refine lv_iload_n hx hb zd_pre_5 rfl (lv_at hl2 1 rfl) ?_
  refine lv_icmp_lt (tgt := 16) hx hb zd_pre_6 (by decide) (fun _ => ?_) (fun h => absurd hn h)
  refine lv_iload_n hx hb zd_pre_16 rfl (lv_at hl2 0 rfl) ?_
  exact W.iret hx hb hr (fun t ht _ => ⟨rfl, ht⟩) (fun q h => by cases h) zd_pre_17
theorem zs_chk_ok {x n : Int32} (h0 : ¬ x < 0) (hn : x < n) : Met l zs_chk.y (zk_ws zs_chk) zs_chk.rm (zs_Pc adK adV A [.int x, .int n]) (zs_Qc none) 0 0 (fun _ => False) := by
  refine Met.ofW (cc := cJ0_checkIndex_df160) (maxL := 2) (ret := none) (by decide) rfl ?_
  intro p e s m args below meth c s₁ B hml hP
  obtain ⟨rfl, hS⟩ := hP
  have hx := B.exec
  have hb := B.bytes
  have hr := B.returns
  have hts := atoms_spec (ws := zk_ws zs_chk) B.pre
  have hown : s.vm.findClass RJ0 = some m.cls := findClass_of_methodNamed B.named
  have hlocks := B.notSynchronized
  have hw : ∀ w ∈ zw, w.before _ s = true := fun w h => hts w (List.mem_cons_of_mem _ h)
  have hl := lv_entry [Value.int x, Value.int n] (n := 2) (Nat.le_of_ble_eq_true rfl)
  rw [lg_entry_eq]
  refine lv_iload_n hx hb zd_chk_0 rfl (lv_at hl 0 rfl) ?_
  refine lv_iload_n hx hb zd_chk_1 rfl (lv_at hl 1 rfl) ?_
  have go : ∀ q : Value, q.category = 1 → va_Z "jdk/internal/util/Preconditions" "SIOOBE_FORMATTER" "Ljava/util/function/BiFunction;" q A s s.heap → W p l e zs_chk.rm s m [Value.int x, Value.int n].toArray below meth c s.heap [] 0 0 (MQ below (zs_Qc none) [Value.int x, Value.int n].toArray s 0 0 (fun _ => False)) (F0 m 2 (lg_sl [Value.int x, Value.int n] ++ List.replicate (2 - (lg_sl [Value.int x, Value.int n]).length) Slot.unset).toArray [.int n, .int x]) := by
    intro q hq hZ
    refine va_gets hx hb hZ va_S.rf hown (hw _ zs_w_f1053) (fun _ h => h) zd_chk_2 ?_
    refine W.callX (W.runS (As := [.int x, .int n, q]) (rest := []) ⟨hx, hb, hml, hown, hts⟩ (zs_pre_ok (l := l) (adK := adK) (adV := adV) (A := A) h0 hn hq) ⟨zs_B (n := 3) hts zs_w_c_pre zs_w_n_P zs_w_m1059 ⟨rfl, rfl⟩ (by decide +kernel) (by decide), hw _ zs_w_t_pre⟩ ⟨zs_blind, fun U hU hW => zs_at hS U hU hW⟩ rfl rfl hl.1 rfl (lv_room (Nat.le_of_ble_eq_true rfl)) zd_chk_5 (by decide)) (fun x h => h.elim) (fun v st t h1 h2 => ?_)
    obtain ⟨h3, h4⟩ := h2
    cases h3
    rw [h4, h1]
    refine lv_pop hx hb zd_chk_8 rfl ?_
    exact W.vret hx hb hr (fun t ht _ => ⟨rfl, ht⟩) (fun q h => by cases h) zd_chk_9
  rcases hS.2.2 with hZ | ⟨q, hZ⟩
  · exact go .null rfl hZ
  · exact go (.ref q) rfl hZ
theorem zs_l1_ok {i k : Nat} (hi : i < 15) (hk : k < zs_len.getD i 0) (h0 : ¬ Int32.ofNat k < 0) (hn : Int32.ofNat k < Int32.ofNat (zs_len.getD i 0)) (hin : vp_in (Int32.ofNat k) (zs_len.getD i 0)) {v : Int32} (hv : ((((zs_byt.getD i []).getD (Int32.ofNat k).toNatClampNeg 0) &&& 255).toUInt32 % 65536).toInt32 = v) (hnar : narrow .char (.int v) = .int v) : Met l zs_l1.y (zk_ws zs_l1) zs_l1.rm (zs_Pc adK adV A [.ref (adV i), .int (Int32.ofNat k)]) (zs_Qc (some (.int v))) 0 0 (fun _ => False) := by
  refine Met.ofW (cc := cJ1_charAt_3b067) (maxL := 2) (ret := some .char) (by decide) rfl ?_
  intro p e s m args below meth c s₁ B hml hP
  obtain ⟨rfl, hS⟩ := hP
  have hx := B.exec
  have hb := B.bytes
  have hr := B.returns
  have hts := atoms_spec (ws := zk_ws zs_l1) B.pre
  have hown : s.vm.findClass RJ1 = some m.cls := findClass_of_methodNamed B.named
  have hlocks := B.notSynchronized
  have hw : ∀ w ∈ zw, w.before _ s = true := fun w h => hts w (List.mem_cons_of_mem _ h)
  have hl := lv_entry [Value.ref (adV i), Value.int (Int32.ofNat k)] (n := 2) (Nat.le_of_ble_eq_true rfl)
  rw [lg_entry_eq]
  refine lv_iload_n hx hb zd_l1_0 rfl (lv_at hl 1 rfl) ?_
  refine lv_aload_n hx hb zd_l1_1 rfl (lv_at hl 0 rfl) ?_
  refine va_tlen hx hb (hS.1.1 i hi).2.2.2 va_S.rf rfl zd_l1_2 ?_
  refine W.callX (W.runS (As := [.int (Int32.ofNat k), .int (Int32.ofNat (zs_len.getD i 0))]) (rest := []) ⟨hx, hb, hml, hown, hts⟩ (zs_chk_ok (l := l) (adK := adK) (adV := adV) (A := A) h0 hn) ⟨zs_B (n := 2) hts zs_w_c_chk zs_w_n_S zs_w_m9 ⟨rfl, rfl⟩ (by decide +kernel) (by decide), hw _ zs_w_t_chk⟩ ⟨zs_blind, fun U hU hW => zs_at hS U hU hW⟩ rfl rfl hl.1 rfl (lv_room (Nat.le_of_ble_eq_true rfl)) zd_l1_3 (by decide)) (fun x h => h.elim) (fun v st t h1 h2 => ?_)
  obtain ⟨h3, h4⟩ := h2
  cases h3
  rw [h4, h1]
  refine lv_aload_n hx hb zd_l1_6 rfl (lv_at hl 0 rfl) ?_
  refine lv_iload_n hx hb zd_l1_7 rfl (lv_at hl 1 rfl) ?_
  refine va_tb hx hb (hS.1.1 i hi).2.2.2 va_S.rf hin rfl zd_l1_8 ?_
  refine lv_sipush (v := 255) hx hb zd_l1_9 (by decide) ?_
  refine lv_iand hx hb zd_l1_12 ?_
  refine lv_i2c hx hb zd_l1_13 hv ?_
  exact W.zret hx hb hr hnar (fun t ht _ => ⟨rfl, ht⟩) (fun q h => by cases h) zd_l1_14
theorem zs_cat_ok {i k : Nat} (hi : i < 15) (hk : k < zs_len.getD i 0) (h0 : ¬ Int32.ofNat k < 0) (hn : Int32.ofNat k < Int32.ofNat (zs_len.getD i 0)) (hin : vp_in (Int32.ofNat k) (zs_len.getD i 0)) {v : Int32} (hv : ((((zs_byt.getD i []).getD (Int32.ofNat k).toNatClampNeg 0) &&& 255).toUInt32 % 65536).toInt32 = v) (hnar : narrow .char (.int v) = .int v) : Met l zs_cat.y (zk_ws zs_cat) zs_cat.rm (zs_Pc adK adV A [.ref (adK i), .int (Int32.ofNat k)]) (zs_Qc (some (.int v))) 0 0 (fun _ => False) := by
  refine Met.ofW (cc := cJ0_charAt_5068e) (maxL := 2) (ret := some .char) (by decide) rfl ?_
  intro p e s m args below meth c s₁ B hml hP
  obtain ⟨rfl, hS⟩ := hP
  have hx := B.exec
  have hb := B.bytes
  have hr := B.returns
  have hts := atoms_spec (ws := zk_ws zs_cat) B.pre
  have hown : s.vm.findClass RJ0 = some m.cls := findClass_of_methodNamed B.named
  have hlocks := B.notSynchronized
  have hw : ∀ w ∈ zw, w.before _ s = true := fun w h => hts w (List.mem_cons_of_mem _ h)
  have hl := lv_entry [Value.ref (adK i), Value.int (Int32.ofNat k)] (n := 2) (Nat.le_of_ble_eq_true rfl)
  rw [lg_entry_eq]
  refine lv_aload_n hx hb zd_cat_0 rfl (lv_at hl 0 rfl) ?_
  refine W.callX (W.runV (As := []) (rest := []) (C := "java/lang/String") ⟨hx, hb, hml, hown, hts⟩ (zs_lat_ok (l := l) hi) ⟨zs_B hts zs_w_c_lat zs_w_n_S zs_w_m492 ⟨rfl, rfl⟩ (by decide +kernel) (by decide), hw _ zs_w_i_lat, hw _ zs_w_s_lat⟩ ⟨zs_blind, vk_recv hS.1 hi va_S.rf, fun U hU hW => zs_at hS U hU hW⟩ rfl rfl hl.1 rfl (lv_room (Nat.le_of_ble_eq_true rfl)) zd_cat_1 (by decide)) (fun x h => h.elim) (fun v st t h1 h2 => ?_)
  obtain ⟨h3, h4⟩ := h2
  cases h3
  rw [h4, h1]
  refine lv_if_eq (tgt := 16) hx hb zd_cat_4 rfl (fun h => absurd h (by decide)) (fun _ => ?_)
  refine lv_aload_n hx hb zd_cat_7 rfl (lv_at hl 0 rfl) ?_
  refine vk_getf hx hb (hS.1.1 i hi).2.2.1 va_S.rf hown (hw _ zs_w_f9) (fun _ h => h) zd_cat_8 ?_
  refine lv_iload_n hx hb zd_cat_11 rfl (lv_at hl 1 rfl) ?_
  refine W.callX (W.runS (As := [.ref (adV i), .int (Int32.ofNat k)]) (rest := []) ⟨hx, hb, hml, hown, hts⟩ (zs_l1_ok (l := l) (adK := adK) (adV := adV) (A := A) hi hk h0 hn hin hv hnar) ⟨zs_B (n := 2) hts zs_w_c_l1 zs_w_n_L zs_w_m495 ⟨rfl, rfl⟩ (by decide +kernel) (by decide), hw _ zs_w_t_l1⟩ ⟨zs_blind, fun U hU hW => zs_at hS U hU hW⟩ rfl rfl hl.1 rfl (lv_room (Nat.le_of_ble_eq_true rfl)) zd_cat_12 (by decide)) (fun x h => h.elim) (fun v st t h1 h2 => ?_)
  obtain ⟨h3, h4⟩ := h2
  cases h3
  rw [h4, h1]
  exact W.zret hx hb hr hnar (fun t ht _ => ⟨rfl, ht⟩) (fun q h => by cases h) zd_cat_15
end
/-- the sign at a place of a text -/
def zs_ch (t k : Nat) : Int := ((zs_byt.getD t []).getD k 0).toInt
end
section
/-! THE CHECKER, 33: recorded arithmetic of longs. -/
def zk_apO (o : Nat) (v w : zV) (q : zV × zP) (S : List zV) (A : zA) : zA := (A.1, q.1 :: S, q.2, (A.2.2.2.1.1, A.2.2.2.1.2.1, A.2.2.2.1.2.2.1, A.2.2.2.1.2.2.2.1, A.2.2.2.1.2.2.2.2.1, (o, [v, w, q.1]) :: A.2.2.2.1.2.2.2.2.2), (A.2.2.2.2.1 + 1, A.2.2.2.2.2))
def zk_XTr (n0 : Nat) (K : Nat → zA → Bool) (pc : Nat) (A : zA) (i : Instr) (len : Nat) : Bool := match A.2.1 with
  | w :: v :: S => (decide (v.1 = 0) && (decide (w.1 = 0) && (zk_ok n0 A && (match i, len with
    | .isub, 1 => K (pc + 1) (zk_apO 25 v w (zk_bin 1 A.2.2.2.2.1 A.2.2.1 v w) S A)
    | .iadd, 1 => K (pc + 1) (zk_apO 26 v w (zk_bin 0 A.2.2.2.2.1 A.2.2.1 v w) S A)
    | .imul, 1 => K (pc + 1) (zk_apO 27 v w (zk_bin 2 A.2.2.2.2.1 A.2.2.1 v w) S A)
    | .irem, 1 => zk_nzm A.2.2.1 w && K (pc + 1) (zk_apO 28 v w (zk_bin 4 A.2.2.2.2.1 A.2.2.1 v w) S A)
    | _, _ => false)))) || decide (v.1 = 1) && (decide (w.1 = 1) && (zk_ok n0 A && (match i, len with
    | .lsub, 1 => K (pc + 1) (zk_apO 21 v w (zk_bin 21 A.2.2.2.2.1 A.2.2.1 v w) S A)
    | .lmul, 1 => K (pc + 1) (zk_apO 22 v w (zk_bin 22 A.2.2.2.2.1 A.2.2.1 v w) S A)
    | .ldiv, 1 => zk_nzm A.2.2.1 w && K (pc + 1) (zk_apO 23 v w (zk_bin 23 A.2.2.2.2.1 A.2.2.1 v w) S A)
    | .lrem, 1 => zk_nzm A.2.2.1 w && K (pc + 1) (zk_apO 24 v w (zk_bin 24 A.2.2.2.2.1 A.2.2.1 v w) S A)
    | _, _ => false)))
  | _ => false
section
variable {p : Program} {l : Launch} {e : Env} {R : Room} {s : State} {m : MethodId} {args : Array Value} {below : List Frame} {meth : Method} {c : Code} {Q : State → Prop} {cc : ByteArray} {pc : Nat} {D : zD} {E : zE} {A : zA} {K : Nat → zA → Bool}
theorem zk_row_rec (hD : zk_rc D) {o : Nat} (ho : o ∈ [21, 22, 23, 24]) {v w : zV} {S : List zV} {n : Nat} (hok : zk_ok E.2.1.1 A = true) (hS : A.2.1 = w :: v :: S) (hv : v.1 = 1) (hw : w.1 = 1) {x : (Nat → Int) → Int64} (hx : ∀ r : Nat → Int, zk_P r A.2.2.1 → zk_f o (zk_c r v) (zk_c r w) = some (.long (x r)))
    (row : ∀ {H : Heap} {locs : List Loc} {cells slots : Nat} {ls : Array Slot} {r : Nat → Int}, zk_P r A.2.2.1 → (W p l e R s m args below meth c H locs cells slots Q (F0 m n ls (.long (x r) :: S.map (zk_c r))) → W p l e R s m args below meth c H locs cells slots Q (F0 m pc ls (zk_c r w :: zk_c r v :: S.map (zk_c r)))))
    (k : zk_W p l e R s m args below meth c Q D E n (zk_apO o v w (zk_bin o A.2.2.2.2.1 A.2.2.1 v w) S A)) : zk_W p l e R s m args below meth c Q D E pc A := by
  intro r ty H locs ls st h
  have h2 := h.2.1
  subst h2
  have hvn := zk_okS hok (v := v) (by rw [hS]; simp)
  have hwn := zk_okS hok (v := w) (by rw [hS]; simp)
  obtain ⟨z, g1, g2, g3⟩ := zk_bin_ok (zk_okP hok) h.2.2.1 h.2.2.2.2.2.2.1 hvn hwn (hx r h.2.2.1)
  rw [hS, List.map_cons, List.map_cons]
  refine row h.2.2.1 ?_
  have hn := zk_I_new (r' := zk_u r A.2.2.2.2.1 z) hok (fun y hy => zk_u_ne hy) h
  have eS : S.map (zk_c (zk_u r A.2.2.2.2.1 z)) = S.map (zk_c r) := by
    apply List.map_congr_left
    intro u hu
    exact zk_c_new (zk_okS hok (by rw [hS]; simp [hu]))
  refine k (zk_u r A.2.2.2.2.1 z) ty H locs ls (.long (x r) :: S.map (zk_c r)) ?_
  obtain ⟨a1, a2, a3, ⟨b1, b2, b3, b4, b5, b6, b7⟩, a5, a6, a7, a8, a9, a10⟩ := hn
  refine ⟨a1, by show _ :: _ = (_ :: S).map _; rw [List.map_cons, g2, eS], g1, ⟨b1, b2, b3, b4, b5, b6, fun q hq => ?_⟩, a5, a6, a7, a8, a9, a10⟩
  rcases List.mem_cons.mp hq with rfl | hq
  · show D.OP o ty H [zk_n _ v, zk_n _ w, zk_n _ _]
    rw [hD.1 o ho, zk_n_new hvn, zk_n_new hwn, ← zk_e1 hv, ← zk_e1 hw, hx r h.2.2.1]
    obtain ⟨-, e1⟩ := zk_kt1 g2
    rw [e1]
  · exact b7 q hq
theorem zk_row_recI (hD : zk_rc D) {o : Nat} (ho : o ∈ [25, 26, 27, 28]) {v w : zV} {S : List zV} {n : Nat} (hok : zk_ok E.2.1.1 A = true) (hS : A.2.1 = w :: v :: S) (hv : v.1 = 0) (hw : w.1 = 0) {x : (Nat → Int) → Int32} (hx : ∀ r : Nat → Int, zk_P r A.2.2.1 → zk_f (zk_ro o) (zk_c r v) (zk_c r w) = some (.int (x r)))
    (row : ∀ {H : Heap} {locs : List Loc} {cells slots : Nat} {ls : Array Slot} {r : Nat → Int}, zk_P r A.2.2.1 → (W p l e R s m args below meth c H locs cells slots Q (F0 m n ls (.int (x r) :: S.map (zk_c r))) → W p l e R s m args below meth c H locs cells slots Q (F0 m pc ls (zk_c r w :: zk_c r v :: S.map (zk_c r)))))
    (k : zk_W p l e R s m args below meth c Q D E n (zk_apO o v w (zk_bin (zk_ro o) A.2.2.2.2.1 A.2.2.1 v w) S A)) : zk_W p l e R s m args below meth c Q D E pc A := by
  intro r ty H locs ls st h
  have h2 := h.2.1
  subst h2
  have hvn := zk_okS hok (v := v) (by rw [hS]; simp)
  have hwn := zk_okS hok (v := w) (by rw [hS]; simp)
  obtain ⟨z, g1, g2, g3⟩ := zk_bin_ok (zk_okP hok) h.2.2.1 h.2.2.2.2.2.2.1 hvn hwn (hx r h.2.2.1)
  rw [hS, List.map_cons, List.map_cons]
  refine row h.2.2.1 ?_
  have hn := zk_I_new (r' := zk_u r A.2.2.2.2.1 z) hok (fun y hy => zk_u_ne hy) h
  have eS : S.map (zk_c (zk_u r A.2.2.2.2.1 z)) = S.map (zk_c r) := by
    apply List.map_congr_left
    intro u hu
    exact zk_c_new (zk_okS hok (by rw [hS]; simp [hu]))
  refine k (zk_u r A.2.2.2.2.1 z) ty H locs ls (.int (x r) :: S.map (zk_c r)) ?_
  obtain ⟨a1, a2, a3, ⟨b1, b2, b3, b4, b5, b6, b7⟩, a5, a6, a7, a8, a9, a10⟩ := hn
  refine ⟨a1, by show _ :: _ = (_ :: S).map _; rw [List.map_cons, g2, eS], g1, ⟨b1, b2, b3, b4, b5, b6, fun q hq => ?_⟩, a5, a6, a7, a8, a9, a10⟩
  rcases List.mem_cons.mp hq with rfl | hq
  · show D.OP o ty H [zk_n _ v, zk_n _ w, zk_n _ _]
    rw [hD.2.2 o ho, zk_n_new hvn, zk_n_new hwn, ← zk_e0 hv, ← zk_e0 hw, hx r h.2.2.1]
    obtain ⟨-, e1⟩ := zk_kt0 g2
    rw [e1]
  · exact b7 q hq
theorem zk_XTr_ok {n0 : Nat} (hn0 : n0 = E.2.1.1) (hx : p.tables.exec = Jvm.exec) (hb : c.code = cc) (hD : zk_rc D) : zk_XT p l e R s m args below meth c Q cc D E (zk_XTr n0) := by
  intro K hK pc A i len hd h
  unfold zk_XTr at h
  split at h
  rotate_left
  · cases h
  rename_i w v S hS
  rcases Bool.or_eq_true _ _ ▸ h with h | h
  · simp only [Bool.and_eq_true, decide_eq_true_eq] at h
    obtain ⟨hv, hw, hok, h⟩ := h
    rw [hn0] at hok
    split at h
    · exact zk_row_recI hD (o := 25) (by decide) hok hS hv hw (fun r _ => by rw [zk_e0 hv, zk_e0 hw]; rfl) (fun hP kk => by rw [zk_e0 hv, zk_e0 hw]; exact lv_isub hx hb hd kk) (hK _ _ h)
    · exact zk_row_recI hD (o := 26) (by decide) hok hS hv hw (fun r _ => by rw [zk_e0 hv, zk_e0 hw]; rfl) (fun hP kk => by rw [zk_e0 hv, zk_e0 hw]; exact lv_iadd hx hb hd kk) (hK _ _ h)
    · exact zk_row_recI hD (o := 27) (by decide) hok hS hv hw (fun r _ => by rw [zk_e0 hv, zk_e0 hw]; rfl) (fun hP kk => by rw [zk_e0 hv, zk_e0 hw]; exact lv_imul hx hb hd kk) (hK _ _ h)
    · simp only [Bool.and_eq_true] at h
      exact zk_row_recI hD (o := 28) (by decide) hok hS hv hw (fun r _ => by rw [zk_e0 hv, zk_e0 hw]; rfl) (fun hP kk => by rw [zk_e0 hv, zk_e0 hw]; exact lv_irem hx hb hd (zk_nz32 hP hw h.1) kk) (hK _ _ h.2)
    · cases h
  simp only [Bool.and_eq_true, decide_eq_true_eq] at h
  obtain ⟨hv, hw, hok, h⟩ := h
  rw [hn0] at hok
  split at h
  · exact zk_row_rec hD (o := 21) (by decide) hok hS hv hw (fun r _ => by rw [zk_e1 hv, zk_e1 hw]; rfl) (fun hP kk => by rw [zk_e1 hv, zk_e1 hw]; exact lv_lsub hx hb hd kk) (hK _ _ h)
  · exact zk_row_rec hD (o := 22) (by decide) hok hS hv hw (fun r _ => by rw [zk_e1 hv, zk_e1 hw]; rfl) (fun hP kk => by rw [zk_e1 hv, zk_e1 hw]; exact lv_lmul hx hb hd kk) (hK _ _ h)
  · simp only [Bool.and_eq_true] at h
    exact zk_row_rec hD (o := 23) (by decide) hok hS hv hw (fun r _ => by rw [zk_e1 hv, zk_e1 hw]; rfl) (fun hP kk => by rw [zk_e1 hv, zk_e1 hw]; exact lv_ldiv hx hb hd (zk_nz64 hP hw h.1) kk) (hK _ _ h.2)
  · simp only [Bool.and_eq_true] at h
    exact zk_row_rec hD (o := 24) (by decide) hok hS hv hw (fun r _ => by rw [zk_e1 hv, zk_e1 hw]; rfl) (fun hP kk => by rw [zk_e1 hv, zk_e1 hw]; exact lv_lrem hx hb hd (zk_nz64 hP hw h.1) kk) (hK _ _ h.2)
  · cases h
end
end
section
/-- texts of a method: entries of texts with their types; the entries of length and charAt (0: none) -/
abbrev zTX : Type := List (Nat × Nat) × Nat × Nat
def zk_XTt (TT : Nat → zS) (n0 : Nat) (rm : Room) (TX : zTX) (K : Nat → zA → Bool) (pc : Nat) (A : zA) (i : Instr) (len : Nat) : Bool := match i, len with
  | .ldc x, 2 => (match zk_al TX.1 x with
    | some t => A.2.2.2.1.2.2.2.2.2.contains (0, []) && (zk_ok n0 A && K (pc + 2) (zk_rd 2 ((t : Int), 0) [] [] A.2.1 A))
    | none => false)
  | .invokevirtual x, 3 => decide (x ≠ 0 ∧ 5 ≤ rm.frames ∧ 97 ≤ rm.locals ∧ A.2.2.2.2.2.2.1 ≤ rm.cells ∧ A.2.2.2.2.2.2.2 ≤ rm.slots) && (A.2.2.2.1.2.2.2.2.2.contains (0, []) && (if Nat.beq x TX.2.1 then (match A.2.1 with
      | v :: S => decide (v.1 = 2 ∧ v.2.2 = 0 ∧ (S.map (fun v => if v.1 = 1 then 2 else 1)).sum ≤ 8) && (match zk_rtl A.2.2.2.1.1 v.2.1 with
        | some t => decide (t < 15 ∧ (TT t).1 = 9) && K (pc + 3) (zk_ss ((0, 0, ((zs_len.getD t 0 : Nat) : Int)) :: S) A)
        | none => false)
      | _ => false)
    else if Nat.beq x TX.2.2 then (match A.2.1 with
      | k :: v :: S => decide (k.1 = 0 ∧ k.2.1 = 0 ∧ 0 ≤ k.2.2 ∧ v.1 = 2 ∧ v.2.2 = 0 ∧ (S.map (fun v => if v.1 = 1 then 2 else 1)).sum ≤ 8) && (match zk_rtl A.2.2.2.1.1 v.2.1 with
        | some t => decide (t < 15 ∧ (TT t).1 = 9 ∧ k.2.2.toNat < zs_len.getD t 0) && K (pc + 3) (zk_ss ((0, 0, zs_ch t k.2.2.toNat) :: S) A)
        | none => false)
      | _ => false)
    else false))
  | _, _ => false
def zk_txok (own : String) (TX : zTX) : Prop := (∀ x t, zk_al TX.1 x = some t → ∃ q ∈ zk_str, q.1 = own ∧ q.2.1 = x ∧ q.2.2.2 = t) ∧ (TX.2.1 ≠ 0 → Cond.methodLink own TX.2.1 zs_lenm.y ∈ zw) ∧ (TX.2.2 ≠ 0 → Cond.methodLink own TX.2.2 zs_cat.y ∈ zw)
def zk_txb (own : String) (TX : zTX) (p : Nat × Nat) : Bool := TX.1.all (fun z => zk_str.any (fun q => decide (q.1 = own ∧ q.2.1 = z.1 ∧ q.2.2.2 = z.2))) && ((decide (TX.2.1 = 0) || zk_wb (Cond.methodLink own TX.2.1 zs_lenm.y) p.1) && (decide (TX.2.2 = 0) || zk_wb (Cond.methodLink own TX.2.2 zs_cat.y) p.2))
theorem zk_txb_ok {own : String} {TX : zTX} {p : Nat × Nat} (h : zk_txb own TX p = true) : zk_txok own TX := by
  simp only [zk_txb, Bool.and_eq_true, Bool.or_eq_true, decide_eq_true_eq, List.all_eq_true, List.any_eq_true] at h
  obtain ⟨h1, h2, h3⟩ := h
  refine ⟨fun x t hx => h1 _ (zk_al_mem hx), fun h => zk_wb_ok (h2.resolve_left h), fun h => zk_wb_ok (h3.resolve_left h)⟩
theorem zs_e1 : ∀ t : Fin 15, Int32.ofInt ((zs_len.getD t.val 0 : Nat) : Int) = Int32.ofNat (zs_len.getD t.val 0) := by decide +kernel
theorem zs_e2 : ∀ t : Fin 15, zs_len.getD t.val 0 ≤ 100 := by decide +kernel
theorem zs_e3 : ∀ (t : Fin 15) (k : Fin 100), k.val < zs_len.getD t.val 0 → (¬ Int32.ofNat k.val < 0) ∧ Int32.ofNat k.val < Int32.ofNat (zs_len.getD t.val 0) ∧ ((((zs_byt.getD t.val []).getD (Int32.ofNat k.val).toNatClampNeg 0) &&& 255).toUInt32 % 65536).toInt32 = Int32.ofInt (zs_ch t.val k.val) ∧ narrow .char (.int (Int32.ofInt (zs_ch t.val k.val))) = .int (Int32.ofInt (zs_ch t.val k.val)) ∧ Int32.ofInt ((k.val : Nat) : Int) = Int32.ofNat k.val := by decide +kernel
section
variable {p : Program} {l : Launch} {e : Env} {s : State} {m : MethodId} {args : Array Value} {below : List Frame} {meth : Method} {c : Code} {D : zD} {cl : List vw_C} {own : String} {Q : State → Prop} {E : zE}
theorem zk_XTt_ok {M0 : zM} {TX : zTX} {n0 : Nat} (hE : E.1 = M0.n) (hn0 : n0 = E.2.1.1) (hx : p.tables.exec = Jvm.exec) (hb : c.code = M0.b) (hml : c.maxLocals = M0.n) (hown : s.vm.findClass own = some m.cls) (hts : ∀ w ∈ zk_ws M0, w.before args s = true) (hk : zk_kn D cl s) (hT : zk_txok own TX) :
    zk_XT p l e M0.rm s m args below meth c Q M0.b D E (zk_XTt D.TT n0 M0.rm TX) := by
  intro K hK pc A i len hd h
  have hw : ∀ w ∈ zw, w.before args s = true := fun w h => hts w (List.mem_cons_of_mem _ h)
  obtain ⟨H0, adK, adV, hS0, hR, hro, hop⟩ := hk.2.2.2.1
  unfold zk_XTt at h
  split at h
  · rename_i x
    split at h
    rotate_left
    · cases h
    rename_i t ht
    simp only [Bool.and_eq_true, List.contains_iff_mem] at h
    obtain ⟨h1, h2, h3⟩ := h
    obtain ⟨q, hq, q1, q2, q3⟩ := hT.1 x t ht
    obtain ⟨r1, r2⟩ := hR q hq
    rw [q1, q2, q3] at r2
    rw [q3] at r1
    intro r ty H locs ls st I
    have hst := I.2.1
    have ho := (hop ty H (I.2.2.2.1.2.2.2.2.2.2 _ h1)).1 t r1
    subst hst
    refine va_ldcS hx hb hown r2 hd ?_
    exact hK _ _ h3 _ ty H locs ls _ (zk_I_rd (z := ((adK t : Nat) : Int)) (hn0 ▸ h2) I (fun _ z => z) (by rw [if_pos rfl]; exact ⟨by omega, by simpa using ho⟩) (fun q h => by cases h) (fun q h => by cases h))
  · rename_i x
    simp only [Bool.and_eq_true, List.contains_iff_mem, decide_eq_true_eq] at h
    obtain ⟨⟨hx0, hfr, hlo, hce, hsl⟩, h1, h⟩ := h
    have hgo : ∀ (r : Nat → Int) (ty : Nat → Nat) (H : Heap) (locs : List Loc) (ls : Array Slot) (st : List Value) (v : zV) (t : Nat), zk_I D E A r ty H locs ls st → (v.1 = 2 ∧ v.2.2 = 0) → zk_rtl A.2.2.2.1.1 v.2.1 = some t → t < 15 → (D.TT t).1 = 9 → zk_c r v = .ref (adK t) ∧ zs_S adK adV (fun q => D.ba ≤ q) s H := by
      intro r ty H locs ls st v t I hv ht hlt h9
      have g1 := I.2.2.2.1.1 _ (zk_rtl_mem ht)
      have g2 := I.2.2.2.2.1.2 _ _ g1.2
      rw [if_pos h9] at g2
      refine ⟨by rw [zk_ref hv, hro t _ hlt g2.1], (hop ty H (I.2.2.2.1.2.2.2.2.2.2 _ h1)).2 s hS0⟩
    have hsum : ∀ (r : Nat → Int) (S : List zV), (S.map (fun v => if v.1 = 1 then 2 else 1)).sum ≤ 8 → ((S.map (zk_c r)).map fun v => v.category).sum ≤ 8 := by
      intro r S hS
      have hq : ((S.map (zk_c r)).map fun v => v.category).sum = (S.map (fun v => if v.1 = 1 then 2 else 1)).sum := by
        rw [List.map_map]
        congr 1
        apply List.map_congr_left
        intro v _
        simp only [Function.comp]
        by_cases h : v.1 = 1
        · rw [if_pos h, zk_cat2 h]
        · rw [if_neg h, zk_cat1 h]
      rw [hq]; exact hS
    split at h
    · rename_i hxl
      have hxl := Nat.eq_of_beq_eq_true hxl
      split at h
      rotate_left
      · cases h
      rename_i v S hS
      simp only [Bool.and_eq_true, decide_eq_true_eq] at h
      obtain ⟨⟨hv1, hv2, hv3⟩, h⟩ := h
      split at h
      rotate_left
      · cases h
      rename_i t ht
      simp only [Bool.and_eq_true, decide_eq_true_eq] at h
      obtain ⟨⟨hlt, h9⟩, h⟩ := h
      intro r ty H locs ls st I
      obtain ⟨hr, hSS⟩ := hgo r ty H locs ls st v t I ⟨hv1, hv2⟩ ht hlt h9
      have hst := I.2.1
      rw [hS, List.map_cons, hr] at hst
      obtain ⟨cell, c1, c2, c3, -⟩ := (hSS.1.1 t hlt).1
      refine W.callX (W.runV (As := []) (rest := S.map (zk_c r)) (C := "java/lang/String") ⟨hx, hb, hml, hown, hts⟩ (zs_lenm_ok (l := l) (adK := adK) (adV := adV) (A := fun q => D.ba ≤ q) hlt) ⟨zs_B (n := 0) hts zs_w_c_lenm zs_w_n_S (by rw [hxl]; exact hT.2.1 (by rw [← hxl]; exact hx0)) ⟨rfl, rfl⟩ (by decide +kernel) ⟨by show 2 + 1 ≤ _; omega, by show 8 + (1 + 11) + 32 ≤ _; omega⟩, hw _ zs_w_i_lenm, hw _ zs_w_s_lenm⟩ ⟨zs_blind, ⟨cell, c1, c2, c3⟩, fun U hU hW => zs_at hSS U hU hW⟩ rfl rfl (by rw [← hE]; exact I.1.1) hst (by show 2 * 0 + _ ≤ 8; have := hsum r S hv3; omega) hd ⟨by omega, by omega⟩) (fun x h => h.elim) (fun v9 st9 t9 k1 k2 => ?_)
      obtain ⟨h3, h4⟩ := k2
      cases h3
      rw [h4, k1]
      have hq := hK _ _ h r ty H locs ls _ (zk_I_ss I)
      have e1 : zk_c r (0, 0, ((zs_len.getD t 0 : Nat) : Int)) = .int (Int32.ofNat (zs_len.getD t 0)) := by
        have := zs_e1 ⟨t, hlt⟩
        unfold zk_c zk_n
        dsimp only at this ⊢
        rw [I.2.2.2.2.2.2.1, Int.zero_add]
        show Value.int _ = _
        rw [this]
      rw [List.map_cons, e1] at hq
      exact hq
    · split at h
      rotate_left
      · cases h
      rename_i hxl
      have hxl := Nat.eq_of_beq_eq_true hxl
      split at h
      rotate_left
      · cases h
      rename_i k v S hS
      simp only [Bool.and_eq_true, decide_eq_true_eq] at h
      obtain ⟨⟨hk1, hk2, hk3, hv1, hv2, hv3⟩, h⟩ := h
      split at h
      rotate_left
      · cases h
      rename_i t ht
      simp only [Bool.and_eq_true, decide_eq_true_eq] at h
      obtain ⟨⟨hlt, h9, hkl⟩, h⟩ := h
      intro r ty H locs ls st I
      obtain ⟨hr, hSS⟩ := hgo r ty H locs ls st v t I ⟨hv1, hv2⟩ ht hlt h9
      have h82 := zs_e2 ⟨t, hlt⟩
      dsimp only at h82
      obtain ⟨z1, z2, z3, z4, z5⟩ := zs_e3 ⟨t, hlt⟩ ⟨k.2.2.toNat, by omega⟩ hkl
      dsimp only at z1 z2 z3 z4 z5
      have hkc : zk_c r k = .int (Int32.ofNat k.2.2.toNat) := by
        unfold zk_c zk_n
        rw [hk1, hk2, I.2.2.2.2.2.2.1, Int.zero_add]
        show Value.int _ = _
        rw [← z5]
        congr 2
        omega
      have hst := I.2.1
      rw [hS, List.map_cons, List.map_cons, hr, hkc] at hst
      obtain ⟨cell, c1, c2, c3, -⟩ := (hSS.1.1 t hlt).1
      refine W.callX (W.runV (As := [.int (Int32.ofNat k.2.2.toNat)]) (rest := S.map (zk_c r)) (C := "java/lang/String") ⟨hx, hb, hml, hown, hts⟩ (zs_cat_ok (l := l) (adK := adK) (adV := adV) (A := fun q => D.ba ≤ q) hlt hkl z1 z2 (vp_in_nI hkl (by omega)) z3 z4) ⟨zs_B (n := 1) hts zs_w_c_cat zs_w_n_S (by rw [hxl]; exact hT.2.2 (by rw [← hxl]; exact hx0)) ⟨rfl, rfl⟩ (by decide +kernel) ⟨by show 4 + 1 ≤ _; omega, by show 8 + (2 + 11) + 76 ≤ _; omega⟩, hw _ zs_w_i_cat, hw _ zs_w_s_cat⟩ ⟨zs_blind, ⟨cell, c1, c2, c3⟩, fun U hU hW => zs_at hSS U hU hW⟩ rfl rfl (by rw [← hE]; exact I.1.1) hst (by show 2 * 0 + _ ≤ 8; have := hsum r S hv3; omega) hd ⟨by omega, by omega⟩) (fun x h => h.elim) (fun v9 st9 t9 k1 k2 => ?_)
      obtain ⟨h3, h4⟩ := k2
      cases h3
      rw [h4, k1]
      have hq := hK _ _ h r ty H locs ls _ (zk_I_ss I)
      have e1 : zk_c r (0, 0, zs_ch t k.2.2.toNat) = .int (Int32.ofInt (zs_ch t k.2.2.toNat)) := by
        unfold zk_c zk_n
        dsimp only
        rw [I.2.2.2.2.2.2.1, Int.zero_add]
        rfl
      rw [List.map_cons, e1] at hq
      exact hq
  · cases h
end
/-- hints of a method: annotations, freezes, lemmas, types of new arrays, texts, first measure -/
abbrev zH : Type := List (Nat × List zA) × List (Nat × List (Nat × Nat)) × List (Nat × List (Nat × Nat × Int)) × List (Nat × Nat) × zTX × Int
def zk_XTb (TT : Nat → zS) (PF : Nat → List (Nat × Nat)) (PB : Nat → List Nat) (M : zM) (L : zL) (HX : List zX) (TX : zTX) : (Nat → zA → Bool) → Nat → zA → Instr → Nat → Bool := fun K pc A i len => zk_XTc TT PF M.cs.2.2.2.1.1 PB M.cs.2.2.2.1.2 M.rt M.rm M.cs L.2.2.2.2.2 HX K pc A i len || (zk_XTt TT M.cs.1.1 M.rm TX K pc A i len || zk_XTr M.cs.1.1 K pc A i len)
def zk_ex (cl : List vw_C) (ft : Nat → Nat → FieldType) (TT : Nat → zS) (PF : Nat → List (Nat × Nat)) (PB : Nat → List Nat) (SU : zSU) (L : zL) (oc : Nat) (ini : Bool) (M : zM) (FTl : List (Nat × List (Nat × Instr × Nat))) (h : zH) (UL : Nat → Nat → zA → List zA) (HX : List zX) (fuel : Nat) : Nat → zA → Bool :=
  zk_exec cl ft TT PF PB SU (zk_al L.1) (zk_al L.2.1) (zk_al L.2.2.1) (zk_al L.2.2.2.1) (zk_al L.2.2.2.2.1) oc ini M.n M.cs.1.1 M.rm.cells M.rm.slots M.cs.2.2.2.1.1 M.cs.2.2.2.1.2 (zk_bl FTl) (zk_ans h.1) (zk_fzs h.2.1) (zk_fzs h.2.2.1) UL (zk_al h.2.2.2.1) (zk_XTb TT PF PB M L HX h.2.2.2.2.1) fuel
def zk_run (cl : List vw_C) (ft : Nat → Nat → FieldType) (TT : Nat → zS) (PF : Nat → List (Nat × Nat)) (PB : Nat → List Nat) (SU : zSU) (L : zL) (oc : Nat) (ini : Bool) (M : zM) (FTl : List (Nat × List (Nat × Instr × Nat))) (h : zH) (UL : Nat → Nat → zA → List zA) (HX : List zX) (fuel : Nat) : Bool :=
  zk_ex cl ft TT PF PB SU L oc ini M FTl h UL HX fuel 0 (zk_A0 M.cs h.2.2.2.2.2) && h.1.all (fun q => q.2.all (fun B => zk_ex cl ft TT PF PB SU L oc ini M FTl h UL HX fuel q.1 B && zk_pos B.2.2.1 (B.2.2.2.2.2.1.1, B.2.2.2.2.2.1.2 + 1)))
def zk_idb (cl : List vw_C) (own : String) (oc : Nat) (ini : Bool) (M : zM) : Bool := plainFor M.y && (decide (M.y.cls = own) && ((!ini || (decide (own = zk_cn cl oc) && decide (M.y.name = "<init>"))) && decide (zk_ln M.cs.2.1.1 ≤ M.n)))
def zk_noUL : Nat → Nat → zA → List zA := fun _ _ A => [A]
theorem zk_noUL_ok {D : zD} {E : zE} : zk_ULok D E zk_noUL := fun _ A r _ _ _ _ _ I => ⟨A, List.mem_singleton.mpr rfl, r, I, rfl⟩
theorem zk_meth {D : zD} {cl : List vw_C} {ft : Nat → Nat → FieldType} {TT : Nat → zS} {PF : Nat → List (Nat × Nat)} {PB : Nat → List Nat} {SU : zSU} {l : Launch} {L : zL} {own : String} {oc : Nat} {ini : Bool} {M : zM} {FTl : List (Nat × List (Nat × Instr × Nat))} {h : zH} {UL : Nat → Nat → zA → List zA} {HX : List zX} {fuel : Nat}
    (hQ : zk_fr D ∨ (h.2.1 = [] ∧ h.2.2.2.1 = [])) (hD : zk_wd D cl ft TT PF PB SU UL) (hL : zk_pool cl own L) (hid : zk_idb cl own oc ini M = true) (hTX : zk_txok own h.2.2.2.2.1) (hFT : zk_ftb M.b FTl = true) (hC : ∀ x ∈ HX, zk_con D cl l x.2.2.2.y (zk_ws x.2.2.2) x.2.2.2.rm x.2.2.2.cs ∧ zk_hw cl own M.rm x) (hrun : zk_run cl ft TT PF PB SU L oc ini M FTl h UL HX fuel = true) : zk_con D cl l M.y (zk_ws M) M.rm M.cs := by
  obtain ⟨d1, d2, d3, hUL, hrc, d4⟩ := hD
  simp only [zk_idb, Bool.and_eq_true, decide_eq_true_eq, Bool.or_eq_true, Bool.not_eq_true'] at hid
  obtain ⟨i1, i2, i3, i4⟩ := hid
  simp only [zk_run, Bool.and_eq_true] at hrun
  obtain ⟨r1, r2⟩ := hrun
  unfold zk_ex at r1 r2
  subst d1
  refine zk_con_of (FX := zk_al L.1) (CX := zk_al L.2.1) (LX := zk_al L.2.2.1) (NX := zk_al L.2.2.2.1) (NA := zk_al L.2.2.2.2.1) (oc := oc) (ini := ini) (FT := zk_bl FTl) (AN := zk_ans h.1) (FZ := zk_fzs h.2.1) (LM := zk_fzs h.2.2.1) (UL := UL) (AT := zk_al h.2.2.2.1) (XT := zk_XTb D.TT PF PB M L HX h.2.2.2.2.1) (M := h.2.2.2.2.2) (fuel := fuel) (ft := ft) (PF := PF) (PB := PB) (SU := SU) (maxL := M.n) (rt := M.rt) (cc := M.b) (own := own) (hQ.imp_right (fun z => ⟨fun pc => by rw [z.1]; rfl, fun pc => by rw [z.2]; rfl⟩)) i1 rfl i2 d4 d2 d3 (zk_ftb_ok hFT) ?_ ?_ i4 ?_ ?_ (fun r ty H M => hUL _) ?_ r1
  · intro hi; rcases i3 with i3 | i3
    · rw [i3] at hi; cases hi
    · exact i3.1
  · intro hi; rcases i3 with i3 | i3
    · rw [i3] at hi; cases hi
    · exact i3.2
  · intro s args hw
    exact hL.1 s args (fun w h => hw w (List.mem_cons_of_mem _ h))
  · intro p e s m args below meth c r ty M' hx hb hml hown hts hk hr hlocks
    intro K hK pc A i len hd hh
    rcases Bool.or_eq_true _ _ ▸ hh with hh | hh
    · exact zk_XTc_ok hx hb hml hown hts hk hr hlocks d3.1 hL.2 hC K hK pc A i len hd hh
    · rcases Bool.or_eq_true _ _ ▸ hh with hh | hh
      · exact zk_XTt_ok rfl rfl hx hb hml hown hts hk hTX K hK pc A i len hd hh
      · exact zk_XTr_ok rfl hx hb hrc K hK pc A i len hd hh
  · intro n Bn hBn
    unfold zk_ans at hBn
    split at hBn
    · cases hBn
    · rename_i l' hl
      have h1 := List.all_eq_true.mp r2 _ (zk_al_mem hl)
      have h2 := List.all_eq_true.mp h1 _ hBn
      simp only [Bool.and_eq_true] at h2
      exact h2
def zk_noSU : zSU := fun _ _ => []
theorem zk_noSU_ok {D : zD} {E : zE} : zk_SUok D E zk_noSU := ⟨fun _ _ _ _ _ _ _ _ _ _ _ _ _ _ _ _ _ _ _ _ _ _ _ _ _ q h => (by cases h), fun _ _ _ _ _ _ _ _ _ _ _ _ _ _ _ _ _ _ _ _ _ _ _ _ _ _ _ q h => (by cases h)⟩
end
section
/-! THE CHECKER, 35: rules: further facts about what places hold. A rule looks for facts, known places (1, type), known fields (2, type, field) and locals (3, local), checks differences of their numbers, and makes a fact at a store, or splits a state between steps. -/
/-- what a place holds, as a number -/
def zi (H : Heap) (a k : Nat) : Int := match H[a]? with
  | some c => (match c.slots[k]? with
    | some (.int x) => x.toInt
    | some (.long x) => x.toInt
    | some (.ref b) => (b : Int)
    | _ => 0)
  | none => 0
def zr_rg (A : zA) (v : zV) : Bool := if v.1 = 0 then zk_inb A.2.2.1 v (-2147483648) 2147483647 else if v.1 = 1 then zk_inb A.2.2.1 v (-9223372036854775808) 9223372036854775807 else decide (v.1 = 2 ∧ v.2.2 = 0) && (zk_rtl A.2.2.2.1.1 v.2.1).isSome
abbrev zRp : Type := Nat × Nat × Nat
/-- the numbers of what is looked for -/
def zr_cd (TT : Nat → zS) (A : zA) (p : zRp) : List (List zV) :=
  if p.1 = 0 then A.2.2.2.1.2.2.2.2.2.filterMap (fun q => if Nat.beq q.1 p.2.1 then some q.2 else none)
  else if p.1 = 1 then A.2.2.2.1.2.2.1.filterMap (fun q => if Nat.beq q.2.1 p.2.1 && (zr_rg A q.2.2.2 && (zk_rtl A.2.2.2.1.1 q.1).isSome) then some [(2, q.1, 0), q.2.2.1, q.2.2.2] else none)
  else if p.1 = 3 then (match zk_find A.1 p.2.1 with | some v => [[v]] | none => [])
  else A.2.2.2.1.2.1.filterMap (fun q => match zk_rtl A.2.2.2.1.1 q.1 with
    | some t => if Nat.beq t p.2.1 && (Nat.beq q.2.1 (TT t).2.1 && (Nat.beq q.2.2.1 p.2.2 && zr_rg A q.2.2.2)) then some [(2, q.1, 0), q.2.2.2] else none
    | none => none)
def zr_cb (TT : Nat → zS) (A : zA) : List zRp → List (List (List zV))
  | [] => [[]]
  | p :: ps => (zr_cd TT A p).flatMap (fun l => (zr_cb TT A ps).map (fun L => l :: L))
def zr_g (e : List zV) (k : Nat) : zV := e.getD k (0, 0, 0)
def zr_cq (P : zP) (e : List zV) (cs : List (Nat × Nat × Int)) : Bool := cs.all (fun c => zk_leb P (zr_g e c.1) (zr_g e c.2.1) c.2.2)
def zr_t (e : List zV) (t : Nat × Int) : zV := ((zr_g e t.1).1, (zr_g e t.1).2.1, (zr_g e t.1).2.2 + t.2)
abbrev zRf : Type := Nat × List (Nat × Int)
def zr_f (e : List zV) (f : zRf) : Nat × List zV := (f.1, f.2.map (zr_t e))
/-- a rule at a store: (0, type, field) or (1, type, 0); numbers 0: 0, 1: what is written, 2: the cell, 3: the index (of an array) -/
abbrev zRs : Type := (Nat × Nat × Nat) × List zRp × List (Nat × Nat × Int) × zRf
/-- a rule between steps: its number, what is looked for, differences, then one of: differences and facts -/
abbrev zRu : Type := Nat × List zRp × List (Nat × Nat × Int) × List (List (Nat × Nat × Int) × List zRf)
def zr_hd (key : Nat × Nat × Nat) (S : List zV) : Option (List zV) := match S with
  | w :: x :: S => if key.1 = 0 then some [(0, 0, 0), w, x] else (match S with | v :: _ => some [(0, 0, 0), w, v, x] | [] => none)
  | _ => none
def zr_s1 (TT : Nat → zS) (R : zRs) (h : List zV) (A : zA) : List (Nat × List zV) := match (zr_cb TT A R.2.1).find? (fun L => zr_cq A.2.2.1 (h ++ L.flatten) R.2.2.1) with
  | some L => [zr_f (h ++ L.flatten) R.2.2.2]
  | none => []
def zr_SU (TT : Nat → zS) (Rs : List zRs) : zSU := fun key A => match zr_hd key A.2.1 with
  | none => []
  | some h => if zr_rg A (zr_g h 1) && (zk_rtl A.2.2.2.1.1 (zr_g h 2).2.1).isSome then Rs.flatMap (fun R => if R.1 = key then zr_s1 TT R h A else []) else []
def zr_le (e : List zV) : List (Nat × Nat × Int) → zP → Option zP
  | [], P => some P
  | c :: cs, P => match zk_le P (zr_g e c.1) (zr_g e c.2.1) c.2.2 with | none => none | some P' => zr_le e cs P'
def zr_ap (e : List zV) (alt : List (Nat × Nat × Int) × List zRf) (A : zA) : List zA := match zr_le e alt.1 A.2.2.1 with
  | none => []
  | some P => [(A.1, A.2.1, P, (A.2.2.2.1.1, A.2.2.2.1.2.1, A.2.2.2.1.2.2.1, A.2.2.2.1.2.2.2.1, A.2.2.2.1.2.2.2.2.1, alt.2.map (zr_f e) ++ A.2.2.2.1.2.2.2.2.2), A.2.2.2.2)]
def zr_u1 (TT : Nat → zS) (R : zRu) (A : zA) : List zA := match (zr_cb TT A R.2.1).find? (fun L => zr_cq A.2.2.1 ((0, 0, 0) :: L.flatten) R.2.2.1) with
  | some L => R.2.2.2.flatMap (fun alt => zr_ap ((0, 0, 0) :: L.flatten) alt A)
  | none => [A]
def zr_UL (TT : Nat → zS) (Rs : List zRu) (j : Nat) (A : zA) : List zA := match Rs.find? (fun R => Nat.beq R.1 j) with
  | some R => zr_u1 TT R A
  | none => [A]
/-- what is looked for, said of the heap -/
def zr_pr (D : zD) (ty : Nat → Nat) (H : Heap) (p : zRp) (vs : List Int) : Prop :=
  if p.1 = 0 then D.OP p.2.1 ty H vs
  else if p.1 = 1 then ∃ x i v : Int, vs = [x, i, v] ∧ 0 ≤ x ∧ ty x.toNat = p.2.1 + 1 ∧ 0 ≤ i ∧ zi H x.toNat i.toNat = v
  else if p.1 = 3 then ∃ v : Int, vs = [v]
  else ∃ x v : Int, vs = [x, v] ∧ 0 ≤ x ∧ ty x.toNat = p.2.1 + 1 ∧ zi H x.toNat (D.dI (D.TT p.2.1).2.1 p.2.2) = v
def zr_all (D : zD) (ty : Nat → Nat) (H : Heap) : List zRp → List (List Int) → Prop
  | [], [] => True
  | p :: ps, l :: ls => zr_pr D ty H p l ∧ zr_all D ty H ps ls
  | _, _ => False
def zr_cs (es : List Int) (cs : List (Nat × Nat × Int)) : Prop := ∀ c ∈ cs, es.getD c.1 0 ≤ es.getD c.2.1 0 + c.2.2
def zr_ft (D : zD) (ty : Nat → Nat) (H : Heap) (es : List Int) (f : zRf) : Prop := D.OP f.1 ty H (f.2.map (fun t => es.getD t.1 0 + t.2))
def zr_okS (D : zD) (R : zRs) : Prop := ∀ (ty : Nat → Nat) (H H' : Heap) (w a : Int) (i : Nat) (hd : List Int) (Ls : List (List Int)), zk_T D ty H → zk_T D ty H' → 0 ≤ a → ty a.toNat = R.1.2.1 + 1 →
  (if R.1.1 = 0 then hd = [0, w, a] ∧ i = D.dI (D.TT R.1.2.1).2.1 R.1.2.2 else hd = [0, w, a, (i : Int)]) → zr_all D ty H R.2.1 Ls → zr_cs (hd ++ Ls.flatten) R.2.2.1 → zi H' a.toNat i = w → (∀ b k, ¬ (b = a.toNat ∧ k = i) → zi H' b k = zi H b k) → zr_ft D ty H' (hd ++ Ls.flatten) R.2.2.2
def zr_okU (D : zD) (R : zRu) : Prop := ∀ (ty : Nat → Nat) (H : Heap) (Ls : List (List Int)), zk_T D ty H → zr_all D ty H R.2.1 Ls → zr_cs (0 :: Ls.flatten) R.2.2.1 → ∃ alt ∈ R.2.2.2, zr_cs (0 :: Ls.flatten) alt.1 ∧ ∀ f ∈ alt.2, zr_ft D ty H (0 :: Ls.flatten) f
section
variable {D : zD} {E : zE} {A : zA} {r : Nat → Int} {ty : Nat → Nat} {H H' : Heap} {locs : List Loc} {ls : Array Slot} {st : List Value}
theorem zi_of {a k : Nat} {cell : Cell} {v : zV} (hc : H[a]? = some cell) (hs : cell.slots[k]? = some (zk_c r v)) (hP : zk_P r A.2.2.1) (hrt : ∀ q ∈ A.2.2.2.1.1, zk_rt r ty q) (hg : zr_rg A v = true) : zi H a k = zk_n r v := by
  unfold zi
  rw [hc]
  dsimp only
  rw [hs]
  unfold zr_rg at hg
  split at hg
  · rename_i h
    rw [zk_e0 h]
    have := zk_inb_ok hP hg
    exact zk_i32 this.1 this.2
  · split at hg
    · rename_i h
      rw [zk_e1 h]
      have := zk_inb_ok hP hg
      exact zk_i64 this.1 this.2
    · simp only [Bool.and_eq_true, decide_eq_true_eq] at hg
      obtain ⟨h1, h2⟩ := hg
      rw [zk_ref h1]
      dsimp only
      obtain ⟨t, ht⟩ := Option.isSome_iff_exists.mp h2
      have h3 := (hrt _ (zk_rtl_mem ht)).1
      dsimp only at h3
      unfold zk_n
      omega
theorem zr_cd_ok (I : zk_I D E A r ty H locs ls st) {p : zRp} {l : List zV} (h : l ∈ zr_cd D.TT A p) : zr_pr D ty H p (l.map (zk_n r)) := by
  obtain ⟨g1, g2, g3, g4, g5, g6, g7⟩ := I.2.2.2.1
  unfold zr_cd at h
  unfold zr_pr
  split at h
  · rename_i h0
    rw [if_pos h0]
    obtain ⟨q, hq, e⟩ := List.mem_filterMap.mp h
    split at e
    · rename_i e1
      cases e
      rw [← Nat.eq_of_beq_eq_true e1]
      exact g7 q hq
    · cases e
  · rename_i h0
    rw [if_neg h0]
    split at h
    · rename_i h1
      rw [if_pos h1]
      obtain ⟨q, hq, e⟩ := List.mem_filterMap.mp h
      split at e
      · rename_i e1
        cases e
        simp only [Bool.and_eq_true] at e1
        obtain ⟨u1, u2, u3, cell, w1, w2⟩ := g3 q hq
        refine ⟨_, _, _, rfl, ?_, ?_, u3, ?_⟩
        · show 0 ≤ r q.1 + 0
          obtain ⟨t, ht⟩ := Option.isSome_iff_exists.mp e1.2.2
          have := (g1 _ (zk_rtl_mem ht)).1
          dsimp only at this
          omega
        · show ty (r q.1 + 0).toNat = _
          rw [Int.add_zero, ← Nat.eq_of_beq_eq_true e1.1]
          exact u1
        · show zi H (r q.1 + 0).toNat _ = _
          rw [Int.add_zero]
          exact zi_of w1 w2 I.2.2.1 g1 e1.2.1
      · cases e
    · rename_i h1
      rw [if_neg h1]
      split at h
      · rename_i h3
        rw [if_pos h3]
        split at h
        · rw [List.mem_singleton.mp h]
          exact ⟨_, rfl⟩
        · cases h
      rename_i h3
      rw [if_neg h3]
      obtain ⟨q, hq, e⟩ := List.mem_filterMap.mp h
      split at e
      · rename_i t ht
        split at e
        · rename_i e1
          cases e
          simp only [Bool.and_eq_true] at e1
          obtain ⟨e1, e2, e3, e4⟩ := e1
          have e1 := Nat.eq_of_beq_eq_true e1
          have e2 := Nat.eq_of_beq_eq_true e2
          have e3 := Nat.eq_of_beq_eq_true e3
          obtain ⟨-, cell, w1, w2⟩ := g2 q hq
          have k := g1 _ (zk_rtl_mem ht)
          refine ⟨_, _, rfl, ?_, ?_, ?_⟩
          · show 0 ≤ r q.1 + 0
            have := k.1
            dsimp only at this
            omega
          · show ty (r q.1 + 0).toNat = _
            rw [Int.add_zero, ← e1]
            exact k.2
          · show zi H (r q.1 + 0).toNat _ = _
            rw [Int.add_zero, ← e1, ← e2, ← e3]
            exact zi_of w1 w2 I.2.2.1 g1 e4
        · cases e
      · cases e
theorem zr_cb_ok (I : zk_I D E A r ty H locs ls st) : ∀ {ps : List zRp} {L : List (List zV)}, L ∈ zr_cb D.TT A ps → zr_all D ty H ps (L.map (fun l => l.map (zk_n r)))
  | [], L, h => by rw [List.mem_singleton.mp h]; trivial
  | p :: ps, L, h => by
    obtain ⟨l, hl, h⟩ := List.mem_flatMap.mp h
    obtain ⟨L', hL', rfl⟩ := List.mem_map.mp h
    exact ⟨zr_cd_ok I hl, zr_cb_ok I hL'⟩
theorem zr_g_ok (h0 : r 0 = 0) (e : List zV) (k : Nat) : (e.map (zk_n r)).getD k 0 = zk_n r (zr_g e k) := by
  unfold zr_g
  rw [List.getD_eq_getElem?_getD, List.getD_eq_getElem?_getD, List.getElem?_map]
  cases e[k]? with
  | none => show (0 : Int) = r 0 + 0; omega
  | some v => rfl
theorem zr_cq_ok (h0 : r 0 = 0) {P : zP} (hP : zk_P r P) {e : List zV} {cs : List (Nat × Nat × Int)} (h : zr_cq P e cs = true) : zr_cs (e.map (zk_n r)) cs := by
  intro c hc
  rw [zr_g_ok h0, zr_g_ok h0]
  exact zk_leb_ok hP (List.all_eq_true.mp h c hc)
theorem zr_f_ok (h0 : r 0 = 0) {e : List zV} {f : zRf} (h : zr_ft D ty H (e.map (zk_n r)) f) : D.OP (zr_f e f).1 ty H ((zr_f e f).2.map (zk_n r)) := by
  have e1 : (zr_f e f).2.map (zk_n r) = f.2.map (fun t => (e.map (zk_n r)).getD t.1 0 + t.2) := by
    show (f.2.map (zr_t e)).map (zk_n r) = _
    rw [List.map_map]
    apply List.map_congr_left
    intro t _
    rw [zr_g_ok h0]
    show r (zr_g e t.1).2.1 + ((zr_g e t.1).2.2 + t.2) = r (zr_g e t.1).2.1 + (zr_g e t.1).2.2 + t.2
    omega
  rw [e1]
  exact h
theorem zr_fl (h : List zV) (L : List (List zV)) : (h ++ L.flatten).map (zk_n r) = h.map (zk_n r) ++ (L.map (fun l => l.map (zk_n r))).flatten := by
  rw [List.map_append, List.map_flatten]
theorem zr_le_ok (h0 : r 0 = 0) {e : List zV} : ∀ {cs : List (Nat × Nat × Int)} {P : zP}, zk_P r P → zr_cs (e.map (zk_n r)) cs → ∃ P', zr_le e cs P = some P' ∧ zk_P r P'
  | [], P, hP, _ => ⟨P, rfl, hP⟩
  | c :: cs, P, hP, h => by
    have h1 := h c List.mem_cons_self
    rw [zr_g_ok h0, zr_g_ok h0] at h1
    obtain ⟨P1, e1, g1⟩ := zk_le_ok hP h1
    obtain ⟨P2, e2, g2⟩ := zr_le_ok h0 g1 (fun c' hc' => h c' (List.mem_cons_of_mem _ hc'))
    refine ⟨P2, ?_, g2⟩
    unfold zr_le
    rw [e1]
    exact e2
theorem zr_UL_ok {Rs : List zRu} (hR : ∀ R ∈ Rs, zr_okU D R) {j : Nat} (I : zk_I D E A r ty H locs ls st) : ∃ A' ∈ zr_UL D.TT Rs j A, ∃ r', zk_I D E A' r' ty H locs ls st ∧ A'.2.2.2.2.2.2 = A.2.2.2.2.2.2 := by
  have hself : ∃ A' ∈ [A], ∃ r', zk_I D E A' r' ty H locs ls st ∧ A'.2.2.2.2.2.2 = A.2.2.2.2.2.2 := ⟨A, List.mem_singleton.mpr rfl, r, I, rfl⟩
  unfold zr_UL
  split
  rotate_left
  · exact hself
  rename_i R hRf
  have hRm := hR R (List.mem_of_find?_eq_some hRf)
  unfold zr_u1
  split
  rotate_left
  · exact hself
  rename_i L hL
  have m1 := List.mem_of_find?_eq_some hL
  have m2 := List.find?_some hL
  have h0 := I.2.2.2.2.2.2.1
  have ez : (((0, 0, 0) : zV) :: L.flatten).map (zk_n r) = 0 :: (L.map (fun l => l.map (zk_n r))).flatten := by
    rw [List.map_cons, List.map_flatten]
    have : zk_n r (0, 0, 0) = 0 := by unfold zk_n; dsimp only; omega
    rw [this]
  have c1 := zr_cq_ok h0 I.2.2.1 m2
  rw [ez] at c1
  obtain ⟨alt, ha, c2, c3⟩ := hRm ty H _ I.2.2.2.2.1 (zr_cb_ok I m1) c1
  rw [← ez] at c2 c3
  obtain ⟨P', e1, g1⟩ := zr_le_ok h0 I.2.2.1 c2
  refine ⟨(A.1, A.2.1, P', (A.2.2.2.1.1, A.2.2.2.1.2.1, A.2.2.2.1.2.2.1, A.2.2.2.1.2.2.2.1, A.2.2.2.1.2.2.2.2.1, alt.2.map (zr_f ((0, 0, 0) :: L.flatten)) ++ A.2.2.2.1.2.2.2.2.2), A.2.2.2.2), List.mem_flatMap.mpr ⟨alt, ha, ?_⟩, r, ?_, rfl⟩
  · unfold zr_ap
    rw [e1]
    exact List.mem_singleton.mpr rfl
  · obtain ⟨a1, a2, a3, ⟨b1, b2, b3, b4, b5, b6, b7⟩, a5⟩ := I
    refine ⟨a1, a2, g1, ⟨b1, b2, b3, b4, b5, b6, fun q hq => ?_⟩, a5⟩
    rcases List.mem_append.mp hq with hq | hq
    · obtain ⟨f, hf, rfl⟩ := List.mem_map.mp hq
      exact zr_f_ok h0 (c3 f hf)
    · exact b7 q hq
theorem zi_ne {a b k : Nat} (h : H'[b]? = H[b]?) : zi H' b k = zi H b k := by unfold zi; rw [h]
theorem zi_set {a i b k : Nat} {x : Value} {cell : Cell} (hc : H[a]? = some cell) (hc' : H'[a]? = some (cell.setSlot i x)) (ho : ∀ q, q ≠ a → H'[q]? = H[q]?) (hn : ¬ (b = a ∧ k = i)) : zi H' b k = zi H b k := by
  by_cases e : b = a
  · subst e
    have hk : i ≠ k := fun z => hn ⟨rfl, z.symm⟩
    unfold zi
    rw [hc, hc']
    dsimp only
    rw [slot_ne _ _ hk]
  · unfold zi; rw [ho b e]
theorem zr_SU_ok {Rs : List zRs} (hR : ∀ R ∈ Rs, zr_okS D R) : zk_SUok D E (zr_SU D.TT Rs) := by
  constructor
  · intro f A r ty H H' locs ls st w v S cell t I hS hv ht htt hc hc' hx hs ho hT' q hq
    unfold zr_SU at hq
    rw [hS] at hq
    simp only [zr_hd, if_true] at hq
    split at hq
    rotate_left
    · cases hq
    rename_i hrg
    simp only [Bool.and_eq_true] at hrg
    obtain ⟨hrg, hrt⟩ := hrg
    obtain ⟨t', ht'⟩ := Option.isSome_iff_exists.mp hrt
    have hrt : 0 ≤ r v.2.1 := (I.2.2.2.1.1 _ (zk_rtl_mem ht')).1
    obtain ⟨R, hRm, hq⟩ := List.mem_flatMap.mp hq
    split at hq
    rotate_left
    · cases hq
    rename_i hkey
    unfold zr_s1 at hq
    split at hq
    rotate_left
    · cases hq
    rename_i L hL
    rw [List.mem_singleton.mp hq]
    have m1 := List.mem_of_find?_eq_some hL
    have m2 := List.find?_some hL
    have h0 := I.2.2.2.2.2.2.1
    have c1 := zr_cq_ok h0 I.2.2.1 m2
    refine zr_f_ok h0 ?_
    rw [zr_fl] at c1 ⊢
    have ez : ([(0, 0, 0), w, v] : List zV).map (zk_n r) = [0, zk_n r w, r v.2.1] := by
      show [r 0 + 0, zk_n r w, r v.2.1 + v.2.2] = _
      rw [h0, hv.2]
      simp
    rw [ez] at c1 ⊢
    obtain ⟨x, hx⟩ := hx
    have hlt := (Array.getElem?_eq_some_iff.mp hx).1
    have hk : t = R.1.2.1 ∧ f.2 = R.1.2.2 ∧ R.1.1 = 0 := by rw [hkey]; exact ⟨rfl, rfl, rfl⟩
    refine hR R hRm ty H H' (zk_n r w) (r v.2.1) (D.dI f.1 f.2) _ _ I.2.2.2.2.1 hT' hrt (by rw [ht, hk.1]) ?_ (zr_cb_ok I m1) c1 ?_ (fun b k hn => zi_set hc hc' ho hn)
    · rw [if_pos hk.2.2]
      exact ⟨rfl, by rw [← hk.1, ← hk.2.1, htt.2.1]⟩
    · refine zi_of (A := A) hc' ?_ I.2.2.1 I.2.2.2.1.1 hrg
      unfold Cell.setSlot
      rw [Array.getElem?_setIfInBounds, if_pos rfl, if_pos hlt]
  · intro t A r ty H H' locs ls st w i v S cell I hS hv ht k0 k9 hc hc' hi hlt hs ho hT' q hq
    unfold zr_SU at hq
    rw [hS] at hq
    simp only [zr_hd, show (1 : Nat) ≠ 0 by decide, if_false] at hq
    split at hq
    rotate_left
    · cases hq
    rename_i hrg
    simp only [Bool.and_eq_true] at hrg
    obtain ⟨hrg, hrt⟩ := hrg
    obtain ⟨t', ht'⟩ := Option.isSome_iff_exists.mp hrt
    have hrt : 0 ≤ r v.2.1 := (I.2.2.2.1.1 _ (zk_rtl_mem ht')).1
    obtain ⟨R, hRm, hq⟩ := List.mem_flatMap.mp hq
    split at hq
    rotate_left
    · cases hq
    rename_i hkey
    unfold zr_s1 at hq
    split at hq
    rotate_left
    · cases hq
    rename_i L hL
    rw [List.mem_singleton.mp hq]
    have m1 := List.mem_of_find?_eq_some hL
    have m2 := List.find?_some hL
    have h0 := I.2.2.2.2.2.2.1
    have c1 := zr_cq_ok h0 I.2.2.1 m2
    refine zr_f_ok h0 ?_
    rw [zr_fl] at c1 ⊢
    have ez : ([(0, 0, 0), w, v, i] : List zV).map (zk_n r) = [0, zk_n r w, r v.2.1, ((zk_n r i).toNat : Int)] := by
      show [r 0 + 0, zk_n r w, r v.2.1 + v.2.2, zk_n r i] = _
      rw [h0, hv.2, Int.toNat_of_nonneg hi]
      simp
    rw [ez] at c1 ⊢
    have hk : t = R.1.2.1 ∧ R.1.1 = 1 := by rw [hkey]; exact ⟨rfl, rfl⟩
    refine hR R hRm ty H H' (zk_n r w) (r v.2.1) (zk_n r i).toNat _ _ I.2.2.2.2.1 hT' hrt (by rw [ht, hk.1]) ?_ (zr_cb_ok I m1) c1 ?_ (fun b k hn => zi_set hc hc' ho hn)
    · rw [if_neg (by rw [hk.2]; decide)]
    · refine zi_of (A := A) hc' ?_ I.2.2.1 I.2.2.2.1.1 hrg
      unfold Cell.setSlot
      rw [Array.getElem?_setIfInBounds, if_pos rfl, if_pos hlt]
end
end
section
/-! THE WORLD: classes, types of cells (printed by wip/tools/emit.py). -/
def zcl : List vw_C := [(RX0, TX0, 7), (RX2, TX2, 5), (RX2, TX2, 5), (RX3, TX3, 14), (RX4, TX4, 7), (RX5, TX5, 4), (RX6, TX6, 7), (RX7, TX7, 5), (RX8, TX8, 8), (RX9, TX9, 5), (RX10, TX10, 7), (RX11, TX11, 16), (RX12, TX12, 73)]
def zft : Nat → Nat → FieldType := fun ci => match ci with
  | 0 => tyX0
  | 1 => tyX2
  | 2 => tyX2
  | 3 => tyX3
  | 4 => tyX4
  | 5 => tyX5
  | 6 => tyX6
  | 7 => tyX7
  | 8 => tyX8
  | 9 => tyX9
  | 10 => tyX10
  | 11 => tyX11
  | _ => tyX12
def zTTl : List zS := [
  /- 0 text0 -/ (9, 0, []),
  /- 1 text1 -/ (9, 1, []),
  /- 2 text2 -/ (9, 2, []),
  /- 3 text3 -/ (9, 3, []),
  /- 4 text4 -/ (9, 4, []),
  /- 5 text5 -/ (9, 5, []),
  /- 6 text6 -/ (9, 6, []),
  /- 7 text7 -/ (9, 7, []),
  /- 8 text8 -/ (9, 8, []),
  /- 9 text9 -/ (9, 9, []),
  /- 10 text10 -/ (9, 10, []),
  /- 11 text11 -/ (9, 11, []),
  /- 12 text12 -/ (9, 12, []),
  /- 13 text13 -/ (9, 13, []),
  /- 14 text14 -/ (9, 14, []),
  /- 15 tval0 -/ (9, 15, []),
  /- 16 tval1 -/ (9, 16, []),
  /- 17 tval2 -/ (9, 17, []),
  /- 18 tval3 -/ (9, 18, []),
  /- 19 tval4 -/ (9, 19, []),
  /- 20 tval5 -/ (9, 20, []),
  /- 21 tval6 -/ (9, 21, []),
  /- 22 tval7 -/ (9, 22, []),
  /- 23 tval8 -/ (9, 23, []),
  /- 24 tval9 -/ (9, 24, []),
  /- 25 tval10 -/ (9, 25, []),
  /- 26 tval11 -/ (9, 26, []),
  /- 27 tval12 -/ (9, 27, []),
  /- 28 tval13 -/ (9, 28, []),
  /- 29 tval14 -/ (9, 29, []),
  /- 30 Tape -/ (0, 8, [(2, [(44, 0)]), (0, [(0, 1200)]), (0, [(0, 1200)]), (0, [(0, 4)]), (0, [(0, 1200)]), (0, [(0, 1200)]), (1, [((-9223372036854775808), 9223372036854775807)]), (0, [((-2147483648), 2147483647)])]),
  /- 31 Names -/ (0, 4, [(2, [(47, 0)]), (2, [(48, 0)]), (2, [(49, 0)]), (2, [(50, 0)]), (2, [(51, 0)]), (0, [(0, 80)]), (0, [(0, 80)])]),
  /- 32 Speller -/ (0, 7, [(2, [(45, 0)]), (2, [(46, 0)]), (0, [(0, 1)]), (0, [(0, 10)]), (0, [((-2147483648), 2147483647)])]),
  /- 33 Way -/ (0, 10, [(2, [(52, 0)]), (2, [(53, 0)]), (2, [(54, 0)]), (2, [(55, 0)]), (2, [(56, 0)]), (2, [(57, 0)]), (0, [(0, 30)])]),
  /- 34 Reader -/ (0, 6, [(2, [(30, 0)]), (0, [(0, 6)]), (0, [((-1), 1200)]), (1, [((-9223372036854775808), 9223372036854775807)]), (0, [((-2147483648), 2147483647)]), (0, [(0, 7)]), (0, [(0, 7)])]),
  /- 35 Turning -/ (0, 9, [(2, [(58, 0)]), (0, [(0, 1)]), (0, [(0, 2)]), (0, [(0, 2147483647)]), (0, [(5, 2147483647)])]),
  /- 36 Bag -/ (0, 2, [(2, [(59, 0)]), (0, [(0, 60)]), (0, [(0, 1)]), (0, [(0, 1)]), (0, [(0, 1)])]),
  /- 37 HandD -/ (0, 3, [(2, [(60, 0)]), (2, [(61, 0)]), (2, [(62, 0)]), (2, [(63, 0)]), (0, [(0, 0)]), (0, [(0, 1)]), (0, [(0, 40)]), (2, [(35, 0)]), (0, [(0, 2147483647)]), (1, [((-9223372036854775808), 9223372036854775807)]), (0, [(0, 1830)]), (0, [((-1), 2)]), (0, [((-2147483648), 2147483647)]), (1, [((-9223372036854775808), 9223372036854775807)])]),
  /- 38 HandT -/ (0, 3, [(2, [(60, 0)]), (2, [(61, 0)]), (2, [(62, 0)]), (2, [(63, 0)]), (0, [(1, 1)]), (0, [(0, 1)]), (0, [(0, 40)]), (2, [(35, 0)]), (0, [(0, 2147483647)]), (1, [((-9223372036854775808), 9223372036854775807)]), (0, [(0, 1830)]), (0, [((-1), 2)]), (0, [((-2147483648), 2147483647)]), (1, [((-9223372036854775808), 9223372036854775807)])]),
  /- 39 PlayD -/ (0, 5, [(2, [(64, 0)]), (0, [(0, 0), (5, 2147483647)]), (0, [((-2147483648), 2147483647)]), (0, [((-2147483648), 2147483647)])]),
  /- 40 PlayT -/ (0, 5, [(2, [(65, 0)]), (0, [((-2147483648), 2147483647)]), (0, [((-2147483648), 2147483647)]), (0, [((-2147483648), 2147483647)])]),
  /- 41 Agreement -/ (0, 0, [(2, [(66, 0)]), (2, [(67, 0)]), (2, [(40, 0)]), (2, [(35, 0)]), (0, [(0, 1)]), (0, [(0, 256)]), (0, [(0, 30)])]),
  /- 42 BothLists -/ (0, 11, [(2, [(30, 0)]), (2, [(34, 0)]), (2, [(32, 0)]), (2, [(32, 0)]), (2, [(68, 0)]), (2, [(33, 0)]), (2, [(33, 0)]), (0, [(5, 2147483647)]), (2, [(69, 0)]), (2, [(70, 0)]), (2, [(71, 0)]), (2, [(39, 0)]), (2, [(72, 0)]), (0, [(0, 1)]), (0, [(0, 40)]), (0, [(0, 400)])]),
  /- 43 BothListsModel -/ (0, 12, [(2, [(73, 0)]), (0, [(0, 1200)]), (0, [(0, 1200)]), (0, [(0, 4)]), (0, [((-1), 13)]), (0, [(0, 1200)]), (0, [(0, 1200)]), (0, [((-2147483648), 2147483647)]), (0, [(0, 6)]), (0, [((-1), 1200)]), (1, [(0, 26), (33, 9223372036854775807)]), (0, [((-2147483648), 2147483647)]), (2, [(74, 0)]), (2, [(75, 0)]), (2, [(76, 0)]), (0, [((-2147483648), 2147483647)]), (0, [((-2147483648), 2147483647)]), (2, [(77, 0)]), (2, [(78, 0)]), (2, [(79, 0)]), (2, [(80, 0)]), (0, [(5, 2147483647)]), (2, [(81, 0)]), (2, [(82, 0)]), (2, [(83, 0)]), (2, [(84, 0)]), (2, [(85, 0)]), (2, [(86, 0)]), (2, [(87, 0)]), (2, [(88, 0)]), (2, [(89, 0)]), (2, [(90, 0)]), (2, [(91, 0)]), (2, [(92, 0)]), (2, [(93, 0)]), (2, [(94, 0)]), (2, [(95, 0)]), (2, [(96, 0)]), (2, [(97, 0)]), (2, [(98, 0)]), (2, [(99, 0)]), (2, [(100, 0)]), (2, [(101, 0)]), (2, [(102, 0)]), (2, [(103, 0)]), (2, [(104, 0)]), (2, [(105, 0)]), (2, [(106, 0)]), (0, [((-2147483648), 2147483647)]), (0, [((-2147483648), 2147483647)]), (0, [(0, 1)]), (2, [(107, 0)]), (2, [(108, 0)]), (2, [(109, 0)]), (2, [(110, 0)]), (2, [(111, 0)]), (2, [(112, 0)]), (0, [((-2147483648), 2147483647)]), (0, [((-2147483648), 2147483647)]), (2, [(113, 0)]), (0, [(0, 40)]), (0, [(0, 400)]), (2, [(114, 0)]), (2, [(115, 0)]), (2, [(116, 0)]), (2, [(117, 0)]), (2, [(118, 0)]), (0, [(0, 80)]), (2, [(119, 0)]), (2, [(120, 0)]), (2, [(121, 0)]), (1, [((-9223372036854775808), 9223372036854775807)]), (1, [((-9223372036854775808), 9223372036854775807)])]),
  /- 44 Tape.bytes -/ (2, 1200, [(0, [((-128), 127)])]),
  /- 45 Speller.image -/ (1, 27, [(0, [((-2147483648), 2147483647)])]),
  /- 46 Speller.isTold -/ (3, 27, [(0, [(0, 1)])]),
  /- 47 Names.words -/ (4, 80, [(1, [((-9223372036854775808), 9223372036854775807)])]),
  /- 48 Names.keys -/ (4, 80, [(1, [((-9223372036854775808), 9223372036854775807)])]),
  /- 49 Names.dowries -/ (1, 80, [(0, [((-2147483648), 2147483647)])]),
  /- 50 Names.from -/ (1, 80, [(0, [(0, 400)])]),
  /- 51 Names.gone -/ (1, 80, [(0, [(0, 401)])]),
  /- 52 Way.who -/ (1, 30, [(0, [(0, 1)])]),
  /- 53 Way.act -/ (1, 30, [(0, [(0, 7)])]),
  /- 54 Way.bag -/ (1, 30, [(0, [(0, 7)])]),
  /- 55 Way.more -/ (1, 30, [(0, [(0, 60)])]),
  /- 56 Way.has -/ (3, 16, [(0, [(0, 1)])]),
  /- 57 Way.isCounted -/ (3, 16, [(0, [(0, 1)])]),
  /- 58 Turning.answers -/ (1, 60, [(0, [((-2147483648), 2147483647)])]),
  /- 59 Bag.numbers -/ (1, 60, [(0, [((-2147483648), 2147483647)])]),
  /- 60 Hand.list -/ (1, 40, [(0, [((-2147483648), 2147483647)])]),
  /- 61 Hand.dowries -/ (1, 40, [(0, [((-2147483648), 2147483647)])]),
  /- 62 Hand.bags -/ (12, 8, [(2, [(36, 0)])]),
  /- 63 Hand.seen -/ (1, 1830, [(0, [((-2147483648), 2147483647)])]),
  /- 64 PlayD.hands -/ (13, 2, [(2, [(37, 0)])]),
  /- 65 PlayT.hands -/ (13, 2, [(2, [(38, 0)])]),
  /- 66 Agreement.keyNumbers -/ (1, 256, [(0, [((-2147483648), 2147483647)])]),
  /- 67 Agreement.numbers -/ (1, 8, [(0, [((-2147483648), 2147483647)])]),
  /- 68 BothLists.names -/ (14, 4, [(2, [(31, 0)])]),
  /- 69 BothLists.turnings -/ (19, 2, [(2, [(35, 0)])]),
  /- 70 BothLists.seeds -/ (1, 2, [(0, [(0, 2147483647)])]),
  /- 71 BothLists.numbers -/ (1, 40, [(0, [((-2147483648), 2147483647)])]),
  /- 72 BothLists.agreements -/ (10, 2, [(2, [(41, 0)])]),
  /- 73 BothListsModel.tape -/ (2, 1200, [(0, [((-128), 127)])]),
  /- 74 BothListsModel.stands -/ (1, 52, [(0, [((-2147483648), 2147483647)])]),
  /- 75 BothListsModel.doubles -/ (3, 2, [(0, [(0, 1)])]),
  /- 76 BothListsModel.firsts -/ (1, 2, [(0, [(0, 10)])]),
  /- 77 BothListsModel.many -/ (1, 4, [(0, [(0, 40)]), (0, [(0, 40)]), (0, [(0, 8)]), (0, [(0, 40)])]),
  /- 78 BothListsModel.words -/ (4, 160, [(1, [((-9223372036854775808), 9223372036854775807)])]),
  /- 79 BothListsModel.keys -/ (4, 160, [(1, [((-9223372036854775808), 9223372036854775807)])]),
  /- 80 BothListsModel.dowries -/ (1, 160, [(0, [((-2147483648), 2147483647)])]),
  /- 81 BothListsModel.turnKind -/ (1, 2, [(0, [(0, 2)])]),
  /- 82 BothListsModel.turnKey -/ (1, 2, [(0, [(0, 2147483647)])]),
  /- 83 BothListsModel.seeds -/ (4, 2, [(1, [(0, 2147483647)])]),
  /- 84 BothListsModel.lineMany -/ (1, 2, [(0, [(0, 30)])]),
  /- 85 BothListsModel.lineSide -/ (1, 60, [(0, [(0, 1)])]),
  /- 86 BothListsModel.lineAct -/ (1, 60, [(0, [(0, 13)])]),
  /- 87 BothListsModel.lineBag -/ (1, 60, [(0, [(0, 7)])]),
  /- 88 BothListsModel.lineOther -/ (1, 60, [(0, [((-1), 7)])]),
  /- 89 BothListsModel.lineNumber -/ (1, 60, [(0, [(0, 60)])]),
  /- 90 BothListsModel.isThere -/ (3, 16, [(0, [(0, 1)])]),
  /- 91 BothListsModel.isCounted -/ (3, 16, [(0, [(0, 1)])]),
  /- 92 BothListsModel.rMany -/ (1, 2, [(0, [(0, 40)])]),
  /- 93 BothListsModel.rNumber -/ (1, 80, [(0, [((-2147483648), 2147483647)])]),
  /- 94 BothListsModel.rDowry -/ (1, 80, [(0, [((-2147483648), 2147483647)])]),
  /- 95 BothListsModel.rKey -/ (1, 2, [(0, [(0, 2147483647)])]),
  /- 96 BothListsModel.rSeed -/ (4, 2, [(1, [(0, 2147483647)])]),
  /- 97 BothListsModel.bag -/ (1, 1024, [(0, [((-2147483648), 2147483647)])]),
  /- 98 BothListsModel.bagMany -/ (1, 16, [(0, [(0, 60)])]),
  /- 99 BothListsModel.bagOf -/ (1, 16, [(0, [(0, 1)])]),
  /- 100 BothListsModel.bagMixed -/ (3, 16, [(0, [(0, 1)])]),
  /- 101 BothListsModel.bagCounted -/ (3, 16, [(0, [(0, 1)])]),
  /- 102 BothListsModel.outKind -/ (1, 2, [(0, [((-1), 2)])]),
  /- 103 BothListsModel.outNumber -/ (1, 2, [(0, [((-2147483648), 2147483647)])]),
  /- 104 BothListsModel.outPlaces -/ (4, 2, [(1, [((-9223372036854775808), 9223372036854775807)])]),
  /- 105 BothListsModel.saw -/ (1, 4000, [(0, [((-2147483648), 2147483647)])]),
  /- 106 BothListsModel.sawMany -/ (1, 2, [(0, [(0, 2000)])]),
  /- 107 BothListsModel.toldKind -/ (1, 2, [(0, [((-1), 2)])]),
  /- 108 BothListsModel.toldNumber -/ (1, 2, [(0, [((-2147483648), 2147483647)])]),
  /- 109 BothListsModel.toldPlaces -/ (4, 2, [(1, [((-9223372036854775808), 9223372036854775807)])]),
  /- 110 BothListsModel.toldMany -/ (1, 2, [(0, [(0, 40)])]),
  /- 111 BothListsModel.toldSaw -/ (1, 4000, [(0, [((-2147483648), 2147483647)])]),
  /- 112 BothListsModel.toldMany2 -/ (1, 2, [(0, [(0, 2000)])]),
  /- 113 BothListsModel.agreeing -/ (1, 256, [(0, [((-2147483648), 2147483647)])]),
  /- 114 BothListsModel.chSide -/ (1, 40, [(0, [(0, 1)])]),
  /- 115 BothListsModel.chDay -/ (1, 40, [(0, [(0, 400)])]),
  /- 116 BothListsModel.chKey -/ (4, 40, [(1, [((-9223372036854775808), 9223372036854775807)])]),
  /- 117 BothListsModel.chDowry -/ (1, 40, [(0, [((-2147483648), 2147483647)])]),
  /- 118 BothListsModel.chComes -/ (3, 40, [(0, [(0, 1)])]),
  /- 119 BothListsModel.asKey -/ (4, 81, [(1, [((-9223372036854775808), 9223372036854775807)])]),
  /- 120 BothListsModel.asDowry -/ (1, 81, [(0, [((-2147483648), 2147483647)])]),
  /- 121 BothListsModel.firstKeys -/ (4, 81, [(1, [((-9223372036854775808), 9223372036854775807)])])]
def zTT : Nat → zS := fun t => zTTl.getD t (9, 0, [])
/-- finer types, for the constructors -/
def zTT1l : List zS := [
  /- 0 text0 -/ (9, 0, []),
  /- 1 text1 -/ (9, 1, []),
  /- 2 text2 -/ (9, 2, []),
  /- 3 text3 -/ (9, 3, []),
  /- 4 text4 -/ (9, 4, []),
  /- 5 text5 -/ (9, 5, []),
  /- 6 text6 -/ (9, 6, []),
  /- 7 text7 -/ (9, 7, []),
  /- 8 text8 -/ (9, 8, []),
  /- 9 text9 -/ (9, 9, []),
  /- 10 text10 -/ (9, 10, []),
  /- 11 text11 -/ (9, 11, []),
  /- 12 text12 -/ (9, 12, []),
  /- 13 text13 -/ (9, 13, []),
  /- 14 text14 -/ (9, 14, []),
  /- 15 tval0 -/ (9, 15, []),
  /- 16 tval1 -/ (9, 16, []),
  /- 17 tval2 -/ (9, 17, []),
  /- 18 tval3 -/ (9, 18, []),
  /- 19 tval4 -/ (9, 19, []),
  /- 20 tval5 -/ (9, 20, []),
  /- 21 tval6 -/ (9, 21, []),
  /- 22 tval7 -/ (9, 22, []),
  /- 23 tval8 -/ (9, 23, []),
  /- 24 tval9 -/ (9, 24, []),
  /- 25 tval10 -/ (9, 25, []),
  /- 26 tval11 -/ (9, 26, []),
  /- 27 tval12 -/ (9, 27, []),
  /- 28 tval13 -/ (9, 28, []),
  /- 29 tval14 -/ (9, 29, []),
  /- 30 Tape -/ (0, 8, [(2, [(44, 0)]), (0, [(0, 1200)]), (0, [(0, 1200)]), (0, [(0, 4)]), (0, [(0, 1200)]), (0, [(0, 1200)]), (1, [((-9223372036854775808), 9223372036854775807)]), (0, [((-2147483648), 2147483647)])]),
  /- 31 Names -/ (0, 4, [(2, [(47, 0)]), (2, [(48, 0)]), (2, [(49, 0)]), (2, [(50, 0)]), (2, [(51, 0)]), (0, [(0, 80)]), (0, [(0, 80)])]),
  /- 32 Speller -/ (0, 7, [(2, [(45, 0)]), (2, [(46, 0)]), (0, [(0, 1)]), (0, [(0, 10)]), (0, [((-2147483648), 2147483647)])]),
  /- 33 Way -/ (0, 10, [(2, [(52, 0)]), (2, [(53, 0)]), (2, [(54, 0)]), (2, [(55, 0)]), (2, [(56, 0)]), (2, [(57, 0)]), (0, [(0, 30)])]),
  /- 34 Reader -/ (0, 6, [(2, [(30, 0)]), (0, [(0, 6)]), (0, [((-1), 1200)]), (1, [((-9223372036854775808), 9223372036854775807)]), (0, [((-2147483648), 2147483647)]), (0, [(0, 7)]), (0, [(0, 7)])]),
  /- 35 Turning -/ (0, 9, [(2, [(58, 0)]), (0, [(0, 1)]), (0, [(0, 2)]), (0, [(0, 2147483647)]), (0, [(5, 2147483647)])]),
  /- 36 Bag -/ (0, 2, [(2, [(59, 0)]), (0, [(0, 60)]), (0, [(0, 1)]), (0, [(0, 1)]), (0, [(0, 1)])]),
  /- 37 HandD -/ (0, 3, [(2, [(60, 0)]), (2, [(61, 0)]), (2, [(62, 0)]), (2, [(63, 0)]), (0, [(0, 0)]), (0, [(0, 1)]), (0, [(0, 40)]), (2, [(35, 0)]), (0, [(0, 2147483647)]), (1, [((-9223372036854775808), 9223372036854775807)]), (0, [(0, 0)]), (0, [((-1), 2)]), (0, [((-2147483648), 2147483647)]), (1, [((-9223372036854775808), 9223372036854775807)])]),
  /- 38 HandT -/ (0, 3, [(2, [(60, 0)]), (2, [(61, 0)]), (2, [(62, 0)]), (2, [(63, 0)]), (0, [(1, 1)]), (0, [(0, 1)]), (0, [(0, 40)]), (2, [(35, 0)]), (0, [(0, 2147483647)]), (1, [((-9223372036854775808), 9223372036854775807)]), (0, [(0, 1830)]), (0, [((-1), 2)]), (0, [((-2147483648), 2147483647)]), (1, [((-9223372036854775808), 9223372036854775807)])]),
  /- 39 PlayD -/ (0, 5, [(2, [(64, 0)]), (0, [(0, 0), (5, 2147483647)]), (0, [((-2147483648), 2147483647)]), (0, [((-2147483648), 2147483647)])]),
  /- 40 PlayT -/ (0, 5, [(2, [(65, 0)]), (0, [((-2147483648), 2147483647)]), (0, [((-2147483648), 2147483647)]), (0, [((-2147483648), 2147483647)])]),
  /- 41 Agreement -/ (0, 0, [(2, [(66, 0)]), (2, [(67, 0)]), (2, [(40, 0)]), (2, [(35, 0)]), (0, [(0, 1)]), (0, [(0, 256)]), (0, [(0, 30)])]),
  /- 42 BothLists -/ (0, 11, [(2, [(30, 0)]), (2, [(34, 0)]), (2, [(32, 0)]), (2, [(32, 0)]), (2, [(68, 0)]), (2, [(33, 0)]), (2, [(122, 0)]), (0, [(5, 2147483647)]), (2, [(69, 0)]), (2, [(70, 0)]), (2, [(71, 0)]), (2, [(39, 0)]), (2, [(72, 0)]), (0, [(0, 1)]), (0, [(0, 40)]), (0, [(0, 400)])]),
  /- 43 BothListsModel -/ (0, 12, [(2, [(73, 0)]), (0, [(0, 1200)]), (0, [(0, 1200)]), (0, [(0, 4)]), (0, [((-1), 13)]), (0, [(0, 1200)]), (0, [(0, 1200)]), (0, [((-2147483648), 2147483647)]), (0, [(0, 6)]), (0, [((-1), 1200)]), (1, [(0, 26), (33, 9223372036854775807)]), (0, [((-2147483648), 2147483647)]), (2, [(74, 0)]), (2, [(75, 0)]), (2, [(76, 0)]), (0, [((-2147483648), 2147483647)]), (0, [((-2147483648), 2147483647)]), (2, [(77, 0)]), (2, [(78, 0)]), (2, [(79, 0)]), (2, [(80, 0)]), (0, [(5, 2147483647)]), (2, [(81, 0)]), (2, [(82, 0)]), (2, [(83, 0)]), (2, [(84, 0)]), (2, [(85, 0)]), (2, [(86, 0)]), (2, [(87, 0)]), (2, [(88, 0)]), (2, [(89, 0)]), (2, [(90, 0)]), (2, [(91, 0)]), (2, [(92, 0)]), (2, [(93, 0)]), (2, [(94, 0)]), (2, [(95, 0)]), (2, [(96, 0)]), (2, [(97, 0)]), (2, [(98, 0)]), (2, [(99, 0)]), (2, [(100, 0)]), (2, [(101, 0)]), (2, [(102, 0)]), (2, [(103, 0)]), (2, [(104, 0)]), (2, [(105, 0)]), (2, [(106, 0)]), (0, [((-2147483648), 2147483647)]), (0, [((-2147483648), 2147483647)]), (0, [(0, 1)]), (2, [(107, 0)]), (2, [(108, 0)]), (2, [(109, 0)]), (2, [(110, 0)]), (2, [(111, 0)]), (2, [(112, 0)]), (0, [((-2147483648), 2147483647)]), (0, [((-2147483648), 2147483647)]), (2, [(113, 0)]), (0, [(0, 0)]), (0, [(0, 400)]), (2, [(114, 0)]), (2, [(115, 0)]), (2, [(116, 0)]), (2, [(117, 0)]), (2, [(118, 0)]), (0, [(0, 80)]), (2, [(119, 0)]), (2, [(120, 0)]), (2, [(121, 0)]), (1, [((-9223372036854775808), 9223372036854775807)]), (1, [((-9223372036854775808), 9223372036854775807)])]),
  /- 44 Tape.bytes -/ (2, 1200, [(0, [((-128), 127)])]),
  /- 45 Speller.image -/ (1, 27, [(0, [((-2147483648), 2147483647)])]),
  /- 46 Speller.isTold -/ (3, 27, [(0, [(0, 1)])]),
  /- 47 Names.words -/ (4, 80, [(1, [((-9223372036854775808), 9223372036854775807)])]),
  /- 48 Names.keys -/ (4, 80, [(1, [((-9223372036854775808), 9223372036854775807)])]),
  /- 49 Names.dowries -/ (1, 80, [(0, [((-2147483648), 2147483647)])]),
  /- 50 Names.from -/ (1, 80, [(0, [(0, 400)])]),
  /- 51 Names.gone -/ (1, 80, [(0, [(0, 401)])]),
  /- 52 Way.who -/ (1, 30, [(0, [(0, 1)])]),
  /- 53 Way.act -/ (1, 30, [(0, [(0, 0)])]),
  /- 54 Way.bag -/ (1, 30, [(0, [(0, 7)])]),
  /- 55 Way.more -/ (1, 30, [(0, [(0, 60)])]),
  /- 56 Way.has -/ (3, 16, [(0, [(0, 1)])]),
  /- 57 Way.isCounted -/ (3, 16, [(0, [(0, 1)])]),
  /- 58 Turning.answers -/ (1, 60, [(0, [((-2147483648), 2147483647)])]),
  /- 59 Bag.numbers -/ (1, 60, [(0, [((-2147483648), 2147483647)])]),
  /- 60 Hand.list -/ (1, 40, [(0, [((-2147483648), 2147483647)])]),
  /- 61 Hand.dowries -/ (1, 40, [(0, [((-2147483648), 2147483647)])]),
  /- 62 Hand.bags -/ (12, 8, [(2, [(36, 0)])]),
  /- 63 Hand.seen -/ (1, 1830, [(0, [((-2147483648), 2147483647)])]),
  /- 64 PlayD.hands -/ (13, 2, [(2, [(37, 0)]), (2, [(123, 0)])]),
  /- 65 PlayT.hands -/ (13, 2, [(2, [(38, 0)]), (2, [(124, 0)])]),
  /- 66 Agreement.keyNumbers -/ (1, 256, [(0, [((-2147483648), 2147483647)])]),
  /- 67 Agreement.numbers -/ (1, 8, [(0, [((-2147483648), 2147483647)])]),
  /- 68 BothLists.names -/ (14, 4, [(2, [(31, 0)])]),
  /- 69 BothLists.turnings -/ (19, 2, [(2, [(35, 0)])]),
  /- 70 BothLists.seeds -/ (1, 2, [(0, [(0, 2147483647)])]),
  /- 71 BothLists.numbers -/ (1, 40, [(0, [((-2147483648), 2147483647)])]),
  /- 72 BothLists.agreements -/ (10, 2, [(2, [(41, 0)])]),
  /- 73 BothListsModel.tape -/ (2, 1200, [(0, [((-128), 127)])]),
  /- 74 BothListsModel.stands -/ (1, 52, [(0, [((-2147483648), 2147483647)])]),
  /- 75 BothListsModel.doubles -/ (3, 2, [(0, [(0, 1)])]),
  /- 76 BothListsModel.firsts -/ (1, 2, [(0, [(0, 10)])]),
  /- 77 BothListsModel.many -/ (1, 4, [(0, [(0, 40)]), (0, [(0, 40)]), (0, [(0, 8)]), (0, [(0, 40)])]),
  /- 78 BothListsModel.words -/ (4, 160, [(1, [((-9223372036854775808), 9223372036854775807)])]),
  /- 79 BothListsModel.keys -/ (4, 160, [(1, [((-9223372036854775808), 9223372036854775807)])]),
  /- 80 BothListsModel.dowries -/ (1, 160, [(0, [((-2147483648), 2147483647)])]),
  /- 81 BothListsModel.turnKind -/ (1, 2, [(0, [(0, 2)])]),
  /- 82 BothListsModel.turnKey -/ (1, 2, [(0, [(0, 2147483647)])]),
  /- 83 BothListsModel.seeds -/ (4, 2, [(1, [(0, 2147483647)])]),
  /- 84 BothListsModel.lineMany -/ (1, 2, [(0, [(0, 0)])]),
  /- 85 BothListsModel.lineSide -/ (1, 60, [(0, [(0, 1)])]),
  /- 86 BothListsModel.lineAct -/ (1, 60, [(0, [(0, 13)])]),
  /- 87 BothListsModel.lineBag -/ (1, 60, [(0, [(0, 7)])]),
  /- 88 BothListsModel.lineOther -/ (1, 60, [(0, [((-1), 7)])]),
  /- 89 BothListsModel.lineNumber -/ (1, 60, [(0, [(0, 60)])]),
  /- 90 BothListsModel.isThere -/ (3, 16, [(0, [(0, 1)])]),
  /- 91 BothListsModel.isCounted -/ (3, 16, [(0, [(0, 1)])]),
  /- 92 BothListsModel.rMany -/ (1, 2, [(0, [(0, 40)])]),
  /- 93 BothListsModel.rNumber -/ (1, 80, [(0, [((-2147483648), 2147483647)])]),
  /- 94 BothListsModel.rDowry -/ (1, 80, [(0, [((-2147483648), 2147483647)])]),
  /- 95 BothListsModel.rKey -/ (1, 2, [(0, [(0, 2147483647)])]),
  /- 96 BothListsModel.rSeed -/ (4, 2, [(1, [(0, 2147483647)])]),
  /- 97 BothListsModel.bag -/ (1, 1024, [(0, [((-2147483648), 2147483647)])]),
  /- 98 BothListsModel.bagMany -/ (1, 16, [(0, [(0, 60)])]),
  /- 99 BothListsModel.bagOf -/ (1, 16, [(0, [(0, 1)])]),
  /- 100 BothListsModel.bagMixed -/ (3, 16, [(0, [(0, 1)])]),
  /- 101 BothListsModel.bagCounted -/ (3, 16, [(0, [(0, 1)])]),
  /- 102 BothListsModel.outKind -/ (1, 2, [(0, [((-1), 2)])]),
  /- 103 BothListsModel.outNumber -/ (1, 2, [(0, [((-2147483648), 2147483647)])]),
  /- 104 BothListsModel.outPlaces -/ (4, 2, [(1, [((-9223372036854775808), 9223372036854775807)])]),
  /- 105 BothListsModel.saw -/ (1, 4000, [(0, [((-2147483648), 2147483647)])]),
  /- 106 BothListsModel.sawMany -/ (1, 2, [(0, [(0, 2000)])]),
  /- 107 BothListsModel.toldKind -/ (1, 2, [(0, [((-1), 2)])]),
  /- 108 BothListsModel.toldNumber -/ (1, 2, [(0, [((-2147483648), 2147483647)])]),
  /- 109 BothListsModel.toldPlaces -/ (4, 2, [(1, [((-9223372036854775808), 9223372036854775807)])]),
  /- 110 BothListsModel.toldMany -/ (1, 2, [(0, [(0, 40)])]),
  /- 111 BothListsModel.toldSaw -/ (1, 4000, [(0, [((-2147483648), 2147483647)])]),
  /- 112 BothListsModel.toldMany2 -/ (1, 2, [(0, [(0, 0)])]),
  /- 113 BothListsModel.agreeing -/ (1, 256, [(0, [((-2147483648), 2147483647)])]),
  /- 114 BothListsModel.chSide -/ (1, 40, [(0, [(0, 1)])]),
  /- 115 BothListsModel.chDay -/ (1, 40, [(0, [(0, 400)])]),
  /- 116 BothListsModel.chKey -/ (4, 40, [(1, [((-9223372036854775808), 9223372036854775807)])]),
  /- 117 BothListsModel.chDowry -/ (1, 40, [(0, [((-2147483648), 2147483647)])]),
  /- 118 BothListsModel.chComes -/ (3, 40, [(0, [(0, 1)])]),
  /- 119 BothListsModel.asKey -/ (4, 81, [(1, [((-9223372036854775808), 9223372036854775807)])]),
  /- 120 BothListsModel.asDowry -/ (1, 81, [(0, [((-2147483648), 2147483647)])]),
  /- 121 BothListsModel.firstKeys -/ (4, 81, [(1, [((-9223372036854775808), 9223372036854775807)])]),
  /- 122 WayB -/ (0, 10, [(2, [(52, 0)]), (2, [(125, 0)]), (2, [(54, 0)]), (2, [(126, 0)]), (2, [(56, 0)]), (2, [(57, 0)]), (0, [(0, 30)])]),
  /- 123 HandDB -/ (0, 3, [(2, [(60, 0)]), (2, [(61, 0)]), (2, [(62, 0)]), (2, [(127, 0)]), (0, [(0, 0)]), (0, [(0, 1)]), (0, [(0, 40)]), (2, [(35, 0)]), (0, [(0, 2147483647)]), (1, [((-9223372036854775808), 9223372036854775807)]), (0, [(0, 0)]), (0, [((-1), 2)]), (0, [((-2147483648), 2147483647)]), (1, [((-9223372036854775808), 9223372036854775807)])]),
  /- 124 HandTB -/ (0, 3, [(2, [(60, 0)]), (2, [(61, 0)]), (2, [(62, 0)]), (2, [(127, 0)]), (0, [(1, 1)]), (0, [(0, 1)]), (0, [(0, 40)]), (2, [(35, 0)]), (0, [(0, 2147483647)]), (1, [((-9223372036854775808), 9223372036854775807)]), (0, [(0, 1830)]), (0, [((-1), 2)]), (0, [((-2147483648), 2147483647)]), (1, [((-9223372036854775808), 9223372036854775807)])]),
  /- 125 Way.actB -/ (1, 30, [(0, [(0, 0)])]),
  /- 126 Way.moreB -/ (1, 30, [(0, [(0, 60)])]),
  /- 127 Hand.seenB -/ (1, 1830, [(0, [((-2147483648), 2147483647)])])]
def zTT1 : Nat → zS := fun t => zTT1l.getD t (9, 0, [])
end
section
/-! THE POOLS of the classes (printed by wip/tools/emit.py). -/
theorem layX0 : zk_wsb (u_ws RX0 TX0 7) [441, 443, 445, 447, 449, 451, 453] = true := by decide +kernel
theorem layX2 : zk_wsb (u_ws RX2 TX2 5) [329, 331, 333, 335, 337] = true := by decide +kernel
theorem layX3 : zk_wsb (u_ws RX3 TX3 14) [373, 375, 377, 379, 381, 383, 385, 387, 389, 391, 393, 395, 397, 399] = true := by decide +kernel
theorem layX4 : zk_wsb (u_ws RX4 TX4 7) [227, 229, 231, 233, 235, 237, 239] = true := by decide +kernel
theorem layX5 : zk_wsb (u_ws RX5 TX5 4) [417, 419, 421, 423] = true := by decide +kernel
theorem layX6 : zk_wsb (u_ws RX6 TX6 7) [155, 157, 159, 161, 163, 165, 167] = true := by decide +kernel
theorem layX7 : zk_wsb (u_ws RX7 TX7 5) [189, 191, 193, 195, 197] = true := by decide +kernel
theorem layX8 : zk_wsb (u_ws RX8 TX8 8) [120, 122, 124, 126, 128, 130, 132, 134] = true := by decide +kernel
theorem layX9 : zk_wsb (u_ws RX9 TX9 5) [290, 292, 294, 296, 298] = true := by decide +kernel
theorem layX10 : zk_wsb (u_ws RX10 TX10 7) [262, 264, 266, 268, 270, 272, 274] = true := by decide +kernel
theorem layX11 : zk_wsb (u_ws RX11 TX11 16) [472, 474, 476, 478, 480, 482, 484, 486, 488, 490, 492, 494, 496, 498, 500, 502] = true := by decide +kernel
theorem layX12 : zk_wsb (u_ws RX12 TX12 73) [1222, 1224, 1226, 1228, 1230, 1232, 1234, 1236, 1238, 1240, 1242, 1244, 1246, 1248, 1250, 1252, 1254, 1256, 1258, 1260, 1262, 1264, 1266, 1268, 1270, 1272, 1274, 1276, 1278, 1280, 1282, 1284, 1286, 1288, 1290, 1292, 1294, 1296, 1298, 1300, 1302, 1304, 1306, 1308, 1310, 1312, 1314, 1316, 1318, 1320, 1322, 1324, 1326, 1328, 1330, 1332, 1334, 1336, 1338, 1340, 1342, 1344, 1346, 1348, 1350, 1352, 1354, 1356, 1358, 1360, 1362, 1364, 1366] = true := by decide +kernel
theorem zlay : ∀ (ci : Nat) (q : vw_C), zcl[ci]? = some q → ∀ w ∈ u_ws q.1 q.2.1 q.2.2, w ∈ zw := by
  intro ci q hq
  match ci, hq with
  | 0, hq => cases hq; exact zk_wsb_ok layX0
  | 1, hq => cases hq; exact zk_wsb_ok layX2
  | 2, hq => cases hq; exact zk_wsb_ok layX2
  | 3, hq => cases hq; exact zk_wsb_ok layX3
  | 4, hq => cases hq; exact zk_wsb_ok layX4
  | 5, hq => cases hq; exact zk_wsb_ok layX5
  | 6, hq => cases hq; exact zk_wsb_ok layX6
  | 7, hq => cases hq; exact zk_wsb_ok layX7
  | 8, hq => cases hq; exact zk_wsb_ok layX8
  | 9, hq => cases hq; exact zk_wsb_ok layX9
  | 10, hq => cases hq; exact zk_wsb_ok layX10
  | 11, hq => cases hq; exact zk_wsb_ok layX11
  | 12, hq => cases hq; exact zk_wsb_ok layX12
  | k + 13, hq => simp [zcl] at hq
theorem zac : ∀ k : ArrayType, zk_ak k ≠ 0 → Cond.arrayClass (newarray.typeOf k) ∈ zw := by
  intro k hk
  cases k <;> first | exact absurd rfl hk | exact zk_wb_ok (p := 137) (by decide +kernel) | exact zk_wb_ok (p := 200) (by decide +kernel) | exact zk_wb_ok (p := 201) (by decide +kernel) | exact zk_wb_ok (p := 242) (by decide +kernel)
def zLX0 : zL := ([(9, 0, 0), (15, 0, 1), (18, 0, 2), (22, 0, 3), (26, 0, 4), (30, 5, 0), (42, 3, 7), (45, 9, 2), (51, 5, 1), (60, 0, 6), (75, 0, 5), (86, 4, 5), (91, 4, 1), (99, 3, 6), (102, 3, 0), (109, 3, 5), (120, 3, 10)], [], [], [], [], (some 3))
theorem poolX0 : zk_pool zcl RX0 zLX0 := zk_poolb_ok zlay zac (P := ([433, 434, 435, 436, 437, 409, 357, 287, 412, 440, 439, 222, 213, 353, 341, 351, 362], [], [], [], [], 432)) (oi := (99, 100)) (by decide +kernel)
def zLX2 : zL := ([(9, 2, 0), (15, 2, 1), (19, 2, 2), (22, 2, 3), (26, 2, 4)], [], [], [], [], (some 3))
theorem poolX2 : zk_pool zcl RX2 zLX2 := zk_poolb_ok zlay zac (P := ([316, 319, 322, 324, 327], [], [], [], [], 315)) (oi := (99, 100)) (by decide +kernel)
def zLX3 : zL := ([(9, 3, 0), (15, 3, 1), (20, 3, 2), (25, 3, 7), (29, 3, 3), (32, 3, 4), (36, 3, 6), (40, 4, 5), (45, 4, 1), (53, 4, 2), (54, 3, 8), (57, 3, 9), (61, 3, 10), (64, 3, 5), (67, 3, 11), (70, 3, 12), (73, 3, 13), (84, 2, 3), (91, 2, 1), (94, 2, 0)], [], [(76, 1103515245), (78, 12345), (80, 2147483648), (82, 256)], [(18, 2, 5)], [(18, 2)], (some 3))
theorem poolX3 : zk_pool zcl RX3 zLX3 := zk_poolb_ok zlay zac (P := ([340, 343, 345, 356, 347, 349, 352, 221, 212, 216, 359, 360, 361, 350, 364, 367, 370, 326, 321, 318], [], [936, 937, 938, 939], [(309, 311, 84)], [(309, 310)], 308)) (oi := (99, 100)) (by decide +kernel)
def zLX4 : zL := ([(9, 4, 0), (15, 4, 1), (18, 4, 2), (22, 4, 3), (25, 4, 4), (28, 4, 5), (32, 4, 6)], [], [], [], [], (some 3))
theorem poolX4 : zk_pool zcl RX4 zLX4 := zk_poolb_ok zlay zac (P := ([209, 211, 215, 217, 218, 220, 225], [], [], [], [], 208)) (oi := (99, 100)) (by decide +kernel)
def zLX5 : zL := ([(11, 5, 0), (17, 5, 1), (21, 5, 2), (24, 5, 3), (30, 10, 0), (36, 10, 3), (39, 3, 2), (43, 10, 2), (46, 10, 1), (66, 2, 3), (86, 3, 6), (89, 3, 0), (95, 2, 1), (98, 2, 0), (101, 3, 7), (121, 2, 2), (124, 2, 4), (127, 3, 11), (130, 3, 12), (133, 3, 13), (141, 3, 1)], [], [], [], [(9, 3)], (some 3))
theorem poolX5 : zk_pool zcl RX5 zLX5 := zk_poolb_ok zlay zac (P := ([408, 411, 413, 415, 250, 256, 346, 254, 252, 325, 354, 342, 320, 317, 358, 323, 328, 365, 368, 371, 344], [], [], [], [(406, 407)], 405)) (oi := (99, 100)) (by decide +kernel)
def zLX6 : zL := ([(9, 6, 0), (15, 6, 1), (19, 6, 2), (27, 8, 4), (33, 8, 3), (40, 8, 7), (76, 7, 4), (93, 7, 2), (101, 7, 3), (118, 8, 6), (133, 4, 5), (147, 10, 6), (157, 6, 6), (160, 6, 5), (187, 6, 3), (188, 6, 4)], [], [], [], [], (some 3))
theorem poolX6 : zk_pool zcl RX6 zLX6 := zk_poolb_ok zlay zac (P := ([144, 145, 147, 113, 111, 119, 188, 183, 185, 117, 224, 261, 154, 153, 150, 151], [], [], [], [], 143)) (oi := (99, 100)) (by decide +kernel)
def zLX7 : zL := ([(9, 7, 0), (15, 7, 1), (22, 7, 2), (26, 7, 3), (30, 7, 4)], [], [], [], [], (some 3))
theorem poolX7 : zk_pool zcl RX7 zLX7 := zk_poolb_ok zlay zac (P := ([180, 181, 182, 184, 186], [], [], [], [], 175)) (oi := (99, 100)) (by decide +kernel)
def zLX8 : zL := ([(9, 8, 0), (15, 8, 1), (19, 8, 2), (26, 8, 4), (29, 8, 5), (32, 8, 6), (36, 8, 7), (39, 8, 3)], [], [], [], [], (some 3))
theorem poolX8 : zk_pool zcl RX8 zLX8 := zk_poolb_ok zlay zac (P := ([107, 109, 110, 114, 115, 116, 118, 112], [], [], [], [], 106)) (oi := (99, 100)) (by decide +kernel)
def zLX9 : zL := ([(9, 9, 0), (15, 9, 1), (19, 9, 2), (23, 9, 3), (26, 9, 4)], [], [], [], [], (some 3))
theorem poolX9 : zk_pool zcl RX9 zLX9 := zk_poolb_ok zlay zac (P := ([284, 285, 286, 288, 289], [], [], [], [], 283)) (oi := (99, 100)) (by decide +kernel)
def zLX10 : zL := ([(9, 10, 0), (15, 10, 1), (18, 10, 2), (21, 10, 3), (24, 10, 4), (28, 10, 5), (31, 10, 6)], [], [], [], [], (some 3))
theorem poolX10 : zk_pool zcl RX10 zLX10 := zk_poolb_ok zlay zac (P := ([249, 251, 253, 255, 257, 258, 259], [], [], [], [], 248)) (oi := (99, 100)) (by decide +kernel)
def zLX11 : zL := ([(12, 11, 0), (21, 11, 1), (28, 11, 2), (32, 11, 3), (38, 11, 4), (45, 11, 5), (49, 11, 6), (52, 11, 7), (59, 11, 8), (63, 11, 9), (67, 11, 10), (80, 11, 11), (89, 11, 12), (93, 11, 13), (97, 11, 14), (100, 11, 15), (103, 8, 1), (120, 7, 4), (134, 4, 5), (147, 10, 6), (150, 6, 1), (153, 6, 2), (160, 6, 3), (185, 4, 1), (212, 5, 0), (227, 3, 11), (230, 3, 12), (233, 3, 6), (236, 3, 13), (239, 3, 10), (242, 3, 3), (245, 5, 2), (248, 5, 3), (293, 4, 0), (308, 6, 4), (318, 4, 4), (324, 4, 6), (347, 0, 4)], [(207, 100000)], [(277, (-2)), (344, 31), (356, (-1))], [(9, 8, 8), (16, 6, 7), (25, 7, 5), (35, 4, 7), (42, 10, 7), (56, 9, 5), (70, 5, 4), (72, 3, 14), (84, 0, 7)], [(35, 4), (56, 9), (84, 0)], (some 3))
theorem poolX11 : zk_pool zcl RX11 zLX11 := zk_poolb_ok zlay zac (P := ([456, 457, 458, 459, 460, 461, 462, 463, 464, 465, 466, 467, 468, 469, 470, 471, 108, 187, 223, 260, 146, 148, 149, 214, 410, 366, 369, 355, 372, 363, 348, 414, 416, 210, 152, 219, 226, 438], [859], [1045, 821, 1065], [(101, 102, 76), (138, 139, 77), (170, 171, 78), (202, 204, 79), (243, 244, 80), (277, 279, 81), (301, 302, 82), (303, 304, 83), (426, 428, 85)], [(202, 203), (277, 278), (426, 427)], 98)) (oi := (99, 100)) (by decide +kernel)
def zLX12 : zL := ([(7, 12, 0), (13, 12, 9), (17, 12, 12), (21, 12, 13), (25, 12, 14), (28, 12, 17), (31, 12, 18), (35, 12, 19), (38, 12, 20), (41, 12, 22), (44, 12, 23), (47, 12, 24), (50, 12, 25), (53, 12, 26), (56, 12, 27), (59, 12, 28), (62, 12, 29), (65, 12, 30), (68, 12, 31), (71, 12, 32), (74, 12, 33), (77, 12, 34), (80, 12, 35), (83, 12, 36), (86, 12, 37), (89, 12, 38), (92, 12, 39), (95, 12, 40), (98, 12, 41), (101, 12, 42), (104, 12, 43), (107, 12, 44), (110, 12, 45), (113, 12, 46), (116, 12, 47), (119, 12, 51), (122, 12, 52), (125, 12, 53), (128, 12, 54), (131, 12, 55), (134, 12, 56), (137, 12, 59), (140, 12, 62), (143, 12, 63), (146, 12, 64), (149, 12, 65), (152, 12, 66), (155, 12, 68), (158, 12, 69), (161, 12, 70), (167, 12, 21), (170, 12, 1), (173, 12, 2), (192, 12, 6), (195, 12, 5), (198, 12, 4), (201, 12, 3), (208, 12, 10), (223, 12, 7), (229, 12, 8), (238, 12, 15), (247, 12, 16), (269, 12, 11), (272, 12, 60), (275, 12, 61), (278, 12, 50), (352, 12, 49), (358, 12, 48), (387, 12, 57), (390, 12, 58), (423, 12, 67), (442, 12, 72), (445, 12, 71)], [(335, 100000)], [(212, 32), (214, 97), (241, 3), (250, 10), (282, 31), (292, 9999), (307, 7), (309, 2), (336, 6), (338, 13), (343, 60), (369, 1103515245), (371, 12345), (373, 2147483648), (375, 256), (402, 62), (415, (-2)), (429, 400), (448, 40), (456, 10000)], [], [], (some 1))
theorem poolX12 : zk_pool zcl RX12 zLX12 := zk_poolb_ok zlay zac (P := ([1149, 1158, 1161, 1162, 1163, 1166, 1167, 1168, 1169, 1171, 1172, 1173, 1174, 1175, 1176, 1177, 1178, 1179, 1180, 1181, 1182, 1183, 1184, 1185, 1186, 1187, 1188, 1189, 1190, 1191, 1192, 1193, 1194, 1195, 1196, 1200, 1201, 1202, 1203, 1204, 1205, 1208, 1211, 1212, 1213, 1214, 1215, 1217, 1218, 1219, 1170, 1150, 1151, 1155, 1154, 1153, 1152, 1159, 1156, 1157, 1164, 1165, 1160, 1209, 1210, 1199, 1198, 1197, 1206, 1207, 1216, 1221, 1220], [1528], [1400, 1401, 1420, 1428, 1456, 1461, 1493, 1484, 1541, 1542, 1547, 1572, 1573, 1574, 1575, 1627, 1635, 1660, 1692, 1704], [], [], 1144)) (oi := (99, 100)) (by decide +kernel)
def zLX1 : zL := ([], [(9, 46340)], [], [], [], none)
theorem poolX1 : zk_pool zcl RX1 zLX1 := zk_poolb_ok zlay zac (P := ([], [795], [], [], [], 0)) (oi := (99, 100)) (by decide +kernel)
def zLJ9 : zL := ([], [], [], [], [], none)
theorem poolJ9 : zk_pool zcl RJ9 zLJ9 := zk_poolb_ok zlay zac (P := ([], [], [], [], [], 0)) (oi := (99, 100)) (by decide +kernel)
end
section
/-! THE FACTS, 1: what is told of the heap's places, as pure statements about numbers. ua: where the one cell of a type lies. -/
theorem zr_cons {D : zD} {ty : Nat → Nat} {H : Heap} {p : zRp} {ps : List zRp} {Ls : List (List Int)} (h : zr_all D ty H (p :: ps) Ls) : ∃ l Ls', Ls = l :: Ls' ∧ zr_pr D ty H p l ∧ zr_all D ty H ps Ls' := by
  cases Ls with
  | nil => exact absurd h (by simp [zr_all])
  | cons l Ls' => exact ⟨l, Ls', rfl, h.1, h.2⟩
theorem zr_nil {D : zD} {ty : Nat → Nat} {H : Heap} {Ls : List (List Int)} (h : zr_all D ty H [] Ls) : Ls = [] := by
  cases Ls with
  | nil => rfl
  | cons l Ls' => exact absurd h (by simp [zr_all])
theorem zr_c {α : Type} {P : α → Prop} {a : α} {l : List α} (h : P a) (hl : ∀ x ∈ l, P x) : ∀ x ∈ a :: l, P x := by
  intro x hx
  rcases List.mem_cons.mp hx with e | e
  · rw [e]; exact h
  · exact hl x e
theorem zk_T_RO {D : zD} {ty : Nat → Nat} {H : Heap} {a t : Nat} (hT : zk_T D ty H) (h : ty a = t + 1) (h9 : (D.TT t).1 ≠ 9) : D.RO t a := by
  have g := hT.2 a t h
  rw [if_neg h9] at g
  exact g.1.2
/-- blocks: a header of -1 with a count behind it, or a size and its numbers -/
def zb_l (v : Int) : Nat := if v = -1 then 2 else 1 + v.toNat
def zb_p (f : Nat → Int) (s : Nat) : Nat → Nat
  | 0 => s
  | i + 1 => zb_p f s i + zb_l (f (zb_p f s i))
/-- n blocks lead from s to e -/
def zb_k (f : Nat → Int) (s e : Nat) : Prop := ∃ n, zb_p f s n = e ∧ ∀ i, i < n → -1 ≤ f (zb_p f s i) ∧ f (zb_p f s i) ≤ 60
/-- a walk over the blocks, at k -/
def zb_w (f : Nat → Int) (s k e : Nat) : Prop := ∃ n i, i ≤ n ∧ zb_p f s i = k ∧ zb_p f s n = e ∧ ∀ j, j < n → -1 ≤ f (zb_p f s j) ∧ f (zb_p f s j) ≤ 60
theorem zb_l_pos (v : Int) : 1 ≤ zb_l v := by unfold zb_l; split <;> omega
theorem zb_p_lt (f : Nat → Int) (s : Nat) : ∀ d i, zb_p f s i + d ≤ zb_p f s (i + d)
  | 0, _ => Nat.le_refl _
  | d + 1, i => by
    have h := zb_p_lt f s d i
    have h2 := zb_l_pos (f (zb_p f s (i + d)))
    show zb_p f s i + (d + 1) ≤ zb_p f s (i + d) + zb_l (f (zb_p f s (i + d)))
    omega
theorem zb_p_mono (f : Nat → Int) (s : Nat) {i j : Nat} (h : i ≤ j) : zb_p f s i ≤ zb_p f s j := by
  have := zb_p_lt f s (j - i) i
  rw [show i + (j - i) = j by omega] at this
  omega
theorem zb_p_strict (f : Nat → Int) (s : Nat) {i j : Nat} (h : i < j) : zb_p f s i < zb_p f s j := by
  have := zb_p_lt f s (j - i) i
  rw [show i + (j - i) = j by omega] at this
  omega
theorem zb_p_eq {f g : Nat → Int} {s e : Nat} (h : ∀ j, s ≤ j → j < e → g j = f j) : ∀ {n : Nat}, zb_p f s n ≤ e → ∀ i, i ≤ n → zb_p g s i = zb_p f s i
  | n, he, 0, _ => rfl
  | n, he, i + 1, hi => by
    have h1 := zb_p_eq h he i (by omega)
    have h2 := zb_p_strict f s (i := i) (j := n) (by omega)
    have h3 := zb_p_mono f s (Nat.zero_le i)
    show zb_p g s i + zb_l (g (zb_p g s i)) = zb_p f s i + zb_l (f (zb_p f s i))
    rw [h1, h (zb_p f s i) h3 (by omega)]
theorem zb_k_nil (f : Nat → Int) (s : Nat) : zb_k f s s := ⟨0, rfl, fun i hi => by omega⟩
theorem zb_k_le {f : Nat → Int} {s e : Nat} (h : zb_k f s e) : s ≤ e := by
  obtain ⟨n, h1, -⟩ := h
  have := zb_p_mono f s (Nat.zero_le n)
  rw [h1] at this
  exact this
theorem zb_k_keep {f g : Nat → Int} {s e : Nat} (h : zb_k f s e) (hg : ∀ j, s ≤ j → j < e → g j = f j) : zb_k g s e := by
  obtain ⟨n, h1, h2⟩ := h
  have hp := zb_p_eq hg (n := n) (by omega)
  refine ⟨n, by rw [hp n (Nat.le_refl _)]; exact h1, fun i hi => ?_⟩
  have h3 := zb_p_strict f s hi
  have h4 := zb_p_mono f s (Nat.zero_le i)
  rw [hp i (by omega), hg _ h4 (by omega)]
  exact h2 i hi
theorem zb_k_snoc {f : Nat → Int} {s e : Nat} (h : zb_k f s e) (h1 : -1 ≤ f e) (h2 : f e ≤ 60) : zb_k f s (e + zb_l (f e)) := by
  obtain ⟨n, e1, h3⟩ := h
  refine ⟨n + 1, by show zb_p f s n + zb_l (f (zb_p f s n)) = _; rw [e1], fun i hi => ?_⟩
  rcases Nat.lt_or_eq_of_le (Nat.le_of_lt_succ hi) with h | h
  · exact h3 i h
  · rw [h, e1]; exact ⟨h1, h2⟩
theorem zb_w_start {f : Nat → Int} {s e : Nat} (h : zb_k f s e) : zb_w f s s e := by
  obtain ⟨n, h1, h2⟩ := h
  exact ⟨n, 0, Nat.zero_le n, rfl, h1, h2⟩
theorem zb_w_le {f : Nat → Int} {s k e : Nat} (h : zb_w f s k e) : s ≤ k ∧ k ≤ e := by
  obtain ⟨n, i, h1, h2, h3, -⟩ := h
  have a := zb_p_mono f s h1
  have b := zb_p_mono f s (Nat.zero_le i)
  have c : zb_p f s 0 = s := rfl
  omega
theorem zb_w_step {f : Nat → Int} {s k e : Nat} (h : zb_w f s k e) (hk : k < e) : -1 ≤ f k ∧ f k ≤ 60 ∧ zb_w f s (k + zb_l (f k)) e := by
  obtain ⟨n, i, h1, h2, h3, h4⟩ := h
  have hi : i < n := by
    rcases Nat.lt_or_eq_of_le h1 with h | h
    · exact h
    · rw [h] at h2; omega
  have g := h4 i hi
  rw [h2] at g
  exact ⟨g.1, g.2, n, i + 1, hi, by show zb_p f s i + zb_l (f (zb_p f s i)) = _; rw [h2], h3, h4⟩
/-- lines 0 .. k - 1 of the way: 12 and 13 have a second bag -/
def zf_ln (ua : Nat → Nat) (F : Nat → Nat → Int) (o : Nat) (k : Int) : Prop := ∀ j : Nat, (j : Int) < k → (F (ua 86) (o + j) ≤ 5 ∨ 12 ≤ F (ua 86) (o + j)) → 0 ≤ F (ua 88) (o + j)
/-- the two ways: their acts and second numbers; 6 and 7 have a bag there. e: what is left out -/
def zf_wy (ua : Nat → Nat) (dI : Nat → Nat → Nat) (F : Nat → Nat → Int) (e : Nat → Nat → Prop) : Prop := ∀ p, p = 0 ∨ p = 1 → F (ua (1000 + p)) (dI 10 1) = (ua (1010 + p) : Int) ∧ F (ua (1000 + p)) (dI 10 3) = (ua (1020 + p) : Int) ∧ ∀ j : Nat, ¬ e (ua (1000 + p)) j → 6 ≤ F (ua (1010 + p)) j → F (ua (1020 + p)) j ≤ 7
/-- what a side saw: n numbers, in blocks -/
def zf_sw (ua : Nat → Nat) (F : Nat → Nat → Int) (s : Nat) (n : Int) : Prop := 0 ≤ n ∧ zb_k (F (ua 105)) (2000 * s) (2000 * s + n.toNat)
/-- side s is inside a block: a blocks' numbers, then c of a block with header v (h: it is written) -/
def zf_in (ua : Nat → Nat) (F : Nat → Nat → Int) (s : Nat) (h : Prop) (c v k : Int) : Prop := 0 ≤ k ∧ k ≤ 29 ∧ 0 ≤ c ∧ c ≤ 61 ∧ zf_sw ua F (1 - s) (F (ua 106) (1 - s)) ∧ F (ua 106) (1 - s) ≤ 61 * (k + 1) ∧ ∃ a : Int, zf_sw ua F s a ∧ a ≤ 61 * k ∧ F (ua 106) s = a + c ∧ (h → F (ua 105) (2000 * s + a.toNat) = v)
/-- what was told of a side, in blocks -/
def zf_td (ua : Nat → Nat) (F : Nat → Nat → Int) (s : Nat) : Prop := 0 ≤ F (ua 112) s ∧ F (ua 112) s ≤ 1830 ∧ zb_k (F (ua 111)) (2000 * s) (2000 * s + (F (ua 112) s).toNat)
def zf_wk (ua : Nat → Nat) (F : Nat → Nat → Int) (s : Nat) (k : Int) : Prop := 0 ≤ k ∧ 0 ≤ F (ua 112) s ∧ F (ua 112) s ≤ 1830 ∧ zb_w (F (ua 111)) (2000 * s) k.toNat (2000 * s + (F (ua 112) s).toNat)
def zPQ (ua : Nat → Nat) (j : Nat) (F : Nat → Nat → Int) (vs : List Int) : Prop :=
  if j = 120 then ∃ k : Int, vs = [k] ∧ ∀ s, s = 0 ∨ s = 1 → zf_sw ua F s (F (ua 106) s) ∧ F (ua 106) s ≤ 61 * k
  else if j = 121 then ∃ c v k : Int, vs = [c, v, k] ∧ zf_in ua F 0 (1 ≤ c) c v k
  else if j = 122 then ∃ c v k : Int, vs = [c, v, k] ∧ zf_in ua F 1 (1 ≤ c) c v k
  else if j = 123 then ∃ v k : Int, vs = [v, k] ∧ zf_in ua F 0 True 0 v k
  else if j = 124 then ∃ v k : Int, vs = [v, k] ∧ zf_in ua F 1 True 0 v k
  else if j = 132 then vs = [] ∧ zf_td ua F 0
  else if j = 133 then vs = [] ∧ zf_td ua F 1
  else if j = 134 then ∃ k : Int, vs = [k] ∧ ∀ i : Nat, (i : Int) < k → F (ua 111) i = F (ua 105) i
  else if j = 135 then ∃ k : Int, vs = [k] ∧ ∀ i : Nat, (i : Int) < k → F (ua 111) (2000 + i) = F (ua 105) (2000 + i)
  else if j = 136 then ∃ k : Int, vs = [k] ∧ zf_wk ua F 0 k
  else if j = 137 then ∃ k : Int, vs = [k] ∧ zf_wk ua F 1 k
  else if j = 138 then ∃ k n : Int, vs = [k, n] ∧ 0 ≤ n ∧ n ≤ 60 ∧ zf_wk ua F 0 (k + 1 + n)
  else if j = 139 then ∃ k n : Int, vs = [k, n] ∧ 0 ≤ n ∧ n ≤ 60 ∧ zf_wk ua F 1 (k + 1 + n)
  else False
/-- primes, as the programs look for them -/
def zn_pr (n : Int) : Prop := 2 ≤ n ∧ ∀ d : Int, 2 ≤ d → d * d ≤ n → n % d ≠ 0
/-- none from 2 to d - 1 goes into n -/
def zn_no (n d : Int) : Prop := ∀ e : Int, 2 ≤ e → e < d → n % e ≠ 0
theorem zn_sq {e d n : Int} (h1 : e * e ≤ n) (h2 : n < d * d) (h3 : 0 ≤ d) : e < d := by
  rcases Int.lt_or_le e d with h | h
  · exact h
  · have := Int.mul_le_mul h h h3 (by omega)
    omega
theorem zn_yes {n d : Int} (h : zn_no n d) (h1 : n < d * d) (h2 : 0 ≤ d) (h3 : 2 ≤ n) : zn_pr n := ⟨h3, fun e he hq => h e he (zn_sq hq h1 h2)⟩
theorem zn_not {n d : Int} (h1 : 2 ≤ d) (h2 : d * d ≤ n) (h3 : n % d = 0) : ¬ zn_pr n := fun h => h.2 d h1 h2 h3
theorem zn_odd {n e : Int} (hn : n % 2 = 1) (he : e % 2 = 0) : n % e ≠ 0 := by
  intro h
  have h1 := Int.dvd_of_emod_eq_zero h
  have h2 := Int.dvd_of_emod_eq_zero he
  have h3 := Int.emod_eq_zero_of_dvd (Int.dvd_trans h2 h1)
  omega
/-- the greatest that goes into both -/
def zg (a b : Int) : Nat := Nat.gcd b.toNat a.toNat
theorem zg_rest {a b : Int} (ha : 0 ≤ a) (hb : 0 ≤ b) : zg b (a % b) = zg a b := by
  unfold zg
  rw [Int.toNat_emod ha hb]
  exact (Nat.gcd_rec b.toNat a.toNat).symm
theorem zg_zero {a b : Int} (hb : b = 0) : zg a b = a.toNat := by
  subst hb
  exact Nat.gcd_zero_left a.toNat
theorem zg_step {a b t : Nat} (hb : 0 < b) (hb2 : b ≤ 1099511627776) (h0 : t = 0 ∨ b < a) (h : a * b * 2 ^ t ≤ 1267650600228229401496703205376) : b * (a % b) * 2 ^ (t + 1) ≤ 1267650600228229401496703205376 ∧ a % b < b := by
  have hr := Nat.mod_lt a hb
  refine ⟨?_, hr⟩
  rcases h0 with rfl | h0
  · have h1 : b * (a % b) ≤ 1099511627776 * 1099511627776 := Nat.mul_le_mul hb2 (by omega)
    have h2 : b * (a % b) * 2 ^ (0 + 1) = b * (a % b) * 2 := rfl
    omega
  · have h2 : 2 * (a % b) ≤ a := by
      have h3 := Nat.div_add_mod a b
      have h4 : 1 ≤ a / b := Nat.div_pos (by omega) hb
      have h5 : b * 1 ≤ b * (a / b) := Nat.mul_le_mul_left b h4
      omega
    have h6 : b * (a % b) * 2 ^ (t + 1) = b * (2 * (a % b)) * 2 ^ t := by
      rw [Nat.pow_succ, Nat.mul_comm (2 ^ t) 2, ← Nat.mul_assoc, Nat.mul_assoc b (a % b) 2, Nat.mul_comm (a % b) 2]
    have h7 : b * (2 * (a % b)) * 2 ^ t ≤ b * a * 2 ^ t := Nat.mul_le_mul_right _ (Nat.mul_le_mul_left b h2)
    rw [Nat.mul_comm b a] at h7
    omega
theorem zg_end {a b t : Nat} (ha : 1 ≤ a) (hb : 1 ≤ b) (ht : 200 ≤ t) (h : a * b * 2 ^ t ≤ 1267650600228229401496703205376) : False := by
  have h1 : 2 ^ 200 ≤ 2 ^ t := Nat.pow_le_pow_right (by decide) ht
  have h2 : 1 * 1 ≤ a * b := Nat.mul_le_mul ha hb
  have h3 : 1 * 1 * 2 ^ 200 ≤ a * b * 2 ^ t := Nat.mul_le_mul h2 h1
  exact absurd (Nat.le_trans h3 h) (by decide)
/-- what was recorded of an operation -/
def zrec (j : Nat) (a b c : Int) : Prop := if j = 27 then Int32.ofInt a * Int32.ofInt b = Int32.ofInt c else if j = 28 then Int32.ofInt a - Int32.ofInt a / Int32.ofInt b * Int32.ofInt b = Int32.ofInt c else if j = 22 then Int64.ofInt a * Int64.ofInt b = Int64.ofInt c else if j = 24 then Int64.ofInt a - Int64.ofInt a / Int64.ofInt b * Int64.ofInt b = Int64.ofInt c else if j = 25 then Int32.ofInt a - Int32.ofInt b = Int32.ofInt c else if j = 21 then Int64.ofInt a - Int64.ofInt b = Int64.ofInt c else Int64.ofInt a / Int64.ofInt b = Int64.ofInt c
theorem zm_25 {a b c : Int} (h : zrec 25 a b c) (h1 : -2147483648 ≤ a - b) (h2 : a - b ≤ 2147483647) (h3 : -2147483648 ≤ c) (h4 : c ≤ 2147483647) : c = a - b := by
  have h : Int32.ofInt a - Int32.ofInt b = Int32.ofInt c := h
  rw [← Int32.ofInt_sub] at h
  have := congrArg Int32.toInt h
  rw [zk_i32 h1 h2, zk_i32 h3 h4] at this
  exact this.symm
theorem zm_21 {a b c : Int} (h : zrec 21 a b c) (h1 : -9223372036854775808 ≤ a - b) (h2 : a - b ≤ 9223372036854775807) (h3 : -9223372036854775808 ≤ c) (h4 : c ≤ 9223372036854775807) : c = a - b := by
  have h : Int64.ofInt a - Int64.ofInt b = Int64.ofInt c := h
  rw [← Int64.ofInt_sub] at h
  have := congrArg Int64.toInt h
  rw [zk_i64 h1 h2, zk_i64 h3 h4] at this
  exact this.symm
theorem zm_23 {a b c : Int} (h : zrec 23 a b c) (h1 : 0 ≤ a) (h2 : a ≤ 9223372036854775807) (h5 : 1 ≤ b) (h6 : b ≤ 9223372036854775807) (h3 : -9223372036854775808 ≤ c) (h4 : c ≤ 9223372036854775807) : c = a / b := by
  have h : Int64.ofInt a / Int64.ofInt b = Int64.ofInt c := h
  rw [zk_m64div h1 h5 h2 h6] at h
  have g1 : 0 ≤ a / b := Int.ediv_nonneg h1 (by omega)
  have g2 : a / b ≤ a := Int.ediv_le_self _ h1
  have := congrArg Int64.toInt h
  rw [zk_i64 (by omega) (by omega), zk_i64 h3 h4] at this
  exact this.symm
theorem zm_27 {a b c : Int} (h : zrec 27 a b c) (h1 : -2147483648 ≤ a * b) (h2 : a * b ≤ 2147483647) (h3 : -2147483648 ≤ c) (h4 : c ≤ 2147483647) : c = a * b := by
  have h : Int32.ofInt a * Int32.ofInt b = Int32.ofInt c := h
  rw [← Int32.ofInt_mul] at h
  have := congrArg Int32.toInt h
  rw [zk_i32 h1 h2, zk_i32 h3 h4] at this
  exact this.symm
theorem zm_22 {a b c : Int} (h : zrec 22 a b c) (h1 : -9223372036854775808 ≤ a * b) (h2 : a * b ≤ 9223372036854775807) (h3 : -9223372036854775808 ≤ c) (h4 : c ≤ 9223372036854775807) : c = a * b := by
  have h : Int64.ofInt a * Int64.ofInt b = Int64.ofInt c := h
  rw [← Int64.ofInt_mul] at h
  have := congrArg Int64.toInt h
  rw [zk_i64 h1 h2, zk_i64 h3 h4] at this
  exact this.symm
theorem zm_28 {a b c : Int} (h : zrec 28 a b c) (h1 : 0 ≤ a) (h2 : a ≤ 2147483647) (h5 : 1 ≤ b) (h6 : b ≤ 2147483647) (h3 : -2147483648 ≤ c) (h4 : c ≤ 2147483647) : c = a % b := by
  have h : Int32.ofInt a - Int32.ofInt a / Int32.ofInt b * Int32.ofInt b = Int32.ofInt c := h
  rw [zk_m32rem h1 h5 h2 h6] at h
  have g1 := Int.emod_nonneg a (b := b) (by omega)
  have g2 := Int.emod_lt_of_pos a (b := b) (by omega)
  have := congrArg Int32.toInt h
  rw [zk_i32 (by omega) (by omega), zk_i32 h3 h4] at this
  exact this.symm
theorem zm_24 {a b c : Int} (h : zrec 24 a b c) (h1 : 0 ≤ a) (h2 : a ≤ 9223372036854775807) (h5 : 1 ≤ b) (h6 : b ≤ 9223372036854775807) (h3 : -9223372036854775808 ≤ c) (h4 : c ≤ 9223372036854775807) : c = a % b := by
  have h : Int64.ofInt a - Int64.ofInt a / Int64.ofInt b * Int64.ofInt b = Int64.ofInt c := h
  rw [zk_m64rem h1 h5 h2 h6] at h
  have g1 := Int.emod_nonneg a (b := b) (by omega)
  have g2 := Int.emod_lt_of_pos a (b := b) (by omega)
  have := congrArg Int64.toInt h
  rw [zk_i64 (by omega) (by omega), zk_i64 h3 h4] at this
  exact this.symm
theorem zn_dd {d : Int} (h1 : 0 ≤ d) (h2 : d ≤ 100000) : 0 ≤ d * d ∧ d * d ≤ 10000000000 := by
  refine ⟨Int.mul_nonneg h1 h1, ?_⟩
  have := Int.mul_le_mul h2 h2 h1 (by omega)
  omega
/-- numbers of choices: as the class makes them, and as the reference does -/
def zb (n : Nat) : Nat → Nat
  | 0 => 1
  | k + 1 => zb n k * (n - k) / (k + 1)
def zrw (m : Nat) : Nat → Nat
  | 0 => 1
  | i + 1 => zrw m i * (m + i + 1) / (i + 1)
def zch (n c : Nat) : Nat := if c ≤ n then zb n c else 0
def zht (n f c : Nat) : Nat := zch n c - zch (n - f) c
theorem zb_tab : ∀ n, n < 41 → ∀ k, k < n + 1 → zrw (n - k) k = zb n k ∧ 1 ≤ zb n k ∧ zb n k ≤ 1099511627776 := by decide +kernel
theorem zch_up : ∀ n, n < 40 → ∀ c, c < 41 → zch n c ≤ zch (n + 1) c := by decide +kernel
theorem zch_mono {c : Nat} (hc : c < 41) : ∀ (f m : Nat), m + f < 41 → zch m c ≤ zch (m + f) c
  | 0, m, _ => Nat.le_refl _
  | f + 1, m, h => Nat.le_trans (zch_mono hc f m (by omega)) (zch_up (m + f) (by omega) c hc)
theorem zch_low {n f c : Nat} (hn : n < 41) (hf : f ≤ n) (hc : c < 41) : zch (n - f) c ≤ zch n c := by
  have := zch_mono hc f (n - f) (by omega)
  rwa [show n - f + f = n by omega] at this
theorem zch_le {n c : Nat} (hn : n < 41) : zch n c ≤ 1099511627776 := by
  unfold zch
  split
  · exact (zb_tab n hn c (by omega)).2.2
  · omega
theorem zch_pos {n c : Nat} (hn : n < 41) (hc : c ≤ n) : 1 ≤ zch n c := by
  unfold zch
  rw [if_pos hc]
  exact (zb_tab n hn c (by omega)).2.1
/-- c opened lines are enough -/
def zsat (n f a b : Int) (c : Nat) : Prop := (zch n.toNat c : Int) * a ≤ (zht n.toNat f.toNat c : Int) * b
def zgq (n f c : Nat) : Nat := Nat.gcd (zht n f c) (zch n c)
theorem zgq_pos {n f c : Nat} (hn : n < 41) (hc : c ≤ n) : 0 < zgq n f c := Nat.gcd_pos_of_pos_right _ (zch_pos hn hc)
theorem zsat_q {n f c : Nat} {a b : Int} (hg : 0 < zgq n f c) : (zch n c : Int) * a ≤ (zht n f c : Int) * b ↔ a * ((zch n c / zgq n f c : Nat) : Int) ≤ ((zht n f c / zgq n f c : Nat) : Int) * b := by
  have e1 : zch n c = zgq n f c * (zch n c / zgq n f c) := (Nat.mul_div_cancel' (Nat.gcd_dvd_right _ _)).symm
  have e2 : zht n f c = zgq n f c * (zht n f c / zgq n f c) := (Nat.mul_div_cancel' (Nat.gcd_dvd_left _ _)).symm
  generalize zch n c / zgq n f c = w at *
  generalize zht n f c / zgq n f c = h at *
  generalize zgq n f c = g at *
  rw [e1, e2, Int.natCast_mul, Int.natCast_mul, Int.mul_assoc, Int.mul_assoc, Int.mul_comm (w : Int) a]
  exact ⟨fun z => Int.le_of_mul_le_mul_left z (by omega), fun z => Int.mul_le_mul_of_nonneg_left z (by omega)⟩
/-- the done hands: n numbers seen, in blocks, at most 1830 of them -/
def zf_cl (f : Nat → Int) (n : Int) : Prop := ∃ e : Nat, zb_k f 0 e ∧ n = min 1830 (e : Int)
def zf_bi (f : Nat → Int) (n c v : Int) : Prop := 0 ≤ c ∧ ∃ s : Nat, zb_k f 0 s ∧ n = min 1830 (s + c) ∧ (s < 1830 → 1 ≤ c → f s = v)
def zf_hw (f : Nat → Int) (n v : Int) : Prop := ∃ s : Nat, zb_k f 0 s ∧ n = s ∧ n < 1830 ∧ f s = v
def zf_hd (ua : Nat → Nat) (dI : Nat → Nat → Nat) (F : Nat → Nat → Int) (P : Nat → (Nat → Int) → Int → Prop) : Prop := ∀ p, p = 0 ∨ p = 1 → F (ua (1030 + p)) (dI 3 3) = (ua (1040 + p) : Int) ∧ P (ua (1030 + p)) (F (ua (1040 + p))) (F (ua (1030 + p)) (dI 3 10))
def zp_bi (x c v : Int) (a : Nat) (f : Nat → Int) (n : Int) : Prop := if a = x.toNat then zf_bi f n c v else zf_cl f n
def zp_hw (x v : Int) (a : Nat) (f : Nat → Int) (n : Int) : Prop := if a = x.toNat then zf_hw f n v else zf_cl f n
def zp_wk (x : Int) (i : Nat) (a : Nat) (f : Nat → Int) (n : Int) : Prop := a = x.toNat → ∃ e : Nat, zb_w f 0 i e ∧ n ≤ e
def zPT (j : Nat) (vs : List Int) : Prop :=
  if j = 180 then ∃ n c w : Int, vs = [n, c, w] ∧ 0 ≤ c ∧ w = (zch n.toNat c.toNat : Int)
  else if j = 181 then ∃ n i w : Int, vs = [n, i, w] ∧ 0 ≤ i ∧ w = (zb n.toNat i.toNat : Int)
  else if j = 182 then ∃ n k i w : Int, vs = [n, k, i, w] ∧ 1 ≤ i ∧ w = (zrw (n - k).toNat (i - 1).toNat : Int)
  else if j = 183 then ∃ n f c h : Int, vs = [n, f, c, h] ∧ h = (zht n.toNat f.toNat c.toNat : Int)
  else if j = 191 ∨ j = 195 then ∃ n f c q : Int, vs = [n, f, c, q] ∧ q = ((zht n.toNat f.toNat c.toNat / zgq n.toNat f.toNat c.toNat : Nat) : Int)
  else if j = 192 ∨ j = 196 then ∃ n f c q : Int, vs = [n, f, c, q] ∧ q = ((zch n.toNat c.toNat / zgq n.toNat f.toNat c.toNat : Nat) : Int)
  else if j = 193 then ∃ n f a b c : Int, vs = [n, f, a, b, c] ∧ ∀ x : Nat, (x : Int) < c → ¬ zsat n f a b x
  else if j = 194 ∨ j = 198 then ∃ n f a b c : Int, vs = [n, f, a, b, c] ∧ (0 ≤ c ∧ c ≤ n) ∧ zsat n f a b c.toNat ∧ ∀ x : Nat, (x : Int) < c → ¬ zsat n f a b x
  else if j = 199 ∨ j = 200 then ∃ n f a b : Int, vs = [n, f, a, b] ∧ ∀ x : Nat, (x : Int) ≤ n → ¬ zsat n f a b x
  else False
def zPR (ua : Nat → Nat) (dI : Nat → Nat → Nat) (j : Nat) (F : Nat → Nat → Int) (vs : List Int) : Prop :=
  if j = 150 then vs = [] ∧ zf_hd ua dI F (fun _ f n => zf_cl f n)
  else if j = 151 then ∃ x c v : Int, vs = [x, c, v] ∧ zf_hd ua dI F (zp_bi x c v)
  else if j = 152 then ∃ x v : Int, vs = [x, v] ∧ zf_hd ua dI F (zp_hw x v)
  else if j = 153 then ∃ x i : Int, vs = [x, i] ∧ 0 ≤ i ∧ zf_hd ua dI F (zp_wk x i.toNat)
  else if j = 154 then ∃ x i n : Int, vs = [x, i, n] ∧ 0 ≤ i ∧ 0 ≤ n ∧ n ≤ 60 ∧ zf_hd ua dI F (zp_wk x (i + 1 + n).toNat)
  else if j = 160 then ∃ n : Int, vs = [n] ∧ zn_pr n
  else if j = 161 then ∃ n : Int, vs = [n] ∧ ¬ zn_pr n
  else if j = 162 then ∃ n d : Int, vs = [n, d] ∧ zn_no n d
  else if j = 164 then ∃ n d : Int, vs = [n, d] ∧ zn_no n d ∧ n % 2 = 1 ∧ d % 2 = 1
  else if j = 170 then ∃ u v a b t : Int, vs = [u, v, a, b, t] ∧ (0 ≤ a ∧ 0 ≤ b ∧ 0 ≤ t) ∧ zg a b = zg u v ∧ (t = 0 ∨ b < a) ∧ a.toNat * b.toNat * 2 ^ t.toNat ≤ 1267650600228229401496703205376
  else if j = 171 then ∃ u v g : Int, vs = [u, v, g] ∧ 0 ≤ g ∧ g.toNat = zg u v
  else if j = 172 then ∃ u v : Int, vs = [u, v] ∧ zg u v = 1
  else if j = 173 then ∃ u v : Int, vs = [u, v] ∧ zg u v ≠ 1
  else if j = 174 then ∃ u v a b : Int, vs = [u, v, a, b] ∧ (0 ≤ a ∧ 0 ≤ b) ∧ zg a b = zg u v
  else zPT j vs
/-- how often a number stands in a row -/
def zc_n (f : Nat → Int) (x : Int) : Nat → Int
  | 0 => 0
  | n + 1 => zc_n f x n + (if f n = x then 1 else 0)
/-- what the changes of a side up to a day do to that -/
def zc_r (sd dy ky cm : Nat → Int) (s d x : Int) : Nat → Int
  | 0 => 0
  | c + 1 => zc_r sd dy ky cm s d x c + (if sd c = s ∧ dy c ≤ d ∧ ky c = x then (if 1 ≤ cm c then 1 else -1) else 0)
theorem zc_n_eq {f g : Nat → Int} {x : Int} : ∀ {n : Nat}, (∀ j, j < n → g j = f j) → zc_n g x n = zc_n f x n
  | 0, _ => rfl
  | n + 1, h => by
    show zc_n g x n + _ = zc_n f x n + _
    rw [zc_n_eq (fun j hj => h j (by omega)), h n (by omega)]
theorem zc_n_zero {f : Nat → Int} {x : Int} : ∀ {n : Nat}, (∀ j, j < n → f j ≠ x) → zc_n f x n = 0
  | 0, _ => rfl
  | n + 1, h => by
    show zc_n f x n + _ = 0
    rw [zc_n_zero (fun j hj => h j (by omega)), if_neg (h n (by omega))]
    rfl
theorem zc_n_nn (f : Nat → Int) (x : Int) : ∀ n, 0 ≤ zc_n f x n
  | 0 => Int.le_refl _
  | n + 1 => by
    have := zc_n_nn f x n
    show 0 ≤ zc_n f x n + _
    split <;> omega
theorem zc_n_ge {f : Nat → Int} {x : Int} {j : Nat} : ∀ {n : Nat}, j < n → f j = x → 1 ≤ zc_n f x n
  | 0, h, _ => by omega
  | n + 1, h, e => by
    show 1 ≤ zc_n f x n + _
    by_cases h' : j < n
    · have := zc_n_ge h' e
      split <;> omega
    · have ej : j = n := by omega
      rw [← ej, if_pos e]
      have := zc_n_nn f x j
      omega
theorem zc_n_upd {f g : Nat → Int} {x y : Int} {p : Nat} (hp : g p = y) (ho : ∀ j, j ≠ p → g j = f j) : ∀ {m : Nat}, p < m → zc_n g x m + (if f p = x then 1 else 0) = zc_n f x m + (if y = x then 1 else 0)
  | 0, h => by omega
  | m + 1, h => by
    show zc_n g x m + (if g m = x then 1 else 0) + _ = zc_n f x m + (if f m = x then 1 else 0) + _
    by_cases h' : p < m
    · have := zc_n_upd (x := x) hp ho h'
      rw [ho m (by omega)]
      omega
    · have e : p = m := by omega
      subst e
      rw [zc_n_eq (g := g) (f := f) (fun j hj => ho j (by omega)), hp]
      omega
theorem zc_n_swap {f g : Nat → Int} {x : Int} {p m : Nat} (hp : g p = f m) (ho : ∀ j, j ≠ p → g j = f j) (h : p ≤ m) : zc_n g x m + (if f p = x then 1 else 0) = zc_n f x (m + 1) := by
  show _ = zc_n f x m + (if f m = x then 1 else 0)
  by_cases h' : p < m
  · exact zc_n_upd hp ho h'
  · have e : p = m := by omega
    subst e
    rw [zc_n_eq (g := g) (f := f) (fun j hj => ho j (by omega))]
theorem zc_r_eq {sd dy ky cm sd' dy' ky' cm' : Nat → Int} {s d x : Int} : ∀ {c : Nat}, (∀ j, j < c → sd' j = sd j ∧ dy' j = dy j ∧ ky' j = ky j ∧ cm' j = cm j) → zc_r sd' dy' ky' cm' s d x c = zc_r sd dy ky cm s d x c
  | 0, _ => rfl
  | c + 1, h => by
    show zc_r sd' dy' ky' cm' s d x c + _ = zc_r sd dy ky cm s d x c + _
    obtain ⟨h1, h2, h3, h4⟩ := h c (by omega)
    rw [zc_r_eq (fun j hj => h j (by omega)), h1, h2, h3, h4]
theorem zc_r_day {sd dy ky cm : Nat → Int} {s d d' x : Int} : ∀ {c : Nat}, (∀ j, j < c → dy j ≤ d ∧ dy j ≤ d') → zc_r sd dy ky cm s d x c = zc_r sd dy ky cm s d' x c
  | 0, _ => rfl
  | c + 1, h => by
    show zc_r sd dy ky cm s d x c + _ = zc_r sd dy ky cm s d' x c + _
    obtain ⟨h1, h2⟩ := h c (by omega)
    rw [zc_r_day (fun j hj => h j (by omega))]
    simp only [h1, h2, true_and]
/-- how often a key stands in a side's list after c changes, those up to a day -/
def zc_t (ua : Nat → Nat) (F : Nat → Nat → Int) (s d : Int) (c : Nat) (x : Int) : Int := zc_n (fun j => F (ua 79) (40 * s.toNat + j)) x (F (ua 77) s.toNat).toNat + zc_r (F (ua 114)) (F (ua 115)) (F (ua 116)) (F (ua 118)) s d x c
/-- the changes: days don't fall, up to L; who goes is there -/
def zf_ch (ua : Nat → Nat) (F : Nat → Nat → Int) (n L : Int) : Prop := 0 ≤ n ∧ ∀ c : Nat, (c : Int) < n → F (ua 115) c ≤ L ∧ (∀ j, j < c → F (ua 115) j ≤ F (ua 115) c) ∧ (F (ua 114) c = 0 ∨ F (ua 114) c = 1) ∧ (F (ua 118) c ≤ 0 → 1 ≤ zc_t ua F (F (ua 114) c) (F (ua 115) c) c (F (ua 116) c))
def zPS (ua : Nat → Nat) (dI : Nat → Nat → Nat) (j : Nat) (F : Nat → Nat → Int) (vs : List Int) : Prop :=
  if j = 108 then vs = [] ∧ F (ua 43) (dI 12 60) = 0
  else if j = 109 then vs = [] ∧ True
  else if j = 110 then vs = [] ∧ zf_ch ua F (F (ua 43) (dI 12 60)) (F (ua 43) (dI 12 61))
  else if j = 111 then ∃ s d c : Int, vs = [s, d, c] ∧ 0 ≤ c ∧ (s = 0 ∨ s = 1) ∧ 0 ≤ F (ua 43) (dI 12 67) ∧ ∀ x, zc_n (F (ua 119)) x (F (ua 43) (dI 12 67)).toNat = zc_t ua F s d c.toNat x
  else if j = 112 then ∃ s k : Int, vs = [s, k] ∧ ∀ i : Nat, (i : Int) < k → F (ua 119) i = F (ua 79) (40 * s.toNat + i)
  else if j = 113 then ∃ k p : Int, vs = [k, p] ∧ ∀ i : Nat, (i : Int) < p → F (ua 119) i ≠ k
  else if j = 114 then ∃ s d c p : Int, vs = [s, d, c, p] ∧ 0 ≤ c ∧ (s = 0 ∨ s = 1) ∧ 0 ≤ p ∧ p ≤ F (ua 43) (dI 12 67) ∧ ∀ x, zc_n (F (ua 119)) x ((F (ua 43) (dI 12 67)).toNat + 1) = zc_t ua F s d (c.toNat + 1) x + (if F (ua 119) p.toNat = x then 1 else 0)
  else if j = 115 then ∃ s d k : Int, vs = [s, d, k] ∧ (s = 0 ∨ s = 1) ∧ 0 ≤ F (ua 43) (dI 12 60) ∧ 1 ≤ zc_t ua F s d (F (ua 43) (dI 12 60)).toNat k
  else if j = 116 then ∃ d : Int, vs = [d] ∧ zf_ch ua F (F (ua 43) (dI 12 60)) d
  else if j = 117 then ∃ k : Int, vs = [k] ∧ ∀ i : Nat, (i : Int) < F (ua 43) (dI 12 67) → F (ua 119) i ≠ k
  else if j = 118 then ∃ k p : Int, vs = [k, p] ∧ 0 ≤ p ∧ p < F (ua 43) (dI 12 67) ∧ F (ua 119) p.toNat = k
  else if j = 119 then ∃ s d : Int, vs = [s, d] ∧ (s = 0 ∨ s = 1) ∧ 0 ≤ F (ua 43) (dI 12 67) ∧ 0 ≤ F (ua 43) (dI 12 60) ∧ ∀ x, zc_n (F (ua 119)) x (F (ua 43) (dI 12 67)).toNat = zc_t ua F s d (F (ua 43) (dI 12 60)).toNat x
  else False
def zPP (ua : Nat → Nat) (dI : Nat → Nat → Nat) (j : Nat) (F : Nat → Nat → Int) (vs : List Int) : Prop :=
  if j = 102 then vs = [] ∧ F (ua 84) 0 ≤ 30 ∧ zf_ln ua F 0 (F (ua 84) 0)
  else if j = 103 then vs = [] ∧ F (ua 84) 1 ≤ 30 ∧ zf_ln ua F 30 (F (ua 84) 1)
  else if j = 104 then ∃ k : Int, vs = [k] ∧ zf_ln ua F 0 k
  else if j = 100 then vs = [] ∧ zf_wy ua dI F (fun _ _ => False)
  else if j = 101 then ∃ x i : Int, vs = [x, i] ∧ zf_wy ua dI F (fun a j => a = x.toNat ∧ j = i.toNat)
  else if 150 ≤ j then zPR ua dI j F vs
  else if 108 ≤ j ∧ j ≤ 119 then zPS ua dI j F vs
  else zPQ ua j F vs
def zUq : List Nat := [84, 86, 88, 105, 106, 111, 112, 43, 77, 79, 114, 115, 116, 118, 119]
def zUa : List Nat := [84, 86, 88, 105, 106, 111, 112, 43, 77, 79, 114, 115, 116, 118, 119, 1000, 1001, 1010, 1011, 1020, 1021, 1030, 1031, 1040, 1041]
theorem zUq_a : ∀ t ∈ zUq, t ∈ zUa := by decide
/-- the cells that the facts speak of, with their types -/
def zUt : List (Nat × Nat) := [(84, 84), (86, 86), (88, 88), (105, 105), (106, 106), (111, 111), (112, 112), (43, 43), (77, 77), (79, 79), (114, 114), (115, 115), (116, 116), (118, 118), (119, 119), (1000, 33), (1001, 33), (1010, 53), (1011, 53), (1020, 55), (1021, 55), (1030, 37), (1031, 37), (1040, 63), (1041, 63)]
def zty (ua : Nat → Nat) (ty : Nat → Nat) : Prop := ∀ q ∈ zUt, ty (ua q.1) = q.2 + 1
def zk_d2 (D : zD) (ua : Nat → Nat) : Prop := (∀ j, 100 ≤ j → ∀ (ty : Nat → Nat) (H : Heap) (vs : List Int), D.OP j ty H vs ↔ zty ua ty ∧ zPP ua D.dI j (zi H) vs) ∧ (∀ t ∈ zUq, ∀ a, D.RO t a → a = ua t) ∧ (∀ t ∈ zUq, (D.TT t).1 ≠ 9) ∧ (∀ t ∈ zUa, ∀ u ∈ zUa, ua t = ua u → t = u) ∧ (∀ t, (D.TT t).1 = 0 → (D.TT t).1 ≠ 9) ∧ (D.TT 33).1 = 0 ∧ (D.TT 33).2.1 = 10 ∧ (∀ a, D.RO 33 a → a = ua 1000 ∨ a = ua 1001) ∧ (∀ (ty : Nat → Nat) (H : Heap) (l : List Int), D.OP 26 ty H l → ∃ a b c : Int, l = [a, b, c] ∧ Int32.ofInt a + Int32.ofInt b = Int32.ofInt c) ∧ D.TT = zTT ∧ (∀ a, D.RO 37 a → a = ua 1030 ∨ a = ua 1031) ∧ (∀ j ∈ [21, 22, 23, 24, 25, 27, 28], ∀ (ty : Nat → Nat) (H : Heap) (l : List Int), D.OP j ty H l → ∃ a b c : Int, l = [a, b, c] ∧ zrec j a b c) ∧ D.dI 3 3 ≠ D.dI 3 10 ∧ D.dI 12 60 ≠ D.dI 12 61 ∧ D.dI 12 60 ≠ D.dI 12 67 ∧ D.dI 12 61 ≠ D.dI 12 67
section
variable {D : zD} {ua : Nat → Nat} {ty : Nat → Nat} {H H' : Heap}
theorem zd_at (hD : zk_d2 D ua) (hT : zk_T D ty H) {x : Int} {t : Nat} (h : ty x.toNat = t + 1) (ht : t ∈ zUq) : x.toNat = ua t := hD.2.1 t ht _ (zk_T_RO hT h (hD.2.2.1 t ht))
theorem zd_em (hD : zk_d2 D ua) (hT : zk_T D ty H) {t : Nat} (ht : t ∈ zUq) {l : List Int} (h : zr_pr D ty H (1, t, 0) l) : ∃ x i v : Int, l = [x, i, v] ∧ 0 ≤ i ∧ zi H (ua t) i.toNat = v := by
  unfold zr_pr at h
  rw [if_neg (show ¬ (1 : Nat) = 0 by decide), if_pos rfl] at h
  obtain ⟨x, i, v, e, -, h1, h2, h3⟩ := h
  exact ⟨x, i, v, e, h2, by rw [← zd_at hD hT h1 ht]; exact h3⟩
theorem zd_op {j : Nat} {l : List Int} (hD : zk_d2 D ua) (hj : 100 ≤ j) (h : zr_pr D ty H (0, j, 0) l) : zPP ua D.dI j (zi H) l := by
  unfold zr_pr at h
  rw [if_pos rfl] at h
  exact ((hD.1 j hj _ _ _).mp h).2
theorem zd_ty {j : Nat} {l : List Int} (hD : zk_d2 D ua) (hj : 100 ≤ j) (h : zr_pr D ty H (0, j, 0) l) : zty ua ty := by
  unfold zr_pr at h
  rw [if_pos rfl] at h
  exact ((hD.1 j hj _ _ _).mp h).1
/-- a store outside -/
theorem zd_ne (hD : zk_d2 D ua) (hT : zk_T D ty H) {a : Int} {t i : Nat} (ha : ty a.toNat = t + 1) (ht : t ∈ zUq) (ho : ∀ b k, ¬ (b = a.toNat ∧ k = i) → zi H' b k = zi H b k) {u k : Nat} (hu : u ∈ zUq) (hn : u ≠ t ∨ k ≠ i) : zi H' (ua u) k = zi H (ua u) k := by
  have e := zd_at hD hT ha ht
  refine ho _ _ (fun z => ?_)
  rcases hn with h | h
  · exact h (hD.2.2.2.1 u (zUq_a u hu) t (zUq_a t ht) (by rw [z.1, e]))
  · exact h z.2
end
section
variable {D : zD} {ua : Nat → Nat}
/-- a store into the one array of a type, as a statement about numbers -/
def zs_A (D : zD) (ua : Nat → Nat) (R : zRs) : Prop := ∀ (ty : Nat → Nat) (H H' : Heap) (w a : Int) (i : Nat) (Ls : List (List Int)), zk_T D ty H → zr_all D ty H R.2.1 Ls → zr_cs (0 :: w :: a :: (i : Int) :: Ls.flatten) R.2.2.1 → zi H' (ua R.1.2.1) i = w → (∀ u k, u ∈ zUq → (u ≠ R.1.2.1 ∨ k ≠ i) → zi H' (ua u) k = zi H (ua u) k) → zPP ua D.dI R.2.2.2.1 (zi H') (R.2.2.2.2.map (fun t => (0 :: w :: a :: (i : Int) :: Ls.flatten).getD t.1 0 + t.2))
theorem zs_A_ok (hD : zk_d2 D ua) {R : zRs} (h1 : R.1.1 = 1) (ht : R.1.2.1 ∈ zUq) (hj : 100 ≤ R.2.2.2.1) (h0 : ∃ j ps, R.2.1 = (0, j, 0) :: ps ∧ 100 ≤ j) (h : zs_A D ua R) : zr_okS D R := by
  intro ty H H' w a i hd Ls hT hT' ha hty hh hp hc hw ho
  rw [if_neg (by rw [h1]; decide)] at hh
  subst hh
  obtain ⟨j0, ps0, e0, h0⟩ := h0
  have hz : zty ua ty := by
    have hp' := hp
    rw [e0] at hp'
    obtain ⟨l0, Ls0, -, p0, -⟩ := zr_cons hp'
    exact zd_ty hD h0 p0
  refine (hD.1 _ hj _ _ _).mpr ⟨hz, ?_⟩
  refine h ty H H' w a i Ls hT hp hc (by rw [← zd_at hD hT hty ht]; exact hw) (fun u k hu hn => zd_ne hD hT hty ht ho hu hn)
theorem zc1 {es : List Int} {c : Nat × Nat × Int} {cs : List (Nat × Nat × Int)} (h : zr_cs es (c :: cs)) : es.getD c.1 0 ≤ es.getD c.2.1 0 + c.2.2 ∧ zr_cs es cs := ⟨h c List.mem_cons_self, fun c' hc' => h c' (List.mem_cons_of_mem _ hc')⟩
/-- a field of one of the ways -/
theorem zd_wy (hD : zk_d2 D ua) {ty : Nat → Nat} {H : Heap} (hT : zk_T D ty H) {k : Nat} {l : List Int} (h : zr_pr D ty H (2, 33, k) l) : ∃ x v : Int, l = [x, v] ∧ 0 ≤ x ∧ (∃ p, (p = 0 ∨ p = 1) ∧ x.toNat = ua (1000 + p)) ∧ zi H x.toNat (D.dI 10 k) = v := by
  unfold zr_pr at h
  rw [if_neg (show ¬ (2 : Nat) = 0 by decide), if_neg (show ¬ (2 : Nat) = 1 by decide), if_neg (show ¬ (2 : Nat) = 3 by decide)] at h
  obtain ⟨x, v, e, h0, h1, h2⟩ := h
  dsimp only at h1 h2
  rw [hD.2.2.2.2.2.2.1] at h2
  have := hD.2.2.2.2.2.2.2.1 _ (zk_T_RO hT h1 (by rw [hD.2.2.2.2.2.1]; decide))
  refine ⟨x, v, e, h0, ?_, h2⟩
  rcases this with e | e
  · exact ⟨0, Or.inl rfl, e⟩
  · exact ⟨1, Or.inr rfl, e⟩
theorem zd_pl {ty : Nat → Nat} {H : Heap} {t : Nat} {l : List Int} (h : zr_pr D ty H (1, t, 0) l) : ∃ x i v : Int, l = [x, i, v] ∧ 0 ≤ x ∧ 0 ≤ i ∧ zi H x.toNat i.toNat = v := by
  unfold zr_pr at h
  rw [if_neg (show ¬ (1 : Nat) = 0 by decide), if_pos rfl] at h
  obtain ⟨x, i, v, e, h0, h1, h2, h3⟩ := h
  exact ⟨x, i, v, e, h0, h2, h3⟩
theorem zd_ww (hD : zk_d2 D ua) {t u : Nat} (ht : t ∈ zUa) (hu : u ∈ zUa) (h : t ≠ u) : ua t ≠ ua u := fun e => h (hD.2.2.2.1 t ht u hu e)
/-- a sum that was taken -/
theorem zd_26 (hD : zk_d2 D ua) {ty : Nat → Nat} {H : Heap} {l : List Int} (h : zr_pr D ty H (0, 26, 0) l) : ∃ a b c : Int, l = [a, b, c] ∧ Int32.ofInt a + Int32.ofInt b = Int32.ofInt c := by
  unfold zr_pr at h
  rw [if_pos rfl] at h
  exact hD.2.2.2.2.2.2.2.2.1 _ _ _ h
theorem zd_TT (hD : zk_d2 D ua) : D.TT = zTT := hD.2.2.2.2.2.2.2.2.2.1
theorem zd_dI (hD : zk_d2 D ua) : D.dI 3 3 ≠ D.dI 3 10 ∧ D.dI 12 60 ≠ D.dI 12 61 ∧ D.dI 12 60 ≠ D.dI 12 67 ∧ D.dI 12 61 ≠ D.dI 12 67 := hD.2.2.2.2.2.2.2.2.2.2.2.2
theorem zd_rec (hD : zk_d2 D ua) {ty : Nat → Nat} {H : Heap} {j : Nat} (hj : j ∈ [21, 22, 23, 24, 25, 27, 28]) {l : List Int} (h : zr_pr D ty H (0, j, 0) l) : ∃ a b c : Int, l = [a, b, c] ∧ zrec j a b c := by
  unfold zr_pr at h
  rw [if_pos rfl] at h
  exact hD.2.2.2.2.2.2.2.2.2.2.2.1 j hj _ _ _ h
theorem zd_loc {ty : Nat → Nat} {H : Heap} {k : Nat} {l : List Int} (h : zr_pr D ty H (3, k, 0) l) : ∃ v : Int, l = [v] := by
  unfold zr_pr at h
  rw [if_neg (show ¬ (3 : Nat) = 0 by decide), if_neg (show ¬ (3 : Nat) = 1 by decide), if_pos rfl] at h
  exact h
/-- a field of the one reference -/
theorem zd_fm (hD : zk_d2 D ua) {ty : Nat → Nat} {H : Heap} (hT : zk_T D ty H) {k : Nat} {l : List Int} (h : zr_pr D ty H (2, 43, k) l) : ∃ x v : Int, l = [x, v] ∧ zi H (ua 43) (D.dI 12 k) = v := by
  unfold zr_pr at h
  rw [if_neg (show ¬ (2 : Nat) = 0 by decide), if_neg (show ¬ (2 : Nat) = 1 by decide), if_neg (show ¬ (2 : Nat) = 3 by decide)] at h
  obtain ⟨x, v, e, h0, h1, h2⟩ := h
  dsimp only at h1 h2
  rw [zd_at hD hT h1 (by decide), zd_TT hD, show (zTT 43).2.1 = 12 by decide] at h2
  exact ⟨x, v, e, h2⟩
/-- a field of one of the done hands -/
theorem zd_hd (hD : zk_d2 D ua) {ty : Nat → Nat} {H : Heap} (hT : zk_T D ty H) {k : Nat} {l : List Int} (h : zr_pr D ty H (2, 37, k) l) : ∃ x v : Int, l = [x, v] ∧ 0 ≤ x ∧ (∃ p, (p = 0 ∨ p = 1) ∧ x.toNat = ua (1030 + p)) ∧ zi H x.toNat (D.dI 3 k) = v := by
  unfold zr_pr at h
  rw [if_neg (show ¬ (2 : Nat) = 0 by decide), if_neg (show ¬ (2 : Nat) = 1 by decide), if_neg (show ¬ (2 : Nat) = 3 by decide)] at h
  obtain ⟨x, v, e, h0, h1, h2⟩ := h
  dsimp only at h1 h2
  rw [zd_TT hD, show (zTT 37).2.1 = 3 by decide] at h2
  have := hD.2.2.2.2.2.2.2.2.2.2.1 _ (zk_T_RO hT h1 (by rw [zd_TT hD]; decide))
  refine ⟨x, v, e, h0, ?_, h2⟩
  rcases this with e | e
  · exact ⟨0, Or.inl rfl, e⟩
  · exact ⟨1, Or.inr rfl, e⟩
/-- a store into a field of the one reference -/
def zs_F (D : zD) (ua : Nat → Nat) (R : zRs) : Prop := ∀ (ty : Nat → Nat) (H H' : Heap) (w a : Int) (Ls : List (List Int)), zk_T D ty H → zr_all D ty H R.2.1 Ls → zr_cs (0 :: w :: a :: Ls.flatten) R.2.2.1 → zi H' (ua 43) (D.dI 12 R.1.2.2) = w → (∀ u k, u ∈ zUq → (u ≠ 43 ∨ k ≠ D.dI 12 R.1.2.2) → zi H' (ua u) k = zi H (ua u) k) → zPP ua D.dI R.2.2.2.1 (zi H') (R.2.2.2.2.map (fun t => (0 :: w :: a :: Ls.flatten).getD t.1 0 + t.2))
theorem zs_F_ok (hD : zk_d2 D ua) {R : zRs} (h1 : R.1.1 = 0) (ht : R.1.2.1 = 43) (hj : 100 ≤ R.2.2.2.1) (h0 : ∃ j ps, R.2.1 = (0, j, 0) :: ps ∧ 100 ≤ j) (h : zs_F D ua R) : zr_okS D R := by
  intro ty H H' w a i hd Ls hT hT' ha hty hh hp hc hw ho
  rw [if_pos h1, ht, zd_TT hD, show (zTT 43).2.1 = 12 by decide] at hh
  obtain ⟨rfl, rfl⟩ := hh
  rw [ht] at hty
  obtain ⟨j0, ps0, e0, h0⟩ := h0
  have hz : zty ua ty := by
    have hp' := hp
    rw [e0] at hp'
    obtain ⟨l0, Ls0, -, p0, -⟩ := zr_cons hp'
    exact zd_ty hD h0 p0
  refine (hD.1 _ hj _ _ _).mpr ⟨hz, ?_⟩
  exact h ty H H' w a Ls hT hp hc (by rw [← zd_at hD hT hty (by decide)]; exact hw) (fun u k hu hn => zd_ne hD hT hty (by decide) ho hu hn)
/-- a store into what a hand has seen, or into its count -/
theorem zh_A (hD : zk_d2 D ua) {H H' : Heap} {P P' : Nat → (Nat → Int) → Int → Prop} (h : zf_hd ua D.dI (zi H) P) {q a i : Nat} (hq : q = 0 ∨ q = 1) (e1 : a = ua (1040 + q)) (ho : ∀ b k, ¬ (b = a ∧ k = i) → zi H' b k = zi H b k) (hne : ∀ b f n, b ≠ ua (1030 + q) → P b f n → P' b f n) (heq : (∀ j, j ≠ i → zi H' (ua (1040 + q)) j = zi H (ua (1040 + q)) j) → P (ua (1030 + q)) (zi H (ua (1040 + q))) (zi H (ua (1030 + q)) (D.dI 3 10)) → P' (ua (1030 + q)) (zi H' (ua (1040 + q))) (zi H (ua (1030 + q)) (D.dI 3 10))) : zf_hd ua D.dI (zi H') P' := by
  subst e1
  intro p hp
  obtain ⟨g1, g2⟩ := h p hp
  have n1 : ua (1030 + p) ≠ ua (1040 + q) := zd_ww hD (by rcases hp with rfl | rfl <;> decide) (by rcases hq with rfl | rfl <;> decide) (by omega)
  have e3 : ∀ k, zi H' (ua (1030 + p)) k = zi H (ua (1030 + p)) k := fun k => ho _ _ (fun z => n1 z.1)
  rw [e3, e3]
  refine ⟨g1, ?_⟩
  by_cases e : p = q
  · subst e
    exact heq (fun j hj => ho _ _ (fun z => hj z.2)) g2
  · have n2 : ua (1040 + p) ≠ ua (1040 + q) := zd_ww hD (by rcases hp with rfl | rfl <;> decide) (by rcases hq with rfl | rfl <;> decide) (by omega)
    have n3 : ua (1030 + p) ≠ ua (1030 + q) := zd_ww hD (by rcases hp with rfl | rfl <;> decide) (by rcases hq with rfl | rfl <;> decide) (by omega)
    have e4 : zi H' (ua (1040 + p)) = zi H (ua (1040 + p)) := funext (fun k => ho _ _ (fun z => n2 z.1))
    rw [e4]
    exact hne _ _ _ n3 g2
theorem zh_F (hD : zk_d2 D ua) {H H' : Heap} {P P' : Nat → (Nat → Int) → Int → Prop} (h : zf_hd ua D.dI (zi H) P) {q a : Nat} {w : Int} (hq : q = 0 ∨ q = 1) (e1 : a = ua (1030 + q)) (hw : zi H' a (D.dI 3 10) = w) (ho : ∀ b k, ¬ (b = a ∧ k = D.dI 3 10) → zi H' b k = zi H b k) (hne : ∀ b f n, b ≠ ua (1030 + q) → P b f n → P' b f n) (heq : P (ua (1030 + q)) (zi H (ua (1040 + q))) (zi H (ua (1030 + q)) (D.dI 3 10)) → P' (ua (1030 + q)) (zi H (ua (1040 + q))) w) : zf_hd ua D.dI (zi H') P' := by
  subst e1
  intro p hp
  obtain ⟨g1, g2⟩ := h p hp
  have n1 : ua (1040 + p) ≠ ua (1030 + q) := zd_ww hD (by rcases hp with rfl | rfl <;> decide) (by rcases hq with rfl | rfl <;> decide) (by omega)
  have e3 : zi H' (ua (1040 + p)) = zi H (ua (1040 + p)) := funext (fun k => ho _ _ (fun z => n1 z.1))
  rw [e3, ho _ _ (fun z => (zd_dI hD).1 z.2)]
  refine ⟨g1, ?_⟩
  by_cases e : p = q
  · subst e
    rw [hw]
    exact heq g2
  · have n3 : ua (1030 + p) ≠ ua (1030 + q) := zd_ww hD (by rcases hp with rfl | rfl <;> decide) (by rcases hq with rfl | rfl <;> decide) (by omega)
    rw [ho _ _ (fun z => n3 z.1)]
    exact hne _ _ _ n3 g2
theorem zp_bi_ne {x c v : Int} {a : Nat} {f : Nat → Int} {n : Int} (h : a ≠ x.toNat) : zp_bi x c v a f n ↔ zf_cl f n := by
  unfold zp_bi
  rw [if_neg h]
theorem zp_bi_eq {x c v : Int} {a : Nat} {f : Nat → Int} {n : Int} (h : a = x.toNat) : zp_bi x c v a f n ↔ zf_bi f n c v := by
  unfold zp_bi
  rw [if_pos h]
theorem zp_hw_ne {x v : Int} {a : Nat} {f : Nat → Int} {n : Int} (h : a ≠ x.toNat) : zp_hw x v a f n ↔ zf_cl f n := by
  unfold zp_hw
  rw [if_neg h]
theorem zp_hw_eq {x v : Int} {a : Nat} {f : Nat → Int} {n : Int} (h : a = x.toNat) : zp_hw x v a f n ↔ zf_hw f n v := by
  unfold zp_hw
  rw [if_pos h]
/-- the lists' sizes -/
theorem zd_many (hD : zk_d2 D ua) {ty : Nat → Nat} {H : Heap} (hT : zk_T D ty H) (hz : zty ua ty) {s : Nat} (hs : s = 0 ∨ s = 1) : 0 ≤ zi H (ua 77) s ∧ zi H (ua 77) s ≤ 40 := by
  have h := hT.2 (ua 77) 77 (hz (77, 77) (by decide))
  rw [zd_TT hD, if_neg (by decide)] at h
  obtain ⟨-, h⟩ := h
  unfold zk_C at h
  rw [if_neg (by decide)] at h
  obtain ⟨cell, hc, -, -, -, h⟩ := h
  obtain ⟨x, hx, z, e1, i, hi, hv⟩ := h s (by rcases hs with rfl | rfl <;> decide)
  have e2 : zk_el (zTT 77).2.2 s = (0, [(0, 40)]) := by rcases hs with rfl | rfl <;> decide
  rw [e2] at e1 hi hv
  rw [List.mem_singleton.mp hi, if_neg (by decide)] at hv
  unfold zi
  rw [hc]
  dsimp only
  rw [hx, e1]
  show 0 ≤ (Int32.ofInt z).toInt ∧ (Int32.ofInt z).toInt ≤ 40
  dsimp only at hv
  rw [zk_i32 (by omega) (by omega)]
  exact hv
theorem zc_t_eq {F G : Nat → Nat → Int} {s d x : Int} {c : Nat} (hs : s = 0 ∨ s = 1) (hm : F (ua 77) s.toNat ≤ 40) (h77 : G (ua 77) s.toNat = F (ua 77) s.toNat) (h79 : ∀ j, j < 80 → G (ua 79) j = F (ua 79) j) (hr : ∀ j, j < c → G (ua 114) j = F (ua 114) j ∧ G (ua 115) j = F (ua 115) j ∧ G (ua 116) j = F (ua 116) j ∧ G (ua 118) j = F (ua 118) j) : zc_t ua G s d c x = zc_t ua F s d c x := by
  unfold zc_t
  rw [h77, zc_r_eq hr, zc_n_eq (fun j hj => h79 _ (by rcases hs with rfl | rfl <;> omega))]
theorem zf_ch_eq {F G : Nat → Nat → Int} {n L : Int} (h77 : ∀ s, s = 0 ∨ s = 1 → G (ua 77) s = F (ua 77) s) (hm : ∀ s, s = 0 ∨ s = 1 → F (ua 77) s ≤ 40) (h79 : ∀ j, j < 80 → G (ua 79) j = F (ua 79) j) (hr : ∀ j : Nat, (j : Int) < n → G (ua 114) j = F (ua 114) j ∧ G (ua 115) j = F (ua 115) j ∧ G (ua 116) j = F (ua 116) j ∧ G (ua 118) j = F (ua 118) j) (h : zf_ch ua F n L) : zf_ch ua G n L := by
  refine ⟨h.1, fun c hc => ?_⟩
  obtain ⟨a1, a2, a3, a4⟩ := h.2 c hc
  obtain ⟨r1, r2, r3, r4⟩ := hr c hc
  rw [r1, r2, r3, r4]
  refine ⟨a1, fun j hj => by rw [(hr j (by omega)).2.1]; exact a2 j hj, a3, fun h' => ?_⟩
  have hs : (F (ua 114) c).toNat = 0 ∨ (F (ua 114) c).toNat = 1 := by omega
  rw [zc_t_eq a3 (hm _ hs) (h77 _ hs) h79 (fun j hj => hr j (by omega))]
  exact a4 h'
theorem zc_t_fun {F G : Nat → Nat → Int} {s d x : Int} {c : Nat} (h : ∀ t ∈ [77, 79, 114, 115, 116, 118], G (ua t) = F (ua t)) : zc_t ua G s d c x = zc_t ua F s d c x := by
  unfold zc_t
  rw [h 77 (by decide), h 79 (by decide), h 114 (by decide), h 115 (by decide), h 116 (by decide), h 118 (by decide)]
theorem zf_ch_fun {F G : Nat → Nat → Int} {n L : Int} (h : ∀ t ∈ [77, 79, 114, 115, 116, 118], G (ua t) = F (ua t)) : zf_ch ua G n L ↔ zf_ch ua F n L := by
  unfold zf_ch
  simp only [h 114 (by decide), h 115 (by decide), h 116 (by decide), h 118 (by decide), zc_t_fun h]
theorem zc_t_succ {F : Nat → Nat → Int} {s d x : Int} {c : Nat} : zc_t ua F s d (c + 1) x = zc_t ua F s d c x + (if F (ua 114) c = s ∧ F (ua 115) c ≤ d ∧ F (ua 116) c = x then (if 1 ≤ F (ua 118) c then 1 else -1) else 0) := by
  show zc_n _ x _ + (zc_r _ _ _ _ s d x c + _) = zc_n _ x _ + zc_r _ _ _ _ s d x c + _
  omega
theorem zUq6 : ∀ t ∈ [77, 79, 114, 115, 116, 118], t ∈ zUq ∧ t ≠ 43 ∧ t ≠ 119 := by decide
theorem zd_sum {a b c : Int} (h : Int32.ofInt a + Int32.ofInt b = Int32.ofInt c) (h1 : -2147483648 ≤ a + b) (h2 : a + b ≤ 2147483647) (h3 : -2147483648 ≤ c) (h4 : c ≤ 2147483647) : c = a + b := by
  rw [← Int32.ofInt_add] at h
  have := congrArg Int32.toInt h
  rw [zk_i32 h1 h2, zk_i32 h3 h4] at this
  exact this.symm
end
def rS1_86 : zRs := ((1, 86, 0), [(0, 102, 0)], [(0, 3, -30)], (102, []))
def rS5_86 : zRs := ((1, 86, 0), [(0, 103, 0), (1, 84, 0)], [(5, 0, 1), (0, 5, -1), (6, 3, -30)], (103, []))
def rS7_86 : zRs := ((1, 86, 0), [(0, 103, 0)], [(3, 0, 29)], (103, []))
def rS12_86 : zRs := ((1, 86, 0), [(0, 104, 0)], [(4, 3, 0)], (104, [(4, 0)]))
def rS1_88 : zRs := ((1, 88, 0), [(0, 102, 0)], [(0, 3, -30)], (102, []))
def rS5_88 : zRs := ((1, 88, 0), [(0, 103, 0), (1, 84, 0)], [(5, 0, 1), (0, 5, -1), (6, 3, -30)], (103, []))
def rS7_88 : zRs := ((1, 88, 0), [(0, 103, 0)], [(3, 0, 29)], (103, []))
def rS12_88 : zRs := ((1, 88, 0), [(0, 104, 0)], [(4, 3, 0)], (104, [(4, 0)]))
def rS3 : zRs := ((1, 84, 0), [(0, 102, 0)], [(0, 3, -1)], (102, []))
def rS4 : zRs := ((1, 84, 0), [(0, 102, 0)], [(3, 0, 1), (0, 3, -1), (1, 0, 0)], (103, []))
def rS9 : zRs := ((1, 84, 0), [(0, 103, 0), (1, 84, 0), (1, 86, 0)], [(5, 0, 1), (0, 5, -1), (3, 0, 1), (0, 3, -1), (1, 6, 1), (1, 0, 30), (8, 6, 30), (6, 8, -30), (9, 0, 11), (0, 9, -6)], (103, []))
def rS10 : zRs := ((1, 84, 0), [(0, 103, 0), (1, 84, 0), (1, 88, 0)], [(5, 0, 1), (0, 5, -1), (3, 0, 1), (0, 3, -1), (1, 6, 1), (1, 0, 30), (8, 6, 30), (6, 8, -30), (0, 9, 0)], (103, []))
def rS11 : zRs := ((1, 84, 0), [(0, 103, 0)], [(3, 0, 0)], (103, []))
def rW1 : zRs := ((1, 53, 0), [(0, 100, 0), (2, 33, 1)], [(5, 2, 0), (2, 5, 0)], (101, [(4, 0), (3, 0)]))
def rW2 : zRs := ((1, 55, 0), [(0, 101, 0), (2, 33, 3)], [(6, 4, 0), (4, 6, 0), (7, 2, 0), (2, 7, 0), (3, 5, 0), (5, 3, 0), (1, 0, 7)], (100, []))
def rW3 : zRs := ((1, 55, 0), [(0, 101, 0), (2, 33, 3), (2, 33, 1), (1, 53, 0)], [(6, 4, 0), (4, 6, 0), (7, 2, 0), (2, 7, 0), (3, 5, 0), (5, 3, 0), (8, 4, 0), (4, 8, 0), (10, 9, 0), (9, 10, 0), (11, 5, 0), (5, 11, 0), (12, 0, 5)], (100, []))
def rH1_0 : zRs := ((1, 105, 0), [(0, 121, 0), (1, 106, 0)], [(4, 0, 0), (0, 4, 0), (8, 0, 0), (0, 8, 0), (3, 9, 0), (9, 3, 0)], (123, [(1, 0), (6, 0)]))
def rH2_0 : zRs := ((1, 105, 0), [(0, 121, 0), (1, 106, 0)], [(0, 4, -1), (4, 0, 60), (8, 0, 0), (0, 8, 0), (3, 9, 0), (9, 3, 0)], (121, [(4, 0), (5, 0), (6, 0)]))
def rH3_0 : zRs := ((1, 106, 0), [(0, 123, 0), (1, 106, 0)], [(7, 0, 0), (0, 7, 0), (3, 0, 0), (0, 3, 0), (1, 8, 1), (8, 1, -1)], (121, [(0, 1), (4, 0), (5, 0)]))
def rH4_0 : zRs := ((1, 106, 0), [(0, 121, 0), (1, 106, 0)], [(0, 4, -1), (4, 0, 60), (8, 0, 0), (0, 8, 0), (3, 0, 0), (0, 3, 0), (1, 9, 1), (9, 1, -1)], (121, [(4, 1), (5, 0), (6, 0)]))
def rH1_1 : zRs := ((1, 105, 0), [(0, 122, 0), (1, 106, 0)], [(4, 0, 0), (0, 4, 0), (8, 0, 1), (0, 8, -1), (3, 9, 2000), (9, 3, -2000)], (124, [(1, 0), (6, 0)]))
def rH2_1 : zRs := ((1, 105, 0), [(0, 122, 0), (1, 106, 0)], [(0, 4, -1), (4, 0, 60), (8, 0, 1), (0, 8, -1), (3, 9, 2000), (9, 3, -2000)], (122, [(4, 0), (5, 0), (6, 0)]))
def rH3_1 : zRs := ((1, 106, 0), [(0, 124, 0), (1, 106, 0)], [(7, 0, 1), (0, 7, -1), (3, 0, 1), (0, 3, -1), (1, 8, 1), (8, 1, -1)], (122, [(0, 1), (4, 0), (5, 0)]))
def rH4_1 : zRs := ((1, 106, 0), [(0, 122, 0), (1, 106, 0)], [(0, 4, -1), (4, 0, 60), (8, 0, 1), (0, 8, -1), (3, 0, 1), (0, 3, -1), (1, 9, 1), (9, 1, -1)], (122, [(4, 1), (5, 0), (6, 0)]))
def rT1_0 : zRs := ((1, 111, 0), [(0, 132, 0)], [(0, 3, -2000)], (132, []))
def rT2_0 : zRs := ((1, 112, 0), [(0, 132, 0)], [(0, 3, -1)], (132, []))
def rT3_0 : zRs := ((1, 111, 0), [(0, 134, 0), (1, 105, 0)], [(3, 4, 0), (4, 3, 0), (6, 4, 0), (4, 6, 0), (1, 7, 0), (7, 1, 0)], (134, [(4, 1)]))
def rT1_1 : zRs := ((1, 111, 0), [(0, 133, 0)], [(3, 0, 1999)], (133, []))
def rT2_1 : zRs := ((1, 112, 0), [(0, 133, 0)], [(3, 0, 0)], (133, []))
def rT3_1 : zRs := ((1, 111, 0), [(0, 135, 0), (1, 105, 0)], [(3, 4, 2000), (4, 3, -2000), (6, 4, 2000), (4, 6, -2000), (1, 7, 0), (7, 1, 0)], (135, [(4, 1)]))
def rZ1 : zRs := ((1, 63, 0), [(0, 151, 0), (2, 37, 3), (2, 37, 10)], [(7, 4, 0), (4, 7, 0), (9, 4, 0), (4, 9, 0), (8, 2, 0), (2, 8, 0), (3, 10, 0), (10, 3, 0), (3, 0, 1829), (5, 0, 0), (0, 5, 0)], (152, [(4, 0), (1, 0)]))
def rZ2 : zRs := ((1, 63, 0), [(0, 151, 0), (2, 37, 3), (2, 37, 10)], [(7, 4, 0), (4, 7, 0), (9, 4, 0), (4, 9, 0), (8, 2, 0), (2, 8, 0), (3, 10, 0), (10, 3, 0), (3, 0, 1829), (0, 5, -1)], (151, [(4, 0), (5, 0), (6, 0)]))
def rZ3 : zRs := ((0, 37, 10), [(0, 152, 0), (2, 37, 10)], [(5, 3, 0), (3, 5, 0), (2, 3, 0), (3, 2, 0), (1, 6, 1), (6, 1, -1)], (151, [(3, 0), (0, 1), (4, 0)]))
def rZ4 : zRs := ((0, 37, 10), [(0, 151, 0), (2, 37, 10)], [(6, 3, 0), (3, 6, 0), (2, 3, 0), (3, 2, 0), (1, 7, 1), (7, 1, -1), (0, 4, -1), (7, 0, 1829)], (151, [(3, 0), (4, 1), (5, 0)]))
def rZ5 : zRs := ((0, 37, 10), [(0, 150, 0)], [(1, 0, 0), (0, 1, 0)], (150, []))
def rD1 : zRs := ((1, 79, 0), [(0, 110, 0)], [(0, 3, -80)], (110, []))
def rD2 : zRs := ((1, 77, 0), [(0, 110, 0)], [(0, 3, -2)], (110, []))
def rD3_114 : zRs := ((1, 114, 0), [(0, 110, 0), (2, 43, 60)], [(5, 3, 0)], (110, []))
def rD4_114 : zRs := ((1, 114, 0), [(0, 115, 0), (2, 43, 60)], [(8, 3, 0)], (115, [(4, 0), (5, 0), (6, 0)]))
def rD3_115 : zRs := ((1, 115, 0), [(0, 110, 0), (2, 43, 60)], [(5, 3, 0)], (110, []))
def rD4_115 : zRs := ((1, 115, 0), [(0, 115, 0), (2, 43, 60)], [(8, 3, 0)], (115, [(4, 0), (5, 0), (6, 0)]))
def rD3_116 : zRs := ((1, 116, 0), [(0, 110, 0), (2, 43, 60)], [(5, 3, 0)], (110, []))
def rD4_116 : zRs := ((1, 116, 0), [(0, 115, 0), (2, 43, 60)], [(8, 3, 0)], (115, [(4, 0), (5, 0), (6, 0)]))
def rD3_118 : zRs := ((1, 118, 0), [(0, 110, 0), (2, 43, 60)], [(5, 3, 0)], (110, []))
def rD4_118 : zRs := ((1, 118, 0), [(0, 115, 0), (2, 43, 60)], [(8, 3, 0)], (115, [(4, 0), (5, 0), (6, 0)]))
def rD5 : zRs := ((0, 43, 60), [(0, 109, 0)], [(1, 0, 0), (0, 1, 0)], (108, []))
def rD6 : zRs := ((0, 43, 60), [(0, 110, 0), (2, 43, 60), (2, 43, 61), (1, 114, 0), (1, 115, 0), (1, 116, 0), (1, 118, 0)], [(8, 4, 0), (4, 8, 0), (11, 4, 0), (4, 11, 0), (14, 4, 0), (4, 14, 0), (17, 4, 0), (4, 17, 0), (1, 4, 1), (4, 1, -1), (6, 12, 0), (0, 18, -1), (0, 9, 0), (9, 0, 1)], (116, [(12, 0)]))
def rD7 : zRs := ((0, 43, 60), [(0, 110, 0), (2, 43, 60), (2, 43, 61), (1, 114, 0), (1, 115, 0), (1, 116, 0), (1, 118, 0), (0, 115, 0)], [(8, 4, 0), (4, 8, 0), (11, 4, 0), (4, 11, 0), (14, 4, 0), (4, 14, 0), (17, 4, 0), (4, 17, 0), (1, 4, 1), (4, 1, -1), (6, 12, 0), (9, 19, 0), (19, 9, 0), (12, 20, 0), (20, 12, 0), (15, 21, 0), (21, 15, 0)], (116, [(12, 0)]))
def rD8 : zRs := ((0, 43, 61), [(0, 116, 0)], [(1, 3, 0), (3, 1, 0)], (110, []))
def rD9 : zRs := ((1, 119, 0), [(0, 112, 0), (1, 79, 0)], [(4, 0, 0), (0, 4, 0), (3, 5, 0), (5, 3, 0), (7, 5, 0), (5, 7, 0), (1, 8, 0), (8, 1, 0)], (112, [(4, 0), (5, 1)]))
def rD10 : zRs := ((1, 119, 0), [(0, 112, 0), (1, 79, 0)], [(4, 0, 1), (0, 4, -1), (3, 5, 0), (5, 3, 0), (7, 5, 40), (5, 7, -40), (1, 8, 0), (8, 1, 0)], (112, [(4, 0), (5, 1)]))
def rD11 : zRs := ((1, 119, 0), [(0, 111, 0), (2, 43, 67)], [(8, 3, 0)], (111, [(4, 0), (5, 0), (6, 0)]))
def rD12 : zRs := ((0, 43, 67), [(0, 111, 0), (2, 43, 67), (1, 119, 0), (1, 114, 0), (1, 115, 0), (1, 116, 0), (1, 118, 0)], [(9, 7, 0), (7, 9, 0), (10, 19, 0), (19, 10, 0), (12, 5, 0), (5, 12, 0), (15, 5, 0), (5, 15, 0), (18, 5, 0), (5, 18, 0), (21, 5, 0), (5, 21, 0), (13, 3, 0), (3, 13, 0), (16, 4, 0), (0, 22, -1), (1, 7, 1), (7, 1, -1)], (111, [(3, 0), (4, 0), (5, 1)]))
def rD13 : zRs := ((0, 43, 67), [(0, 111, 0), (0, 118, 0), (2, 43, 67), (1, 114, 0), (1, 115, 0), (1, 116, 0), (1, 118, 0)], [(6, 18, 0), (18, 6, 0), (11, 5, 0), (5, 11, 0), (14, 5, 0), (5, 14, 0), (17, 5, 0), (5, 17, 0), (20, 5, 0), (5, 20, 0), (12, 3, 0), (3, 12, 0), (15, 4, 0), (21, 0, 0), (1, 9, -1), (9, 1, 1)], (114, [(3, 0), (4, 0), (5, 0), (7, 0)]))
def rD14 : zRs := ((1, 119, 0), [(0, 114, 0), (2, 43, 67), (1, 119, 0)], [(11, 9, 0), (9, 11, 0), (3, 7, 0), (7, 3, 0), (1, 12, 0), (12, 1, 0)], (111, [(4, 0), (5, 0), (6, 1)]))
def rU10 : zRu := (10, [(0, 103, 0)], [], [([], [(104, [(0, 0)])])])
def rU11 : zRu := (11, [(0, 103, 0), (0, 104, 0), (1, 84, 0), (1, 86, 0), (1, 86, 0), (1, 88, 0), (1, 88, 0)], [(3, 0, 1), (0, 3, -1), (6, 1, 0), (1, 6, 0), (9, 1, 30), (1, 9, -30), (12, 1, 0), (1, 12, 0), (15, 1, 30), (1, 15, -30), (1, 4, -1), (7, 10, 0), (10, 7, 0), (16, 13, 0)], [([], [(104, [(1, 1)])])])
def rU12 : zRu := (12, [(0, 104, 0), (1, 84, 0)], [(3, 0, 0), (4, 1, 0), (4, 0, 30)], [([], [(102, [])])])
def rU13 : zRu := (13, [(0, 102, 0), (1, 84, 0), (1, 86, 0), (1, 88, 0)], [(2, 0, 0), (5, 3, -1), (8, 5, 0), (5, 8, 0), (0, 6, -12)], [([(0, 9, 0)], [])])
def rU14 : zRu := (14, [(0, 102, 0), (1, 84, 0), (1, 86, 0), (1, 88, 0)], [(2, 0, 0), (5, 3, -1), (8, 5, 0), (5, 8, 0), (6, 0, 5)], [([(0, 9, 0)], [])])
def rU20 : zRu := (20, [(0, 100, 0), (2, 33, 1), (1, 53, 0), (2, 33, 3), (1, 55, 0)], [(6, 1, 0), (1, 6, 0), (3, 2, 0), (2, 3, 0), (8, 7, 0), (7, 8, 0), (9, 4, 0), (4, 9, 0), (0, 5, -6)], [([(10, 0, 7)], [])])
def rU30 : zRu := (30, [(0, 120, 0)], [(1, 0, 29), (0, 1, 0)], [([], [(121, [(0, 0), (0, 0), (1, 0)])])])
def rU32 : zRu := (32, [(0, 121, 0), (1, 106, 0)], [(5, 0, 0), (0, 5, 0), (1, 0, 60)], [([(6, 0, 1829), (0, 6, 0)], [])])
def rU34 : zRu := (34, [(0, 121, 0)], [(2, 0, -1), (0, 2, 1), (1, 0, 2), (0, 1, -2)], [([], [(120, [(3, 1)])])])
def rU36 : zRu := (36, [(0, 121, 0)], [(0, 2, 0), (2, 0, 60), (1, 2, 1), (2, 1, -1)], [([], [(120, [(3, 1)])])])
def rU31 : zRu := (31, [(0, 120, 0)], [(1, 0, 29), (0, 1, 0)], [([], [(122, [(0, 0), (0, 0), (1, 0)])])])
def rU33 : zRu := (33, [(0, 122, 0), (1, 106, 0)], [(5, 0, 1), (0, 5, -1), (1, 0, 60)], [([(6, 0, 1829), (0, 6, 0)], [])])
def rU35 : zRu := (35, [(0, 122, 0)], [(2, 0, -1), (0, 2, 1), (1, 0, 2), (0, 1, -2)], [([], [(120, [(3, 1)])])])
def rU37 : zRu := (37, [(0, 122, 0)], [(0, 2, 0), (2, 0, 60), (1, 2, 1), (2, 1, -1)], [([], [(120, [(3, 1)])])])
def rU38 : zRu := (38, [(0, 120, 0), (1, 86, 0)], [(3, 1, 0), (1, 3, 0)], [([], [(120, [(1, 1)])])])
def rU29 : zRu := (29, [(0, 120, 0)], [(1, 0, 30)], [([], [(120, [(0, 30)])])])
def rU39 : zRu := (39, [(0, 102, 0), (1, 106, 0), (1, 106, 0)], [(2, 0, 0), (5, 0, 1), (0, 5, -1), (3, 0, 0), (0, 3, 0), (6, 0, 0), (0, 6, 0)], [([], [(120, [(0, 0)])])])
def rU40 : zRu := (40, [(0, 102, 0)], [], [([], [(134, [(0, 0)])])])
def rU42 : zRu := (42, [(0, 134, 0), (0, 120, 0), (1, 106, 0), (1, 112, 0)], [(4, 0, 0), (0, 4, 0), (7, 0, 0), (0, 7, 0), (5, 1, 0), (2, 0, 30), (8, 5, 0), (5, 8, 0)], [([], [(132, [])])])
def rU44 : zRu := (44, [(0, 132, 0)], [], [([], [(136, [(0, 0)])])])
def rU46 : zRu := (46, [(0, 136, 0), (1, 112, 0), (1, 111, 0)], [(3, 0, 0), (0, 3, 0), (6, 1, 0), (1, 6, 0), (1, 4, -1)], [([(7, 0, -1), (0, 7, 1), (4, 0, 1830), (1, 4, -1), (0, 1, 0)], [(136, [(1, 2)])]), ([(0, 7, 0), (7, 0, 60), (4, 0, 1830), (1, 4, -1), (0, 1, 0)], [(138, [(1, 0), (7, 0)])])])
def rU41 : zRu := (41, [(0, 102, 0)], [], [([], [(135, [(0, 0)])])])
def rU43 : zRu := (43, [(0, 135, 0), (0, 120, 0), (1, 106, 0), (1, 112, 0)], [(4, 0, 1), (0, 4, -1), (7, 0, 1), (0, 7, -1), (5, 1, 0), (2, 0, 30), (8, 5, 0), (5, 8, 0)], [([], [(133, [])])])
def rU45 : zRu := (45, [(0, 133, 0)], [], [([], [(137, [(0, 2000)])])])
def rU47 : zRu := (47, [(0, 137, 0), (1, 112, 0), (1, 111, 0)], [(3, 0, 1), (0, 3, -1), (6, 1, 0), (1, 6, 0), (1, 4, 1999)], [([(7, 0, -1), (0, 7, 1), (4, 0, 1830), (1, 4, 1999), (0, 1, -2000)], [(137, [(1, 2)])]), ([(0, 7, 0), (7, 0, 60), (4, 0, 1830), (1, 4, 1999), (0, 1, -2000)], [(139, [(1, 0), (7, 0)])])])
def rU48 : zRu := (48, [(0, 138, 0), (0, 26, 0)], [(3, 1, 0), (1, 3, 0), (4, 2, 1), (2, 4, -1), (3, 0, 100000), (5, 0, 2147483647), (0, 5, 2147483648)], [([], [(136, [(5, 0)])])])
def rU49 : zRu := (49, [(0, 139, 0), (0, 26, 0)], [(3, 1, 0), (1, 3, 0), (4, 2, 1), (2, 4, -1), (3, 0, 100000), (5, 0, 2147483647), (0, 5, 2147483648)], [([], [(137, [(5, 0)])])])
def rU50 : zRu := (50, [(0, 150, 0), (3, 0, 0)], [], [([], [(151, [(1, 0), (0, 0), (0, 0)])])])
def rU51 : zRu := (51, [(0, 151, 0), (2, 37, 10)], [(4, 1, 0), (1, 4, 0), (0, 5, -1830), (0, 2, -1)], [([], [(151, [(1, 0), (2, 1), (3, 0)])])])
def rU52 : zRu := (52, [(0, 151, 0), (2, 37, 10), (3, 1, 0)], [(4, 1, 0), (1, 4, 0), (0, 5, -1830), (2, 0, 0), (0, 2, 0)], [([], [(151, [(1, 0), (0, 1), (6, 0)])])])
def rU53 : zRu := (53, [(0, 151, 0)], [(3, 0, -1), (0, 3, 1), (2, 0, 2), (0, 2, -2)], [([], [(150, [])])])
def rU54 : zRu := (54, [(0, 151, 0)], [(0, 3, 0), (3, 0, 60), (2, 3, 1), (3, 2, -1)], [([], [(150, [])])])
def rU55 : zRu := (55, [(0, 150, 0), (3, 0, 0)], [], [([], [(153, [(1, 0), (0, 0)])])])
def rU56 : zRu := (56, [(0, 153, 0), (2, 37, 3), (2, 37, 10), (1, 63, 0)], [(3, 1, 0), (1, 3, 0), (5, 1, 0), (1, 5, 0), (7, 4, 0), (4, 7, 0), (8, 2, 0), (2, 8, 0), (2, 6, -1)], [([(9, 0, -1), (0, 9, 1)], [(153, [(1, 0), (2, 2)])]), ([(0, 9, 0), (9, 0, 60)], [(154, [(1, 0), (2, 0), (9, 0)])])])
def rU57 : zRu := (57, [(0, 154, 0), (0, 26, 0)], [(4, 2, 0), (2, 4, 0), (5, 3, 1), (3, 5, -1), (4, 0, 100000), (0, 4, 0), (6, 0, 2147483647), (0, 6, 2147483648)], [([], [(153, [(1, 0), (6, 0)])])])
def rU60 : zRu := (60, [(0, 108, 0)], [], [([], [(110, [])])])
def rU61 : zRu := (61, [(0, 110, 0), (3, 1, 0)], [], [([], [(112, [(1, 0), (0, 0)])])])
def rU62 : zRu := (62, [(0, 112, 0), (3, 1, 0), (3, 2, 0), (2, 43, 67), (1, 77, 0)], [(1, 3, 0), (3, 1, 0), (8, 1, 0), (1, 8, 0), (6, 9, 0), (9, 6, 0), (6, 2, 0), (0, 1, 0), (1, 0, 1), (0, 6, 0)], [([], [(111, [(1, 0), (4, 0), (0, 0)])])])
def rU63 : zRu := (63, [(0, 111, 0), (1, 114, 0)], [(5, 3, 0), (3, 5, 0), (6, 1, -1)], [([], [(111, [(1, 0), (2, 0), (3, 1)])])])
def rU64 : zRu := (64, [(0, 111, 0), (1, 114, 0)], [(5, 3, 0), (3, 5, 0), (1, 6, -1)], [([], [(111, [(1, 0), (2, 0), (3, 1)])])])
def rU65 : zRu := (65, [(0, 111, 0), (1, 115, 0)], [(5, 3, 0), (3, 5, 0), (2, 6, -1)], [([], [(111, [(1, 0), (2, 0), (3, 1)])])])
def rU66 : zRu := (66, [(0, 117, 0), (0, 111, 0), (0, 110, 0), (2, 43, 60), (1, 114, 0), (1, 115, 0), (1, 116, 0), (1, 118, 0)], [(1, 15, 0), (15, 1, 0), (8, 4, 0), (4, 8, 0), (11, 4, 0), (4, 11, 0), (14, 4, 0), (4, 14, 0), (17, 4, 0), (4, 17, 0), (9, 2, 0), (2, 9, 0), (12, 3, 0), (18, 0, 0), (4, 6, -1)], [])
def rU67 : zRu := (67, [(0, 111, 0), (2, 43, 60)], [(3, 5, 0), (5, 3, 0)], [([], [(119, [(1, 0), (2, 0)])])])
def rU68 : zRu := (68, [(0, 119, 0), (0, 118, 0)], [], [([], [(115, [(1, 0), (2, 0), (3, 0)])])])
def rU70 : zRu := (70, [(0, 110, 0), (3, 1, 0)], [], [([], [(113, [(1, 0), (0, 0)])])])
def rU71 : zRu := (71, [(0, 113, 0), (2, 43, 67), (1, 119, 0)], [(6, 2, 0), (2, 6, 0), (2, 4, -1), (0, 2, 0)], [([(7, 1, -1)], [(113, [(1, 0), (2, 1)])]), ([(1, 7, -1)], [(113, [(1, 0), (2, 1)])]), ([(7, 1, 0), (1, 7, 0)], [(118, [(1, 0), (2, 0)])])])
def rU72 : zRu := (72, [(0, 113, 0), (2, 43, 67)], [(4, 2, 0)], [([], [(117, [(1, 0)])])])
def rU80 : zRu := (80, [(0, 109, 0), (3, 0, 0)], [], [([], [(162, [(1, 0), (0, 2)])])])
def rU81 : zRu := (81, [(0, 162, 0), (0, 22, 0)], [(3, 2, 0), (2, 3, 0), (4, 2, 0), (2, 4, 0), (1, 5, -1), (0, 2, -2), (2, 0, 100000), (0, 1, -2), (1, 0, 2147483647), (5, 0, 9223372036854775807), (0, 5, 9223372036854775808)], [([], [(160, [(1, 0)])])])
def rU82 : zRu := (82, [(0, 162, 0), (0, 22, 0), (0, 24, 0)], [(3, 2, 0), (2, 3, 0), (4, 2, 0), (2, 4, 0), (6, 1, 0), (1, 6, 0), (7, 2, 0), (2, 7, 0), (8, 0, 0), (0, 8, 0), (5, 1, 0), (0, 2, -2), (2, 0, 100000), (0, 1, -2), (1, 0, 2147483647), (5, 0, 9223372036854775807), (0, 5, 9223372036854775808)], [([], [(161, [(1, 0)])])])
def rU83 : zRu := (83, [(0, 162, 0), (0, 24, 0)], [(3, 1, 0), (1, 3, 0), (4, 2, 0), (2, 4, 0), (0, 5, -1), (0, 2, -2), (2, 0, 100000), (0, 1, -2), (1, 0, 2147483647), (5, 0, 9223372036854775807), (0, 5, 9223372036854775808)], [([], [(162, [(1, 0), (2, 1)])])])
def rU84 : zRu := (84, [(0, 109, 0), (0, 28, 0)], [(2, 0, 2), (0, 2, -2), (3, 0, 0), (0, 3, 0), (0, 1, -4), (1, 0, 2147483647)], [([], [(161, [(1, 0)])])])
def rU85 : zRu := (85, [(0, 109, 0), (0, 28, 0)], [(2, 0, 2), (0, 2, -2), (0, 3, -1), (0, 1, 0), (1, 0, 2147483647), (3, 0, 2147483647), (0, 3, 2147483648)], [([], [(164, [(1, 0), (0, 3)])])])
def rU86 : zRu := (86, [(0, 164, 0), (0, 28, 0)], [(3, 1, 0), (1, 3, 0), (4, 2, 0), (2, 4, 0), (0, 5, -1), (0, 2, -2), (2, 0, 100000), (0, 1, -2), (1, 0, 2147483647), (5, 0, 2147483647), (0, 5, 2147483648)], [([], [(164, [(1, 0), (2, 2)])])])
def rU87 : zRu := (87, [(0, 164, 0)], [(0, 2, -46341), (1, 0, 2147483647), (0, 1, -2)], [([], [(160, [(1, 0)])])])
def rU88 : zRu := (88, [(0, 164, 0), (0, 27, 0)], [(3, 2, 0), (2, 3, 0), (4, 2, 0), (2, 4, 0), (1, 5, -1), (0, 2, -2), (2, 0, 46340), (0, 1, -2), (5, 0, 2147483647), (0, 5, 2147483648)], [([], [(160, [(1, 0)])])])
def rU89 : zRu := (89, [(0, 164, 0), (0, 27, 0), (0, 28, 0)], [(3, 2, 0), (2, 3, 0), (4, 2, 0), (2, 4, 0), (6, 1, 0), (1, 6, 0), (7, 2, 0), (2, 7, 0), (8, 0, 0), (0, 8, 0), (5, 1, 0), (0, 2, -2), (2, 0, 46340), (0, 1, -2), (1, 0, 2147483647), (5, 0, 2147483647), (0, 5, 2147483648)], [([], [(161, [(1, 0)])])])
def rU90 : zRu := (90, [(0, 160, 0), (0, 161, 0)], [(1, 2, 0), (2, 1, 0)], [])
def rU91 : zRu := (91, [(0, 109, 0), (3, 0, 0), (3, 2, 0)], [(0, 1, 0), (1, 0, 1099511627776), (0, 2, 0), (2, 0, 1099511627776)], [([], [(170, [(1, 0), (2, 0), (1, 0), (2, 0), (0, 0)])])])
def rU92 : zRu := (92, [(0, 170, 0), (0, 24, 0)], [(6, 3, 0), (3, 6, 0), (7, 4, 0), (4, 7, 0), (0, 3, 0), (3, 0, 1099511627776), (0, 4, 0), (4, 0, 1099511627776), (0, 4, -1), (8, 0, 9223372036854775807), (0, 8, 9223372036854775808)], [([], [(170, [(1, 0), (2, 0), (4, 0), (8, 0), (5, 1)])])])
def rU93 : zRu := (93, [(0, 170, 0)], [(0, 4, -1), (0, 5, -200)], [])
def rU94 : zRu := (94, [(0, 170, 0)], [(4, 0, 0)], [([], [(171, [(1, 0), (2, 0), (3, 0)])])])
def rU95 : zRu := (95, [(0, 109, 0), (3, 0, 0), (3, 2, 0)], [(0, 1, 0), (1, 0, 1099511627776), (0, 2, 0), (2, 0, 1099511627776)], [([], [(174, [(1, 0), (2, 0), (1, 0), (2, 0)])])])
def rU96 : zRu := (96, [(0, 174, 0), (0, 24, 0)], [(5, 3, 0), (3, 5, 0), (6, 4, 0), (4, 6, 0), (0, 3, 0), (3, 0, 1099511627776), (0, 4, 0), (4, 0, 1099511627776), (0, 4, -1), (7, 0, 9223372036854775807), (0, 7, 9223372036854775808)], [([], [(174, [(1, 0), (2, 0), (4, 0), (7, 0)])])])
def rU97 : zRu := (97, [(0, 174, 0)], [(4, 0, 0)], [([], [(171, [(1, 0), (2, 0), (3, 0)])])])
def rU98 : zRu := (98, [(0, 171, 0)], [], [([(3, 0, 0)], [(173, [(1, 0), (2, 0)])]), ([(3, 0, 1), (0, 3, -1)], [(172, [(1, 0), (2, 0)])]), ([(0, 3, -2)], [(173, [(1, 0), (2, 0)])])])
def rU99 : zRu := (99, [(0, 172, 0), (0, 173, 0)], [(1, 3, 0), (3, 1, 0), (2, 4, 0), (4, 2, 0)], [])
def rU110 : zRu := (110, [(0, 109, 0), (3, 0, 0), (3, 2, 0)], [(0, 1, 0), (1, 0, 40), (2, 0, 1), (0, 2, -1)], [([], [(181, [(1, 0), (0, 0), (2, 0)])])])
def rU111 : zRu := (111, [(0, 181, 0), (0, 25, 0), (0, 22, 0), (0, 23, 0), (3, 1, 0)], [(4, 1, 0), (1, 4, 0), (5, 2, 0), (2, 5, 0), (7, 3, 0), (3, 7, 0), (8, 6, 0), (6, 8, 0), (10, 9, 0), (9, 10, 0), (11, 2, 1), (2, 11, -1), (2, 13, -1), (13, 1, 0), (0, 2, 0), (0, 1, 0), (1, 0, 40), (6, 0, 2147483647), (0, 6, 2147483648), (9, 0, 9223372036854775807), (0, 9, 9223372036854775808), (12, 0, 9223372036854775807), (0, 12, 9223372036854775808)], [([], [(181, [(1, 0), (2, 1), (12, 0)])])])
def rU112 : zRu := (112, [(0, 181, 0), (3, 1, 0)], [(2, 4, 0), (4, 2, 0), (0, 1, 0), (1, 0, 40), (4, 1, 0)], [([(0, 3, -1), (3, 0, 1099511627776)], [(180, [(1, 0), (4, 0), (3, 0)])])])
def rU113 : zRu := (113, [(0, 109, 0), (3, 0, 0), (3, 1, 0)], [(1, 2, -1), (0, 1, 0), (1, 0, 40)], [([], [(180, [(1, 0), (2, 0), (0, 0)])])])
def rU114 : zRu := (114, [(0, 109, 0), (3, 0, 0), (3, 1, 0), (3, 2, 0)], [(0, 1, 0), (1, 0, 40), (0, 2, 0), (2, 1, 0), (3, 0, 1), (0, 3, -1)], [([], [(182, [(1, 0), (2, 0), (0, 1), (3, 0)])])])
def rU115 : zRu := (115, [(0, 182, 0), (0, 25, 0), (0, 26, 0), (0, 22, 0), (0, 23, 0)], [(5, 1, 0), (1, 5, 0), (6, 2, 0), (2, 6, 0), (8, 7, 0), (7, 8, 0), (9, 3, 0), (3, 9, 0), (11, 4, 0), (4, 11, 0), (12, 10, 0), (10, 12, 0), (14, 13, 0), (13, 14, 0), (15, 3, 0), (3, 15, 0), (0, 1, 0), (1, 0, 40), (0, 2, 0), (2, 1, 0), (3, 2, 0), (0, 3, -1), (7, 0, 2147483647), (0, 7, 2147483648), (10, 0, 2147483647), (0, 10, 2147483648), (13, 0, 9223372036854775807), (0, 13, 9223372036854775808), (16, 0, 9223372036854775807), (0, 16, 9223372036854775808)], [([], [(182, [(1, 0), (2, 0), (3, 1), (16, 0)])])])
def rU116 : zRu := (116, [(0, 182, 0)], [(3, 2, 1), (2, 3, -1), (0, 1, 0), (1, 0, 40), (0, 2, 0), (2, 1, 0)], [([(0, 4, -1), (4, 0, 1099511627776)], [(180, [(1, 0), (2, 0), (4, 0)])])])
def rU117 : zRu := (117, [(0, 180, 0), (0, 180, 0), (0, 25, 0), (0, 21, 0)], [(5, 2, 0), (2, 5, 0), (7, 1, 0), (1, 7, 0), (9, 4, 0), (4, 9, 0), (10, 3, 0), (3, 10, 0), (11, 6, 0), (6, 11, 0), (0, 1, 0), (1, 0, 40), (0, 8, 0), (8, 1, 0), (0, 2, 0), (2, 1, 0), (4, 0, 2147483647), (0, 4, 2147483648), (12, 0, 9223372036854775807), (0, 12, 9223372036854775808)], [([(0, 12, 0), (12, 0, 1099511627776), (12, 3, 0)], [(183, [(1, 0), (8, 0), (2, 0), (12, 0)])])])
def rU118 : zRu := (118, [(0, 180, 0), (0, 25, 0)], [(4, 1, 0), (1, 4, 0), (6, 2, -1), (0, 1, 0), (1, 0, 40), (0, 5, 0), (5, 1, 0), (0, 2, 0), (2, 1, 0), (6, 0, 2147483647), (0, 6, 2147483648)], [([], [(183, [(1, 0), (5, 0), (2, 0), (3, 0)])])])
def rU119 : zRu := (119, [(0, 183, 0), (0, 180, 0), (0, 171, 0), (0, 23, 0)], [(8, 4, 0), (4, 8, 0), (9, 7, 0), (7, 9, 0), (5, 1, 0), (1, 5, 0), (6, 3, 0), (3, 6, 0), (0, 1, 0), (1, 0, 40), (0, 2, 0), (2, 1, 0), (0, 3, 0), (3, 1, 0), (11, 4, 0), (4, 11, 0), (12, 10, 0), (10, 12, 0), (13, 0, 9223372036854775807), (0, 13, 9223372036854775808)], [([], [(191, [(1, 0), (2, 0), (3, 0), (13, 0)])])])
def rU120 : zRu := (120, [(0, 183, 0), (0, 180, 0), (0, 171, 0), (0, 23, 0)], [(8, 4, 0), (4, 8, 0), (9, 7, 0), (7, 9, 0), (5, 1, 0), (1, 5, 0), (6, 3, 0), (3, 6, 0), (0, 1, 0), (1, 0, 40), (0, 2, 0), (2, 1, 0), (0, 3, 0), (3, 1, 0), (11, 7, 0), (7, 11, 0), (12, 10, 0), (10, 12, 0), (13, 0, 9223372036854775807), (0, 13, 9223372036854775808)], [([], [(192, [(1, 0), (2, 0), (3, 0), (13, 0)])])])
def rU121 : zRu := (121, [(0, 183, 0), (0, 180, 0), (0, 171, 0), (0, 23, 0)], [(9, 4, 0), (4, 9, 0), (8, 7, 0), (7, 8, 0), (5, 1, 0), (1, 5, 0), (6, 3, 0), (3, 6, 0), (0, 1, 0), (1, 0, 40), (0, 2, 0), (2, 1, 0), (0, 3, 0), (3, 1, 0), (11, 4, 0), (4, 11, 0), (12, 10, 0), (10, 12, 0), (13, 0, 9223372036854775807), (0, 13, 9223372036854775808)], [([], [(195, [(1, 0), (2, 0), (3, 0), (13, 0)])])])
def rU122 : zRu := (122, [(0, 183, 0), (0, 180, 0), (0, 171, 0), (0, 23, 0)], [(9, 4, 0), (4, 9, 0), (8, 7, 0), (7, 8, 0), (5, 1, 0), (1, 5, 0), (6, 3, 0), (3, 6, 0), (0, 1, 0), (1, 0, 40), (0, 2, 0), (2, 1, 0), (0, 3, 0), (3, 1, 0), (11, 7, 0), (7, 11, 0), (12, 10, 0), (10, 12, 0), (13, 0, 9223372036854775807), (0, 13, 9223372036854775808)], [([], [(196, [(1, 0), (2, 0), (3, 0), (13, 0)])])])
def rU125 : zRu := (125, [(0, 171, 0)], [(0, 2, -1)], [([(0, 3, -1)], [])])
def rU123 : zRu := (123, [(0, 191, 0), (0, 195, 0)], [(5, 1, 0), (1, 5, 0), (6, 2, 0), (2, 6, 0), (7, 3, 0), (3, 7, 0)], [([(4, 8, 0), (8, 4, 0)], [])])
def rU124 : zRu := (124, [(0, 192, 0), (0, 196, 0)], [(5, 1, 0), (1, 5, 0), (6, 2, 0), (2, 6, 0), (7, 3, 0), (3, 7, 0)], [([(4, 8, 0), (8, 4, 0)], [])])
def rU126 : zRu := (126, [(0, 109, 0), (3, 1, 0), (3, 2, 0), (3, 3, 0), (3, 4, 0)], [], [([], [(193, [(1, 0), (2, 0), (3, 0), (4, 0), (0, 0)])])])
def rU127 : zRu := (127, [(0, 193, 0), (0, 183, 0), (0, 180, 0), (0, 22, 0), (0, 22, 0)], [(6, 1, 0), (1, 6, 0), (7, 2, 0), (2, 7, 0), (8, 5, 0), (5, 8, 0), (10, 1, 0), (1, 10, 0), (11, 5, 0), (5, 11, 0), (13, 9, 0), (9, 13, 0), (14, 4, 0), (4, 14, 0), (16, 12, 0), (12, 16, 0), (17, 3, 0), (3, 17, 0), (0, 1, 0), (1, 0, 40), (0, 2, 0), (2, 1, 0), (0, 5, 0), (5, 1, 0), (0, 4, -1), (4, 0, 10000), (0, 3, 0), (3, 4, 0), (15, 0, 9223372036854775807), (0, 15, 9223372036854775808), (18, 0, 9223372036854775807), (0, 18, 9223372036854775808), (15, 18, -1)], [([], [(193, [(1, 0), (2, 0), (3, 0), (4, 0), (5, 1)])])])
def rU128 : zRu := (128, [(0, 193, 0), (0, 183, 0), (0, 180, 0), (0, 22, 0), (0, 22, 0)], [(6, 1, 0), (1, 6, 0), (7, 2, 0), (2, 7, 0), (8, 5, 0), (5, 8, 0), (10, 1, 0), (1, 10, 0), (11, 5, 0), (5, 11, 0), (13, 9, 0), (9, 13, 0), (14, 4, 0), (4, 14, 0), (16, 12, 0), (12, 16, 0), (17, 3, 0), (3, 17, 0), (0, 1, 0), (1, 0, 40), (0, 2, 0), (2, 1, 0), (0, 5, 0), (5, 1, 0), (0, 4, -1), (4, 0, 10000), (0, 3, 0), (3, 4, 0), (15, 0, 9223372036854775807), (0, 15, 9223372036854775808), (18, 0, 9223372036854775807), (0, 18, 9223372036854775808), (18, 15, 0)], [([], [(194, [(1, 0), (2, 0), (3, 0), (4, 0), (5, 0)])])])
def rU129 : zRu := (129, [(0, 193, 0)], [(1, 5, -1)], [([], [(199, [(1, 0), (2, 0), (3, 0), (4, 0)])])])
def rU130 : zRu := (130, [(0, 193, 0), (0, 195, 0), (0, 196, 0), (0, 22, 0), (0, 22, 0)], [(6, 1, 0), (1, 6, 0), (7, 2, 0), (2, 7, 0), (8, 5, 0), (5, 8, 0), (10, 1, 0), (1, 10, 0), (11, 2, 0), (2, 11, 0), (12, 5, 0), (5, 12, 0), (14, 9, 0), (9, 14, 0), (15, 4, 0), (4, 15, 0), (17, 3, 0), (3, 17, 0), (18, 13, 0), (13, 18, 0), (0, 1, 0), (1, 0, 40), (0, 2, 0), (2, 1, 0), (0, 5, 0), (5, 1, 0), (0, 4, -1), (4, 0, 10000), (0, 3, 0), (3, 4, 0), (16, 0, 9223372036854775807), (0, 16, 9223372036854775808), (19, 0, 9223372036854775807), (0, 19, 9223372036854775808), (16, 19, -1)], [([], [(193, [(1, 0), (2, 0), (3, 0), (4, 0), (5, 1)])])])
def rU131 : zRu := (131, [(0, 193, 0), (0, 195, 0), (0, 196, 0), (0, 22, 0), (0, 22, 0)], [(6, 1, 0), (1, 6, 0), (7, 2, 0), (2, 7, 0), (8, 5, 0), (5, 8, 0), (10, 1, 0), (1, 10, 0), (11, 2, 0), (2, 11, 0), (12, 5, 0), (5, 12, 0), (14, 9, 0), (9, 14, 0), (15, 4, 0), (4, 15, 0), (17, 3, 0), (3, 17, 0), (18, 13, 0), (13, 18, 0), (0, 1, 0), (1, 0, 40), (0, 2, 0), (2, 1, 0), (0, 5, 0), (5, 1, 0), (0, 4, -1), (4, 0, 10000), (0, 3, 0), (3, 4, 0), (16, 0, 9223372036854775807), (0, 16, 9223372036854775808), (19, 0, 9223372036854775807), (0, 19, 9223372036854775808), (19, 16, 0)], [([], [(198, [(1, 0), (2, 0), (3, 0), (4, 0), (5, 0)])])])
def rU132 : zRu := (132, [(0, 193, 0)], [(1, 5, -1)], [([], [(200, [(1, 0), (2, 0), (3, 0), (4, 0)])])])
def rU133 : zRu := (133, [(0, 194, 0), (0, 198, 0)], [(6, 1, 0), (1, 6, 0), (7, 2, 0), (2, 7, 0), (8, 3, 0), (3, 8, 0), (9, 4, 0), (4, 9, 0)], [([(5, 10, 0), (10, 5, 0)], [])])
def rU134 : zRu := (134, [(0, 194, 0), (0, 200, 0)], [(6, 1, 0), (1, 6, 0), (7, 2, 0), (2, 7, 0), (8, 3, 0), (3, 8, 0), (9, 4, 0), (4, 9, 0)], [])
def rU135 : zRu := (135, [(0, 199, 0), (0, 198, 0)], [(5, 1, 0), (1, 5, 0), (6, 2, 0), (2, 6, 0), (7, 3, 0), (3, 7, 0), (8, 4, 0), (4, 8, 0)], [])
def zRSl : List zRs := [rS1_86, rS5_86, rS7_86, rS12_86, rS1_88, rS5_88, rS7_88, rS12_88, rS3, rS4, rS9, rS10, rS11, rW1, rW2, rW3, rH1_0, rH2_0, rH3_0, rH4_0, rH1_1, rH2_1, rH3_1, rH4_1, rT1_0, rT2_0, rT3_0, rT1_1, rT2_1, rT3_1, rZ1, rZ2, rZ3, rZ4, rZ5, rD1, rD2, rD3_114, rD4_114, rD3_115, rD4_115, rD3_116, rD4_116, rD3_118, rD4_118, rD5, rD6, rD7, rD8, rD9, rD10, rD11, rD12, rD13, rD14]
def zRUl : List zRu := [rU10, rU11, rU12, rU13, rU14, rU20, rU30, rU32, rU34, rU36, rU31, rU33, rU35, rU37, rU38, rU29, rU39, rU40, rU42, rU44, rU46, rU41, rU43, rU45, rU47, rU48, rU49, rU50, rU51, rU52, rU53, rU54, rU55, rU56, rU57, rU60, rU61, rU62, rU63, rU64, rU65, rU66, rU67, rU68, rU70, rU71, rU72, rU80, rU81, rU82, rU83, rU84, rU85, rU86, rU87, rU88, rU89, rU90, rU91, rU92, rU93, rU94, rU95, rU96, rU97, rU98, rU99, rU110, rU111, rU112, rU113, rU114, rU115, rU116, rU117, rU118, rU119, rU120, rU121, rU122, rU125, rU123, rU124, rU126, rU127, rU128, rU129, rU130, rU131, rU132, rU133, rU134, rU135]
section
variable {D : zD} {ua : Nat → Nat}
theorem rS1_86_ok (hD : zk_d2 D ua) : zr_okS D rS1_86 := by
  refine zs_A_ok hD rfl (by decide) (by decide) ⟨_, _, rfl, by decide⟩ ?_
  intro ty H H' w a i Ls hT hp hc hw hk
  obtain ⟨l0, Ls', rfl, p0, hp⟩ := zr_cons hp
  cases zr_nil hp
  obtain ⟨rfl, h0_1, h0_2⟩ := zd_op hD (by decide) p0
  obtain ⟨qc0, hc⟩ := zc1 hc
  have qc0 : (0 : Int) ≤ (i : Int) + -30 := qc0
  have e0 := hk 84 0 (by decide) (Or.inl (by decide))
  refine ⟨rfl, by rw [e0]; exact h0_1, fun j hj h => ?_⟩
  rw [e0] at hj
  rw [hk 86 _ (by decide) (Or.inr (by omega))] at h
  rw [hk 88 _ (by decide) (Or.inr (by omega))]
  exact h0_2 j hj h
theorem rS5_86_ok (hD : zk_d2 D ua) : zr_okS D rS5_86 := by
  refine zs_A_ok hD rfl (by decide) (by decide) ⟨_, _, rfl, by decide⟩ ?_
  intro ty H H' w a i Ls hT hp hc hw hk
  obtain ⟨l0, Ls', rfl, p0, hp⟩ := zr_cons hp
  obtain ⟨l1, Ls', rfl, p1, hp⟩ := zr_cons hp
  cases zr_nil hp
  obtain ⟨rfl, h0_1, h0_2⟩ := zd_op hD (by decide) p0
  obtain ⟨x, i1, v, rfl, hi1, hv⟩ := zd_em hD hT (by decide) p1
  obtain ⟨qc0, hc⟩ := zc1 hc
  have qc0 : i1 ≤ (0 : Int) + 1 := qc0
  obtain ⟨qc1, hc⟩ := zc1 hc
  have qc1 : (0 : Int) ≤ i1 + -1 := qc1
  obtain ⟨qc2, hc⟩ := zc1 hc
  have qc2 : v ≤ (i : Int) + -30 := qc2
  rw [show i1.toNat = 1 by omega] at hv
  have e0 := hk 84 1 (by decide) (Or.inl (by decide))
  refine ⟨rfl, by rw [e0]; exact h0_1, fun j hj h => ?_⟩
  rw [e0] at hj
  rw [hk 86 _ (by decide) (Or.inr (by omega))] at h
  rw [hk 88 _ (by decide) (Or.inr (by omega))]
  exact h0_2 j hj h
theorem rS7_86_ok (hD : zk_d2 D ua) : zr_okS D rS7_86 := by
  refine zs_A_ok hD rfl (by decide) (by decide) ⟨_, _, rfl, by decide⟩ ?_
  intro ty H H' w a i Ls hT hp hc hw hk
  obtain ⟨l0, Ls', rfl, p0, hp⟩ := zr_cons hp
  cases zr_nil hp
  obtain ⟨rfl, h0_1, h0_2⟩ := zd_op hD (by decide) p0
  obtain ⟨qc0, hc⟩ := zc1 hc
  have qc0 : (i : Int) ≤ (0 : Int) + 29 := qc0
  have e0 := hk 84 1 (by decide) (Or.inl (by decide))
  refine ⟨rfl, by rw [e0]; exact h0_1, fun j hj h => ?_⟩
  rw [e0] at hj
  rw [hk 86 _ (by decide) (Or.inr (by omega))] at h
  rw [hk 88 _ (by decide) (Or.inr (by omega))]
  exact h0_2 j hj h
theorem rS12_86_ok (hD : zk_d2 D ua) : zr_okS D rS12_86 := by
  refine zs_A_ok hD rfl (by decide) (by decide) ⟨_, _, rfl, by decide⟩ ?_
  intro ty H H' w a i Ls hT hp hc hw hk
  obtain ⟨l0, Ls', rfl, p0, hp⟩ := zr_cons hp
  cases zr_nil hp
  obtain ⟨k, rfl, h0_1⟩ := zd_op hD (by decide) p0
  obtain ⟨qc0, hc⟩ := zc1 hc
  have qc0 : k ≤ (i : Int) + 0 := qc0
  refine ⟨k, by simp [rS12_86], fun j hj h => ?_⟩
  rw [hk 86 _ (by decide) (Or.inr (by omega))] at h
  rw [hk 88 _ (by decide) (Or.inr (by omega))]
  exact h0_1 j hj h
theorem rS1_88_ok (hD : zk_d2 D ua) : zr_okS D rS1_88 := by
  refine zs_A_ok hD rfl (by decide) (by decide) ⟨_, _, rfl, by decide⟩ ?_
  intro ty H H' w a i Ls hT hp hc hw hk
  obtain ⟨l0, Ls', rfl, p0, hp⟩ := zr_cons hp
  cases zr_nil hp
  obtain ⟨rfl, h0_1, h0_2⟩ := zd_op hD (by decide) p0
  obtain ⟨qc0, hc⟩ := zc1 hc
  have qc0 : (0 : Int) ≤ (i : Int) + -30 := qc0
  have e0 := hk 84 0 (by decide) (Or.inl (by decide))
  refine ⟨rfl, by rw [e0]; exact h0_1, fun j hj h => ?_⟩
  rw [e0] at hj
  rw [hk 86 _ (by decide) (Or.inr (by omega))] at h
  rw [hk 88 _ (by decide) (Or.inr (by omega))]
  exact h0_2 j hj h
theorem rS5_88_ok (hD : zk_d2 D ua) : zr_okS D rS5_88 := by
  refine zs_A_ok hD rfl (by decide) (by decide) ⟨_, _, rfl, by decide⟩ ?_
  intro ty H H' w a i Ls hT hp hc hw hk
  obtain ⟨l0, Ls', rfl, p0, hp⟩ := zr_cons hp
  obtain ⟨l1, Ls', rfl, p1, hp⟩ := zr_cons hp
  cases zr_nil hp
  obtain ⟨rfl, h0_1, h0_2⟩ := zd_op hD (by decide) p0
  obtain ⟨x, i1, v, rfl, hi1, hv⟩ := zd_em hD hT (by decide) p1
  obtain ⟨qc0, hc⟩ := zc1 hc
  have qc0 : i1 ≤ (0 : Int) + 1 := qc0
  obtain ⟨qc1, hc⟩ := zc1 hc
  have qc1 : (0 : Int) ≤ i1 + -1 := qc1
  obtain ⟨qc2, hc⟩ := zc1 hc
  have qc2 : v ≤ (i : Int) + -30 := qc2
  rw [show i1.toNat = 1 by omega] at hv
  have e0 := hk 84 1 (by decide) (Or.inl (by decide))
  refine ⟨rfl, by rw [e0]; exact h0_1, fun j hj h => ?_⟩
  rw [e0] at hj
  rw [hk 86 _ (by decide) (Or.inr (by omega))] at h
  rw [hk 88 _ (by decide) (Or.inr (by omega))]
  exact h0_2 j hj h
theorem rS7_88_ok (hD : zk_d2 D ua) : zr_okS D rS7_88 := by
  refine zs_A_ok hD rfl (by decide) (by decide) ⟨_, _, rfl, by decide⟩ ?_
  intro ty H H' w a i Ls hT hp hc hw hk
  obtain ⟨l0, Ls', rfl, p0, hp⟩ := zr_cons hp
  cases zr_nil hp
  obtain ⟨rfl, h0_1, h0_2⟩ := zd_op hD (by decide) p0
  obtain ⟨qc0, hc⟩ := zc1 hc
  have qc0 : (i : Int) ≤ (0 : Int) + 29 := qc0
  have e0 := hk 84 1 (by decide) (Or.inl (by decide))
  refine ⟨rfl, by rw [e0]; exact h0_1, fun j hj h => ?_⟩
  rw [e0] at hj
  rw [hk 86 _ (by decide) (Or.inr (by omega))] at h
  rw [hk 88 _ (by decide) (Or.inr (by omega))]
  exact h0_2 j hj h
theorem rS12_88_ok (hD : zk_d2 D ua) : zr_okS D rS12_88 := by
  refine zs_A_ok hD rfl (by decide) (by decide) ⟨_, _, rfl, by decide⟩ ?_
  intro ty H H' w a i Ls hT hp hc hw hk
  obtain ⟨l0, Ls', rfl, p0, hp⟩ := zr_cons hp
  cases zr_nil hp
  obtain ⟨k, rfl, h0_1⟩ := zd_op hD (by decide) p0
  obtain ⟨qc0, hc⟩ := zc1 hc
  have qc0 : k ≤ (i : Int) + 0 := qc0
  refine ⟨k, by simp [rS12_88], fun j hj h => ?_⟩
  rw [hk 86 _ (by decide) (Or.inr (by omega))] at h
  rw [hk 88 _ (by decide) (Or.inr (by omega))]
  exact h0_1 j hj h
theorem rS3_ok (hD : zk_d2 D ua) : zr_okS D rS3 := by
  refine zs_A_ok hD rfl (by decide) (by decide) ⟨_, _, rfl, by decide⟩ ?_
  intro ty H H' w a i Ls hT hp hc hw hk
  obtain ⟨l0, Ls', rfl, p0, hp⟩ := zr_cons hp
  cases zr_nil hp
  obtain ⟨rfl, h0_1, h0_2⟩ := zd_op hD (by decide) p0
  obtain ⟨qc0, hc⟩ := zc1 hc
  have qc0 : (0 : Int) ≤ (i : Int) + -1 := qc0
  have e0 := hk 84 0 (by decide) (Or.inr (by omega))
  refine ⟨rfl, by rw [e0]; exact h0_1, fun j hj h => ?_⟩
  rw [e0] at hj
  rw [hk 86 _ (by decide) (Or.inl (by decide))] at h
  rw [hk 88 _ (by decide) (Or.inl (by decide))]
  exact h0_2 j hj h
theorem rS4_ok (hD : zk_d2 D ua) : zr_okS D rS4 := by
  refine zs_A_ok hD rfl (by decide) (by decide) ⟨_, _, rfl, by decide⟩ ?_
  intro ty H H' w a i Ls hT hp hc hw hk
  obtain ⟨l0, Ls', rfl, p0, hp⟩ := zr_cons hp
  cases zr_nil hp
  obtain ⟨rfl, h0_1, h0_2⟩ := zd_op hD (by decide) p0
  obtain ⟨qc0, hc⟩ := zc1 hc
  have qc0 : (i : Int) ≤ (0 : Int) + 1 := qc0
  obtain ⟨qc1, hc⟩ := zc1 hc
  have qc1 : (0 : Int) ≤ (i : Int) + -1 := qc1
  obtain ⟨qc2, hc⟩ := zc1 hc
  have qc2 : w ≤ (0 : Int) + 0 := qc2
  have e : i = 1 := by omega
  subst e
  have hw : zi H' (ua 84) 1 = w := hw
  refine ⟨rfl, by omega, fun j hj h => ?_⟩
  omega
theorem rS9_ok (hD : zk_d2 D ua) : zr_okS D rS9 := by
  refine zs_A_ok hD rfl (by decide) (by decide) ⟨_, _, rfl, by decide⟩ ?_
  intro ty H H' w a i Ls hT hp hc hw hk
  obtain ⟨l0, Ls', rfl, p0, hp⟩ := zr_cons hp
  obtain ⟨l1, Ls', rfl, p1, hp⟩ := zr_cons hp
  obtain ⟨l2, Ls', rfl, p2, hp⟩ := zr_cons hp
  cases zr_nil hp
  obtain ⟨rfl, h0_1, h0_2⟩ := zd_op hD (by decide) p0
  obtain ⟨x, i1, v, rfl, hi1, hv⟩ := zd_em hD hT (by decide) p1
  obtain ⟨x2, i2, v2, rfl, hi2, hv2⟩ := zd_em hD hT (by decide) p2
  obtain ⟨qc0, hc⟩ := zc1 hc
  have qc0 : i1 ≤ (0 : Int) + 1 := qc0
  obtain ⟨qc1, hc⟩ := zc1 hc
  have qc1 : (0 : Int) ≤ i1 + -1 := qc1
  obtain ⟨qc2, hc⟩ := zc1 hc
  have qc2 : (i : Int) ≤ (0 : Int) + 1 := qc2
  obtain ⟨qc3, hc⟩ := zc1 hc
  have qc3 : (0 : Int) ≤ (i : Int) + -1 := qc3
  obtain ⟨qc4, hc⟩ := zc1 hc
  have qc4 : w ≤ v + 1 := qc4
  obtain ⟨qc5, hc⟩ := zc1 hc
  have qc5 : w ≤ (0 : Int) + 30 := qc5
  obtain ⟨qc6, hc⟩ := zc1 hc
  have qc6 : i2 ≤ v + 30 := qc6
  obtain ⟨qc7, hc⟩ := zc1 hc
  have qc7 : v ≤ i2 + -30 := qc7
  obtain ⟨qc8, hc⟩ := zc1 hc
  have qc8 : v2 ≤ (0 : Int) + 11 := qc8
  obtain ⟨qc9, hc⟩ := zc1 hc
  have qc9 : (0 : Int) ≤ v2 + -6 := qc9
  rw [show i1.toNat = 1 by omega] at hv
  have e : i = 1 := by omega
  subst e
  have hw : zi H' (ua 84) 1 = w := hw
  refine ⟨rfl, by omega, fun j hj h => ?_⟩
  rw [hk 86 _ (by decide) (Or.inl (by decide))] at h
  rw [hk 88 _ (by decide) (Or.inl (by decide))]
  by_cases e : (j : Int) < v
  · exact h0_2 j (by omega) h
  · rw [show i2.toNat = 30 + j by omega] at hv2
    omega
theorem rS10_ok (hD : zk_d2 D ua) : zr_okS D rS10 := by
  refine zs_A_ok hD rfl (by decide) (by decide) ⟨_, _, rfl, by decide⟩ ?_
  intro ty H H' w a i Ls hT hp hc hw hk
  obtain ⟨l0, Ls', rfl, p0, hp⟩ := zr_cons hp
  obtain ⟨l1, Ls', rfl, p1, hp⟩ := zr_cons hp
  obtain ⟨l2, Ls', rfl, p2, hp⟩ := zr_cons hp
  cases zr_nil hp
  obtain ⟨rfl, h0_1, h0_2⟩ := zd_op hD (by decide) p0
  obtain ⟨x, i1, v, rfl, hi1, hv⟩ := zd_em hD hT (by decide) p1
  obtain ⟨x2, i2, v2, rfl, hi2, hv2⟩ := zd_em hD hT (by decide) p2
  obtain ⟨qc0, hc⟩ := zc1 hc
  have qc0 : i1 ≤ (0 : Int) + 1 := qc0
  obtain ⟨qc1, hc⟩ := zc1 hc
  have qc1 : (0 : Int) ≤ i1 + -1 := qc1
  obtain ⟨qc2, hc⟩ := zc1 hc
  have qc2 : (i : Int) ≤ (0 : Int) + 1 := qc2
  obtain ⟨qc3, hc⟩ := zc1 hc
  have qc3 : (0 : Int) ≤ (i : Int) + -1 := qc3
  obtain ⟨qc4, hc⟩ := zc1 hc
  have qc4 : w ≤ v + 1 := qc4
  obtain ⟨qc5, hc⟩ := zc1 hc
  have qc5 : w ≤ (0 : Int) + 30 := qc5
  obtain ⟨qc6, hc⟩ := zc1 hc
  have qc6 : i2 ≤ v + 30 := qc6
  obtain ⟨qc7, hc⟩ := zc1 hc
  have qc7 : v ≤ i2 + -30 := qc7
  obtain ⟨qc8, hc⟩ := zc1 hc
  have qc8 : (0 : Int) ≤ v2 + 0 := qc8
  rw [show i1.toNat = 1 by omega] at hv
  have e : i = 1 := by omega
  subst e
  have hw : zi H' (ua 84) 1 = w := hw
  refine ⟨rfl, by omega, fun j hj h => ?_⟩
  rw [hk 86 _ (by decide) (Or.inl (by decide))] at h
  rw [hk 88 _ (by decide) (Or.inl (by decide))]
  by_cases e : (j : Int) < v
  · exact h0_2 j (by omega) h
  · rw [show i2.toNat = 30 + j by omega] at hv2
    omega
theorem rS11_ok (hD : zk_d2 D ua) : zr_okS D rS11 := by
  refine zs_A_ok hD rfl (by decide) (by decide) ⟨_, _, rfl, by decide⟩ ?_
  intro ty H H' w a i Ls hT hp hc hw hk
  obtain ⟨l0, Ls', rfl, p0, hp⟩ := zr_cons hp
  cases zr_nil hp
  obtain ⟨rfl, h0_1, h0_2⟩ := zd_op hD (by decide) p0
  obtain ⟨qc0, hc⟩ := zc1 hc
  have qc0 : (i : Int) ≤ (0 : Int) + 0 := qc0
  have e0 := hk 84 1 (by decide) (Or.inr (by omega))
  refine ⟨rfl, by rw [e0]; exact h0_1, fun j hj h => ?_⟩
  rw [e0] at hj
  rw [hk 86 _ (by decide) (Or.inl (by decide))] at h
  rw [hk 88 _ (by decide) (Or.inl (by decide))]
  exact h0_2 j hj h
theorem rW1_ok (hD : zk_d2 D ua) : zr_okS D rW1 := by
  intro ty H H' w a i hd Ls hT hT' ha hty hh hp hc hw ho
  rw [if_neg (show ¬ rW1.1.1 = 0 by decide)] at hh
  subst hh
  obtain ⟨l0, Ls', rfl, p0, hp⟩ := zr_cons hp
  obtain ⟨l1, Ls', rfl, p1, hp⟩ := zr_cons hp
  cases zr_nil hp
  obtain ⟨rfl, h0⟩ := zd_op hD (by decide) p0
  obtain ⟨x, y, rfl, x0, ⟨q, hq, ex⟩, hy⟩ := zd_wy hD hT p1
  obtain ⟨c0, hc⟩ := zc1 hc
  obtain ⟨c1, -⟩ := zc1 hc
  have c0 : y ≤ a + 0 := c0
  have c1 : a ≤ y + 0 := c1
  have e1 : a.toNat = ua (1010 + q) := by
    have := (h0 q hq).1
    rw [ex] at hy
    omega
  refine (hD.1 _ (by decide) _ _ _).mpr ⟨zd_ty hD (by decide) p0, x, i, by simp [rW1], fun p hp => ?_⟩
  obtain ⟨g1, g2, g3⟩ := h0 p hp
  have n1 : ua (1000 + p) ≠ a.toNat := by rw [e1]; exact zd_ww hD (by rcases hp with rfl | rfl <;> decide) (by rcases hq with rfl | rfl <;> decide) (by omega)
  have n2 : ua (1020 + p) ≠ a.toNat := by rw [e1]; exact zd_ww hD (by rcases hp with rfl | rfl <;> decide) (by rcases hq with rfl | rfl <;> decide) (by omega)
  refine ⟨by rw [ho _ _ (fun z => n1 z.1)]; exact g1, by rw [ho _ _ (fun z => n1 z.1)]; exact g2, fun j hj h => ?_⟩
  rw [ho _ _ (fun z => n2 z.1)]
  rw [ho _ _ (fun z => ?_)] at h
  · exact g3 j (fun z => z) h
  · refine hj ⟨?_, by omega⟩
    rw [ex]
    have : p = q := by
      rcases hp with rfl | rfl <;> rcases hq with rfl | rfl
      · rfl
      · exact absurd (z.1.trans e1) (zd_ww hD (by decide) (by decide) (by decide))
      · exact absurd (z.1.trans e1) (zd_ww hD (by decide) (by decide) (by decide))
      · rfl
    rw [this]
theorem rW2_ok (hD : zk_d2 D ua) : zr_okS D rW2 := by
  intro ty H H' w a i hd Ls hT hT' ha hty hh hp hc hw ho
  rw [if_neg (show ¬ rW2.1.1 = 0 by decide)] at hh
  subst hh
  obtain ⟨l0, Ls', rfl, p0, hp⟩ := zr_cons hp
  obtain ⟨l1, Ls', rfl, p1, hp⟩ := zr_cons hp
  cases zr_nil hp
  obtain ⟨x0, k, rfl, h0⟩ := zd_op hD (by decide) p0
  obtain ⟨x, z, rfl, hx0, ⟨q, hq, ex⟩, hz⟩ := zd_wy hD hT p1
  obtain ⟨c0, hc⟩ := zc1 hc
  obtain ⟨c1, hc⟩ := zc1 hc
  obtain ⟨c2, hc⟩ := zc1 hc
  obtain ⟨c3, hc⟩ := zc1 hc
  obtain ⟨c4, hc⟩ := zc1 hc
  obtain ⟨c5, hc⟩ := zc1 hc
  have c0 : x ≤ x0 + 0 := c0
  have c1 : x0 ≤ x + 0 := c1
  have c2 : z ≤ a + 0 := c2
  have c3 : a ≤ z + 0 := c3
  have c4 : (i : Int) ≤ k + 0 := c4
  have c5 : k ≤ (i : Int) + 0 := c5
  obtain ⟨c6, -⟩ := zc1 hc
  have c6 : w ≤ (0 : Int) + 7 := c6
  have e1 : a.toNat = ua (1020 + q) := by
    have := (h0 q hq).2.1
    rw [ex] at hz
    omega
  refine (hD.1 _ (by decide) _ _ _).mpr ⟨zd_ty hD (by decide) p0, by simp [rW2], fun p hp => ?_⟩
  obtain ⟨g1, g2, g3⟩ := h0 p hp
  have n1 : ua (1000 + p) ≠ a.toNat := by rw [e1]; exact zd_ww hD (by rcases hp with rfl | rfl <;> decide) (by rcases hq with rfl | rfl <;> decide) (by omega)
  have n2 : ua (1010 + p) ≠ a.toNat := by rw [e1]; exact zd_ww hD (by rcases hp with rfl | rfl <;> decide) (by rcases hq with rfl | rfl <;> decide) (by omega)
  refine ⟨by rw [ho _ _ (fun z => n1 z.1)]; exact g1, by rw [ho _ _ (fun z => n1 z.1)]; exact g2, fun j hj h => ?_⟩
  rw [ho _ _ (fun z => n2 z.1)] at h
  by_cases ej : p = q ∧ j = i
  · obtain ⟨rfl, rfl⟩ := ej
    rw [← e1, hw]
    omega
  · rw [ho _ _ (fun z => ej ⟨?_, z.2⟩)]
    · refine g3 j (fun z => ej ⟨?_, by omega⟩) h
      have z1 := z.1
      have : x0.toNat = ua (1000 + q) := by rw [← ex]; congr 1; omega
      rw [this] at z1
      rcases hp with rfl | rfl <;> rcases hq with rfl | rfl
      · rfl
      · exact absurd z1 (zd_ww hD (by decide) (by decide) (by decide))
      · exact absurd z1 (zd_ww hD (by decide) (by decide) (by decide))
      · rfl
    · have z1 := z.1.trans e1
      rcases hp with rfl | rfl <;> rcases hq with rfl | rfl
      · rfl
      · exact absurd z1 (zd_ww hD (by decide) (by decide) (by decide))
      · exact absurd z1 (zd_ww hD (by decide) (by decide) (by decide))
      · rfl
theorem rW3_ok (hD : zk_d2 D ua) : zr_okS D rW3 := by
  intro ty H H' w a i hd Ls hT hT' ha hty hh hp hc hw ho
  rw [if_neg (show ¬ rW3.1.1 = 0 by decide)] at hh
  subst hh
  obtain ⟨l0, Ls', rfl, p0, hp⟩ := zr_cons hp
  obtain ⟨l1, Ls', rfl, p1, hp⟩ := zr_cons hp
  obtain ⟨l2, Ls', rfl, p2, hp⟩ := zr_cons hp
  obtain ⟨l3, Ls', rfl, p3, hp⟩ := zr_cons hp
  cases zr_nil hp
  obtain ⟨x0, k, rfl, h0⟩ := zd_op hD (by decide) p0
  obtain ⟨x, z, rfl, hx0, ⟨q, hq, ex⟩, hz⟩ := zd_wy hD hT p1
  obtain ⟨x2, y, rfl, hx2, -, hy⟩ := zd_wy hD hT p2
  obtain ⟨y2, i1, v, rfl, hy2, hi1, hv⟩ := zd_pl p3
  obtain ⟨c0, hc⟩ := zc1 hc
  obtain ⟨c1, hc⟩ := zc1 hc
  obtain ⟨c2, hc⟩ := zc1 hc
  obtain ⟨c3, hc⟩ := zc1 hc
  obtain ⟨c4, hc⟩ := zc1 hc
  obtain ⟨c5, hc⟩ := zc1 hc
  have c0 : x ≤ x0 + 0 := c0
  have c1 : x0 ≤ x + 0 := c1
  have c2 : z ≤ a + 0 := c2
  have c3 : a ≤ z + 0 := c3
  have c4 : (i : Int) ≤ k + 0 := c4
  have c5 : k ≤ (i : Int) + 0 := c5
  obtain ⟨c6, hc⟩ := zc1 hc
  obtain ⟨c7, hc⟩ := zc1 hc
  obtain ⟨c8, hc⟩ := zc1 hc
  obtain ⟨c9, hc⟩ := zc1 hc
  obtain ⟨c10, hc⟩ := zc1 hc
  obtain ⟨c11, hc⟩ := zc1 hc
  obtain ⟨c12, -⟩ := zc1 hc
  have c6 : x2 ≤ x0 + 0 := c6
  have c7 : x0 ≤ x2 + 0 := c7
  have c8 : y2 ≤ y + 0 := c8
  have c9 : y ≤ y2 + 0 := c9
  have c10 : i1 ≤ k + 0 := c10
  have c11 : k ≤ i1 + 0 := c11
  have c12 : v ≤ (0 : Int) + 5 := c12
  have e1 : a.toNat = ua (1020 + q) := by
    have := (h0 q hq).2.1
    rw [ex] at hz
    omega
  refine (hD.1 _ (by decide) _ _ _).mpr ⟨zd_ty hD (by decide) p0, by simp [rW3], fun p hp => ?_⟩
  obtain ⟨g1, g2, g3⟩ := h0 p hp
  have n1 : ua (1000 + p) ≠ a.toNat := by rw [e1]; exact zd_ww hD (by rcases hp with rfl | rfl <;> decide) (by rcases hq with rfl | rfl <;> decide) (by omega)
  have n2 : ua (1010 + p) ≠ a.toNat := by rw [e1]; exact zd_ww hD (by rcases hp with rfl | rfl <;> decide) (by rcases hq with rfl | rfl <;> decide) (by omega)
  refine ⟨by rw [ho _ _ (fun z => n1 z.1)]; exact g1, by rw [ho _ _ (fun z => n1 z.1)]; exact g2, fun j hj h => ?_⟩
  rw [ho _ _ (fun z => n2 z.1)] at h
  by_cases ej : p = q ∧ j = i
  · obtain ⟨rfl, rfl⟩ := ej
    rw [← e1, hw]
    have e2 : y2.toNat = ua (1010 + p) := by
      have : x2.toNat = ua (1000 + p) := by rw [← ex]; congr 1; omega
      rw [this] at hy
      omega
    rw [e2, show i1.toNat = j by omega] at hv
    omega
  · rw [ho _ _ (fun z => ej ⟨?_, z.2⟩)]
    · refine g3 j (fun z => ej ⟨?_, by omega⟩) h
      have z1 := z.1
      have : x0.toNat = ua (1000 + q) := by rw [← ex]; congr 1; omega
      rw [this] at z1
      rcases hp with rfl | rfl <;> rcases hq with rfl | rfl
      · rfl
      · exact absurd z1 (zd_ww hD (by decide) (by decide) (by decide))
      · exact absurd z1 (zd_ww hD (by decide) (by decide) (by decide))
      · rfl
    · have z1 := z.1.trans e1
      rcases hp with rfl | rfl <;> rcases hq with rfl | rfl
      · rfl
      · exact absurd z1 (zd_ww hD (by decide) (by decide) (by decide))
      · exact absurd z1 (zd_ww hD (by decide) (by decide) (by decide))
      · rfl
theorem rH1_0_ok (hD : zk_d2 D ua) : zr_okS D rH1_0 := by
  refine zs_A_ok hD rfl (by decide) (by decide) ⟨_, _, rfl, by decide⟩ ?_
  intro ty H H' w a i Ls hT hp hc hw hk
  obtain ⟨l0, Ls', rfl, p0, hp⟩ := zr_cons hp
  obtain ⟨l1, Ls', rfl, p1, hp⟩ := zr_cons hp
  cases zr_nil hp
  obtain ⟨c, v, k, rfl, k0, k1, b0, b1, o1, o2, a, a1, a2, a3, a4⟩ := zd_op hD (by decide) p0
  obtain ⟨x, j1, m, rfl, hj1, hm⟩ := zd_em hD hT (by decide) p1
  obtain ⟨qc0, hc⟩ := zc1 hc
  have qc0 : c ≤ (0 : Int) + 0 := qc0
  obtain ⟨qc1, hc⟩ := zc1 hc
  have qc1 : (0 : Int) ≤ c + 0 := qc1
  obtain ⟨qc2, hc⟩ := zc1 hc
  have qc2 : j1 ≤ (0 : Int) + 0 := qc2
  obtain ⟨qc3, hc⟩ := zc1 hc
  have qc3 : (0 : Int) ≤ j1 + 0 := qc3
  obtain ⟨qc4, hc⟩ := zc1 hc
  have qc4 : (i : Int) ≤ m + 0 := qc4
  obtain ⟨qc5, hc⟩ := zc1 hc
  have qc5 : m ≤ (i : Int) + 0 := qc5
  have hkeep : ∀ j, j ≠ i → zi H' (ua 105) j = zi H (ua 105) j := fun j hj => hk 105 j (by decide) (Or.inr hj)
  have e106 : ∀ j, zi H' (ua 106) j = zi H (ua 106) j := fun j => hk 106 j (by decide) (Or.inl (by decide))
  rw [show j1.toNat = 0 by omega] at hm
  have hoth : zf_sw ua (zi H') 1 (zi H' (ua 106) 1) := by
    rw [e106]
    have o3 := o1.1
    refine ⟨o1.1, zb_k_keep o1.2 (fun j h1 h2 => hkeep j ?_)⟩
    have h1 : 2000 * 1 ≤ j := h1
    have h2 : j < 2000 * 1 + (zi H (ua 106) 1).toNat := h2
    have o2 : zi H (ua 106) 1 ≤ 61 * (k + 1) := o2
    have a1 := a1.1
    omega
  have hme : zf_sw ua (zi H') 0 a := by
    refine ⟨a1.1, zb_k_keep a1.2 (fun j h1 h2 => hkeep j ?_)⟩
    have h1 : 2000 * 0 ≤ j := h1
    have a1 := a1.1
    omega
  refine ⟨w, k, by simp [rH1_0], k0, k1, by omega, by omega, hoth, by rw [e106]; exact o2, a, hme, a2, by rw [e106]; omega, fun _ => ?_⟩
  have hw : zi H' (ua 105) i = w := hw
  have a5 := a1.1
  rw [show 2000 * 0 + a.toNat = i by omega]
  exact hw
theorem rH2_0_ok (hD : zk_d2 D ua) : zr_okS D rH2_0 := by
  refine zs_A_ok hD rfl (by decide) (by decide) ⟨_, _, rfl, by decide⟩ ?_
  intro ty H H' w a i Ls hT hp hc hw hk
  obtain ⟨l0, Ls', rfl, p0, hp⟩ := zr_cons hp
  obtain ⟨l1, Ls', rfl, p1, hp⟩ := zr_cons hp
  cases zr_nil hp
  obtain ⟨c, v, k, rfl, k0, k1, b0, b1, o1, o2, a, a1, a2, a3, a4⟩ := zd_op hD (by decide) p0
  obtain ⟨x, j1, m, rfl, hj1, hm⟩ := zd_em hD hT (by decide) p1
  obtain ⟨qc0, hc⟩ := zc1 hc
  have qc0 : (0 : Int) ≤ c + -1 := qc0
  obtain ⟨qc1, hc⟩ := zc1 hc
  have qc1 : c ≤ (0 : Int) + 60 := qc1
  obtain ⟨qc2, hc⟩ := zc1 hc
  have qc2 : j1 ≤ (0 : Int) + 0 := qc2
  obtain ⟨qc3, hc⟩ := zc1 hc
  have qc3 : (0 : Int) ≤ j1 + 0 := qc3
  obtain ⟨qc4, hc⟩ := zc1 hc
  have qc4 : (i : Int) ≤ m + 0 := qc4
  obtain ⟨qc5, hc⟩ := zc1 hc
  have qc5 : m ≤ (i : Int) + 0 := qc5
  have hkeep : ∀ j, j ≠ i → zi H' (ua 105) j = zi H (ua 105) j := fun j hj => hk 105 j (by decide) (Or.inr hj)
  have e106 : ∀ j, zi H' (ua 106) j = zi H (ua 106) j := fun j => hk 106 j (by decide) (Or.inl (by decide))
  rw [show j1.toNat = 0 by omega] at hm
  have hoth : zf_sw ua (zi H') 1 (zi H' (ua 106) 1) := by
    rw [e106]
    have o3 := o1.1
    refine ⟨o1.1, zb_k_keep o1.2 (fun j h1 h2 => hkeep j ?_)⟩
    have h1 : 2000 * 1 ≤ j := h1
    have h2 : j < 2000 * 1 + (zi H (ua 106) 1).toNat := h2
    have o2 : zi H (ua 106) 1 ≤ 61 * (k + 1) := o2
    have a1 := a1.1
    omega
  have hme : zf_sw ua (zi H') 0 a := by
    refine ⟨a1.1, zb_k_keep a1.2 (fun j h1 h2 => hkeep j ?_)⟩
    have h1 : 2000 * 0 ≤ j := h1
    have a1 := a1.1
    omega
  refine ⟨c, v, k, by simp [rH2_0], k0, k1, b0, b1, hoth, by rw [e106]; exact o2, a, hme, a2, by rw [e106]; exact a3, fun h => ?_⟩
  have a5 := a1.1
  rw [hkeep _ (by omega)]
  exact a4 h
theorem rH3_0_ok (hD : zk_d2 D ua) : zr_okS D rH3_0 := by
  refine zs_A_ok hD rfl (by decide) (by decide) ⟨_, _, rfl, by decide⟩ ?_
  intro ty H H' w a i Ls hT hp hc hw hk
  obtain ⟨l0, Ls', rfl, p0, hp⟩ := zr_cons hp
  obtain ⟨l1, Ls', rfl, p1, hp⟩ := zr_cons hp
  cases zr_nil hp
  obtain ⟨v, k, rfl, k0, k1, b0, b1, o1, o2, a, a1, a2, a3, a4⟩ := zd_op hD (by decide) p0
  obtain ⟨x, j1, m, rfl, hj1, hm⟩ := zd_em hD hT (by decide) p1
  obtain ⟨qc0, hc⟩ := zc1 hc
  have qc0 : j1 ≤ (0 : Int) + 0 := qc0
  obtain ⟨qc1, hc⟩ := zc1 hc
  have qc1 : (0 : Int) ≤ j1 + 0 := qc1
  obtain ⟨qc2, hc⟩ := zc1 hc
  have qc2 : (i : Int) ≤ (0 : Int) + 0 := qc2
  obtain ⟨qc3, hc⟩ := zc1 hc
  have qc3 : (0 : Int) ≤ (i : Int) + 0 := qc3
  obtain ⟨qc4, hc⟩ := zc1 hc
  have qc4 : w ≤ m + 1 := qc4
  obtain ⟨qc5, hc⟩ := zc1 hc
  have qc5 : m ≤ w + -1 := qc5
  have e105 : ∀ j, zi H' (ua 105) j = zi H (ua 105) j := fun j => hk 105 j (by decide) (Or.inl (by decide))
  rw [show j1.toNat = 0 by omega] at hm
  have ei : i = 0 := by omega
  subst ei
  have e106 : zi H' (ua 106) 1 = zi H (ua 106) 1 := hk 106 1 (by decide) (Or.inr (by decide))
  have hw : zi H' (ua 106) 0 = w := hw
  have hoth : zf_sw ua (zi H') 1 (zi H' (ua 106) 1) := by
    rw [e106]
    exact ⟨o1.1, zb_k_keep o1.2 (fun j _ _ => e105 j)⟩
  have hme : zf_sw ua (zi H') 0 a := ⟨a1.1, zb_k_keep a1.2 (fun j _ _ => e105 j)⟩
  refine ⟨1, v, k, by simp [rH3_0], k0, k1, by omega, by omega, hoth, by rw [e106]; exact o2, a, hme, a2, by omega, fun _ => ?_⟩
  rw [e105]
  exact a4 trivial
theorem rH4_0_ok (hD : zk_d2 D ua) : zr_okS D rH4_0 := by
  refine zs_A_ok hD rfl (by decide) (by decide) ⟨_, _, rfl, by decide⟩ ?_
  intro ty H H' w a i Ls hT hp hc hw hk
  obtain ⟨l0, Ls', rfl, p0, hp⟩ := zr_cons hp
  obtain ⟨l1, Ls', rfl, p1, hp⟩ := zr_cons hp
  cases zr_nil hp
  obtain ⟨c, v, k, rfl, k0, k1, b0, b1, o1, o2, a, a1, a2, a3, a4⟩ := zd_op hD (by decide) p0
  obtain ⟨x, j1, m, rfl, hj1, hm⟩ := zd_em hD hT (by decide) p1
  obtain ⟨qc0, hc⟩ := zc1 hc
  have qc0 : (0 : Int) ≤ c + -1 := qc0
  obtain ⟨qc1, hc⟩ := zc1 hc
  have qc1 : c ≤ (0 : Int) + 60 := qc1
  obtain ⟨qc2, hc⟩ := zc1 hc
  have qc2 : j1 ≤ (0 : Int) + 0 := qc2
  obtain ⟨qc3, hc⟩ := zc1 hc
  have qc3 : (0 : Int) ≤ j1 + 0 := qc3
  obtain ⟨qc4, hc⟩ := zc1 hc
  have qc4 : (i : Int) ≤ (0 : Int) + 0 := qc4
  obtain ⟨qc5, hc⟩ := zc1 hc
  have qc5 : (0 : Int) ≤ (i : Int) + 0 := qc5
  obtain ⟨qc6, hc⟩ := zc1 hc
  have qc6 : w ≤ m + 1 := qc6
  obtain ⟨qc7, hc⟩ := zc1 hc
  have qc7 : m ≤ w + -1 := qc7
  have e105 : ∀ j, zi H' (ua 105) j = zi H (ua 105) j := fun j => hk 105 j (by decide) (Or.inl (by decide))
  rw [show j1.toNat = 0 by omega] at hm
  have ei : i = 0 := by omega
  subst ei
  have e106 : zi H' (ua 106) 1 = zi H (ua 106) 1 := hk 106 1 (by decide) (Or.inr (by decide))
  have hw : zi H' (ua 106) 0 = w := hw
  have hoth : zf_sw ua (zi H') 1 (zi H' (ua 106) 1) := by
    rw [e106]
    exact ⟨o1.1, zb_k_keep o1.2 (fun j _ _ => e105 j)⟩
  have hme : zf_sw ua (zi H') 0 a := ⟨a1.1, zb_k_keep a1.2 (fun j _ _ => e105 j)⟩
  refine ⟨c + 1, v, k, by simp [rH4_0], k0, k1, by omega, by omega, hoth, by rw [e106]; exact o2, a, hme, a2, by omega, fun _ => ?_⟩
  rw [e105]
  exact a4 (by omega)
theorem rH1_1_ok (hD : zk_d2 D ua) : zr_okS D rH1_1 := by
  refine zs_A_ok hD rfl (by decide) (by decide) ⟨_, _, rfl, by decide⟩ ?_
  intro ty H H' w a i Ls hT hp hc hw hk
  obtain ⟨l0, Ls', rfl, p0, hp⟩ := zr_cons hp
  obtain ⟨l1, Ls', rfl, p1, hp⟩ := zr_cons hp
  cases zr_nil hp
  obtain ⟨c, v, k, rfl, k0, k1, b0, b1, o1, o2, a, a1, a2, a3, a4⟩ := zd_op hD (by decide) p0
  obtain ⟨x, j1, m, rfl, hj1, hm⟩ := zd_em hD hT (by decide) p1
  obtain ⟨qc0, hc⟩ := zc1 hc
  have qc0 : c ≤ (0 : Int) + 0 := qc0
  obtain ⟨qc1, hc⟩ := zc1 hc
  have qc1 : (0 : Int) ≤ c + 0 := qc1
  obtain ⟨qc2, hc⟩ := zc1 hc
  have qc2 : j1 ≤ (0 : Int) + 1 := qc2
  obtain ⟨qc3, hc⟩ := zc1 hc
  have qc3 : (0 : Int) ≤ j1 + -1 := qc3
  obtain ⟨qc4, hc⟩ := zc1 hc
  have qc4 : (i : Int) ≤ m + 2000 := qc4
  obtain ⟨qc5, hc⟩ := zc1 hc
  have qc5 : m ≤ (i : Int) + -2000 := qc5
  have hkeep : ∀ j, j ≠ i → zi H' (ua 105) j = zi H (ua 105) j := fun j hj => hk 105 j (by decide) (Or.inr hj)
  have e106 : ∀ j, zi H' (ua 106) j = zi H (ua 106) j := fun j => hk 106 j (by decide) (Or.inl (by decide))
  rw [show j1.toNat = 1 by omega] at hm
  have hoth : zf_sw ua (zi H') 0 (zi H' (ua 106) 0) := by
    rw [e106]
    have o3 := o1.1
    refine ⟨o1.1, zb_k_keep o1.2 (fun j h1 h2 => hkeep j ?_)⟩
    have h1 : 2000 * 0 ≤ j := h1
    have h2 : j < 2000 * 0 + (zi H (ua 106) 0).toNat := h2
    have o2 : zi H (ua 106) 0 ≤ 61 * (k + 1) := o2
    have a1 := a1.1
    omega
  have hme : zf_sw ua (zi H') 1 a := by
    refine ⟨a1.1, zb_k_keep a1.2 (fun j h1 h2 => hkeep j ?_)⟩
    have h1 : 2000 * 1 ≤ j := h1
    have a1 := a1.1
    omega
  refine ⟨w, k, by simp [rH1_1], k0, k1, by omega, by omega, hoth, by rw [e106]; exact o2, a, hme, a2, by rw [e106]; omega, fun _ => ?_⟩
  have hw : zi H' (ua 105) i = w := hw
  have a5 := a1.1
  rw [show 2000 * 1 + a.toNat = i by omega]
  exact hw
theorem rH2_1_ok (hD : zk_d2 D ua) : zr_okS D rH2_1 := by
  refine zs_A_ok hD rfl (by decide) (by decide) ⟨_, _, rfl, by decide⟩ ?_
  intro ty H H' w a i Ls hT hp hc hw hk
  obtain ⟨l0, Ls', rfl, p0, hp⟩ := zr_cons hp
  obtain ⟨l1, Ls', rfl, p1, hp⟩ := zr_cons hp
  cases zr_nil hp
  obtain ⟨c, v, k, rfl, k0, k1, b0, b1, o1, o2, a, a1, a2, a3, a4⟩ := zd_op hD (by decide) p0
  obtain ⟨x, j1, m, rfl, hj1, hm⟩ := zd_em hD hT (by decide) p1
  obtain ⟨qc0, hc⟩ := zc1 hc
  have qc0 : (0 : Int) ≤ c + -1 := qc0
  obtain ⟨qc1, hc⟩ := zc1 hc
  have qc1 : c ≤ (0 : Int) + 60 := qc1
  obtain ⟨qc2, hc⟩ := zc1 hc
  have qc2 : j1 ≤ (0 : Int) + 1 := qc2
  obtain ⟨qc3, hc⟩ := zc1 hc
  have qc3 : (0 : Int) ≤ j1 + -1 := qc3
  obtain ⟨qc4, hc⟩ := zc1 hc
  have qc4 : (i : Int) ≤ m + 2000 := qc4
  obtain ⟨qc5, hc⟩ := zc1 hc
  have qc5 : m ≤ (i : Int) + -2000 := qc5
  have hkeep : ∀ j, j ≠ i → zi H' (ua 105) j = zi H (ua 105) j := fun j hj => hk 105 j (by decide) (Or.inr hj)
  have e106 : ∀ j, zi H' (ua 106) j = zi H (ua 106) j := fun j => hk 106 j (by decide) (Or.inl (by decide))
  rw [show j1.toNat = 1 by omega] at hm
  have hoth : zf_sw ua (zi H') 0 (zi H' (ua 106) 0) := by
    rw [e106]
    have o3 := o1.1
    refine ⟨o1.1, zb_k_keep o1.2 (fun j h1 h2 => hkeep j ?_)⟩
    have h1 : 2000 * 0 ≤ j := h1
    have h2 : j < 2000 * 0 + (zi H (ua 106) 0).toNat := h2
    have o2 : zi H (ua 106) 0 ≤ 61 * (k + 1) := o2
    have a1 := a1.1
    omega
  have hme : zf_sw ua (zi H') 1 a := by
    refine ⟨a1.1, zb_k_keep a1.2 (fun j h1 h2 => hkeep j ?_)⟩
    have h1 : 2000 * 1 ≤ j := h1
    have a1 := a1.1
    omega
  refine ⟨c, v, k, by simp [rH2_1], k0, k1, b0, b1, hoth, by rw [e106]; exact o2, a, hme, a2, by rw [e106]; exact a3, fun h => ?_⟩
  have a5 := a1.1
  rw [hkeep _ (by omega)]
  exact a4 h
theorem rH3_1_ok (hD : zk_d2 D ua) : zr_okS D rH3_1 := by
  refine zs_A_ok hD rfl (by decide) (by decide) ⟨_, _, rfl, by decide⟩ ?_
  intro ty H H' w a i Ls hT hp hc hw hk
  obtain ⟨l0, Ls', rfl, p0, hp⟩ := zr_cons hp
  obtain ⟨l1, Ls', rfl, p1, hp⟩ := zr_cons hp
  cases zr_nil hp
  obtain ⟨v, k, rfl, k0, k1, b0, b1, o1, o2, a, a1, a2, a3, a4⟩ := zd_op hD (by decide) p0
  obtain ⟨x, j1, m, rfl, hj1, hm⟩ := zd_em hD hT (by decide) p1
  obtain ⟨qc0, hc⟩ := zc1 hc
  have qc0 : j1 ≤ (0 : Int) + 1 := qc0
  obtain ⟨qc1, hc⟩ := zc1 hc
  have qc1 : (0 : Int) ≤ j1 + -1 := qc1
  obtain ⟨qc2, hc⟩ := zc1 hc
  have qc2 : (i : Int) ≤ (0 : Int) + 1 := qc2
  obtain ⟨qc3, hc⟩ := zc1 hc
  have qc3 : (0 : Int) ≤ (i : Int) + -1 := qc3
  obtain ⟨qc4, hc⟩ := zc1 hc
  have qc4 : w ≤ m + 1 := qc4
  obtain ⟨qc5, hc⟩ := zc1 hc
  have qc5 : m ≤ w + -1 := qc5
  have e105 : ∀ j, zi H' (ua 105) j = zi H (ua 105) j := fun j => hk 105 j (by decide) (Or.inl (by decide))
  rw [show j1.toNat = 1 by omega] at hm
  have ei : i = 1 := by omega
  subst ei
  have e106 : zi H' (ua 106) 0 = zi H (ua 106) 0 := hk 106 0 (by decide) (Or.inr (by decide))
  have hw : zi H' (ua 106) 1 = w := hw
  have hoth : zf_sw ua (zi H') 0 (zi H' (ua 106) 0) := by
    rw [e106]
    exact ⟨o1.1, zb_k_keep o1.2 (fun j _ _ => e105 j)⟩
  have hme : zf_sw ua (zi H') 1 a := ⟨a1.1, zb_k_keep a1.2 (fun j _ _ => e105 j)⟩
  refine ⟨1, v, k, by simp [rH3_1], k0, k1, by omega, by omega, hoth, by rw [e106]; exact o2, a, hme, a2, by omega, fun _ => ?_⟩
  rw [e105]
  exact a4 trivial
theorem rH4_1_ok (hD : zk_d2 D ua) : zr_okS D rH4_1 := by
  refine zs_A_ok hD rfl (by decide) (by decide) ⟨_, _, rfl, by decide⟩ ?_
  intro ty H H' w a i Ls hT hp hc hw hk
  obtain ⟨l0, Ls', rfl, p0, hp⟩ := zr_cons hp
  obtain ⟨l1, Ls', rfl, p1, hp⟩ := zr_cons hp
  cases zr_nil hp
  obtain ⟨c, v, k, rfl, k0, k1, b0, b1, o1, o2, a, a1, a2, a3, a4⟩ := zd_op hD (by decide) p0
  obtain ⟨x, j1, m, rfl, hj1, hm⟩ := zd_em hD hT (by decide) p1
  obtain ⟨qc0, hc⟩ := zc1 hc
  have qc0 : (0 : Int) ≤ c + -1 := qc0
  obtain ⟨qc1, hc⟩ := zc1 hc
  have qc1 : c ≤ (0 : Int) + 60 := qc1
  obtain ⟨qc2, hc⟩ := zc1 hc
  have qc2 : j1 ≤ (0 : Int) + 1 := qc2
  obtain ⟨qc3, hc⟩ := zc1 hc
  have qc3 : (0 : Int) ≤ j1 + -1 := qc3
  obtain ⟨qc4, hc⟩ := zc1 hc
  have qc4 : (i : Int) ≤ (0 : Int) + 1 := qc4
  obtain ⟨qc5, hc⟩ := zc1 hc
  have qc5 : (0 : Int) ≤ (i : Int) + -1 := qc5
  obtain ⟨qc6, hc⟩ := zc1 hc
  have qc6 : w ≤ m + 1 := qc6
  obtain ⟨qc7, hc⟩ := zc1 hc
  have qc7 : m ≤ w + -1 := qc7
  have e105 : ∀ j, zi H' (ua 105) j = zi H (ua 105) j := fun j => hk 105 j (by decide) (Or.inl (by decide))
  rw [show j1.toNat = 1 by omega] at hm
  have ei : i = 1 := by omega
  subst ei
  have e106 : zi H' (ua 106) 0 = zi H (ua 106) 0 := hk 106 0 (by decide) (Or.inr (by decide))
  have hw : zi H' (ua 106) 1 = w := hw
  have hoth : zf_sw ua (zi H') 0 (zi H' (ua 106) 0) := by
    rw [e106]
    exact ⟨o1.1, zb_k_keep o1.2 (fun j _ _ => e105 j)⟩
  have hme : zf_sw ua (zi H') 1 a := ⟨a1.1, zb_k_keep a1.2 (fun j _ _ => e105 j)⟩
  refine ⟨c + 1, v, k, by simp [rH4_1], k0, k1, by omega, by omega, hoth, by rw [e106]; exact o2, a, hme, a2, by omega, fun _ => ?_⟩
  rw [e105]
  exact a4 (by omega)
theorem rT1_0_ok (hD : zk_d2 D ua) : zr_okS D rT1_0 := by
  refine zs_A_ok hD rfl (by decide) (by decide) ⟨_, _, rfl, by decide⟩ ?_
  intro ty H H' w a i Ls hT hp hc hw hk
  obtain ⟨l0, Ls', rfl, p0, hp⟩ := zr_cons hp
  cases zr_nil hp
  obtain ⟨rfl, d0, d1, d2⟩ := zd_op hD (by decide) p0
  obtain ⟨qc0, hc⟩ := zc1 hc
  have qc0 : (0 : Int) ≤ (i : Int) + -2000 := qc0
  have e112 := hk 112 0 (by decide) (Or.inl (by decide))
  have d0 : 0 ≤ zi H (ua 112) 0 := d0
  refine ⟨rfl, by rw [e112]; exact d0, by rw [e112]; exact d1, ?_⟩
  rw [e112]
  refine zb_k_keep d2 (fun j h1 h2 => hk 111 j (by decide) (Or.inr ?_))
  have h1 : 2000 * 0 ≤ j := h1
  have h2 : j < 2000 * 0 + (zi H (ua 112) 0).toNat := h2
  have d1 : zi H (ua 112) 0 ≤ 1830 := d1
  omega
theorem rT2_0_ok (hD : zk_d2 D ua) : zr_okS D rT2_0 := by
  refine zs_A_ok hD rfl (by decide) (by decide) ⟨_, _, rfl, by decide⟩ ?_
  intro ty H H' w a i Ls hT hp hc hw hk
  obtain ⟨l0, Ls', rfl, p0, hp⟩ := zr_cons hp
  cases zr_nil hp
  obtain ⟨rfl, d0, d1, d2⟩ := zd_op hD (by decide) p0
  obtain ⟨qc0, hc⟩ := zc1 hc
  have qc0 : (0 : Int) ≤ (i : Int) + -1 := qc0
  have e112 := hk 112 0 (by decide) (Or.inr (by omega))
  refine ⟨rfl, by rw [e112]; exact d0, by rw [e112]; exact d1, ?_⟩
  rw [e112]
  exact zb_k_keep d2 (fun j _ _ => hk 111 j (by decide) (Or.inl (by decide)))
theorem rT3_0_ok (hD : zk_d2 D ua) : zr_okS D rT3_0 := by
  refine zs_A_ok hD rfl (by decide) (by decide) ⟨_, _, rfl, by decide⟩ ?_
  intro ty H H' w a i Ls hT hp hc hw hk
  obtain ⟨l0, Ls', rfl, p0, hp⟩ := zr_cons hp
  obtain ⟨l1, Ls', rfl, p1, hp⟩ := zr_cons hp
  cases zr_nil hp
  obtain ⟨k, rfl, h0_1⟩ := zd_op hD (by decide) p0
  obtain ⟨x, j1, v, rfl, hj1, hv⟩ := zd_em hD hT (by decide) p1
  obtain ⟨qc0, hc⟩ := zc1 hc
  have qc0 : (i : Int) ≤ k + 0 := qc0
  obtain ⟨qc1, hc⟩ := zc1 hc
  have qc1 : k ≤ (i : Int) + 0 := qc1
  obtain ⟨qc2, hc⟩ := zc1 hc
  have qc2 : j1 ≤ k + 0 := qc2
  obtain ⟨qc3, hc⟩ := zc1 hc
  have qc3 : k ≤ j1 + 0 := qc3
  obtain ⟨qc4, hc⟩ := zc1 hc
  have qc4 : w ≤ v + 0 := qc4
  obtain ⟨qc5, hc⟩ := zc1 hc
  have qc5 : v ≤ w + 0 := qc5
  refine ⟨k + 1, by simp [rT3_0], fun j hj => ?_⟩
  have hw : zi H' (ua 111) i = w := hw
  rw [hk 105 _ (by decide) (Or.inl (by decide))]
  by_cases e : (j : Int) < k
  · rw [hk 111 _ (by decide) (Or.inr (by omega))]
    exact h0_1 j e
  · have e1 : j1.toNat = i := by omega
    rw [e1] at hv
    rw [show j = i by omega]
    omega
theorem rT1_1_ok (hD : zk_d2 D ua) : zr_okS D rT1_1 := by
  refine zs_A_ok hD rfl (by decide) (by decide) ⟨_, _, rfl, by decide⟩ ?_
  intro ty H H' w a i Ls hT hp hc hw hk
  obtain ⟨l0, Ls', rfl, p0, hp⟩ := zr_cons hp
  cases zr_nil hp
  obtain ⟨rfl, d0, d1, d2⟩ := zd_op hD (by decide) p0
  obtain ⟨qc0, hc⟩ := zc1 hc
  have qc0 : (i : Int) ≤ (0 : Int) + 1999 := qc0
  have e112 := hk 112 1 (by decide) (Or.inl (by decide))
  have d0 : 0 ≤ zi H (ua 112) 1 := d0
  refine ⟨rfl, by rw [e112]; exact d0, by rw [e112]; exact d1, ?_⟩
  rw [e112]
  refine zb_k_keep d2 (fun j h1 h2 => hk 111 j (by decide) (Or.inr ?_))
  have h1 : 2000 * 1 ≤ j := h1
  have h2 : j < 2000 * 1 + (zi H (ua 112) 1).toNat := h2
  have d1 : zi H (ua 112) 1 ≤ 1830 := d1
  omega
theorem rT2_1_ok (hD : zk_d2 D ua) : zr_okS D rT2_1 := by
  refine zs_A_ok hD rfl (by decide) (by decide) ⟨_, _, rfl, by decide⟩ ?_
  intro ty H H' w a i Ls hT hp hc hw hk
  obtain ⟨l0, Ls', rfl, p0, hp⟩ := zr_cons hp
  cases zr_nil hp
  obtain ⟨rfl, d0, d1, d2⟩ := zd_op hD (by decide) p0
  obtain ⟨qc0, hc⟩ := zc1 hc
  have qc0 : (i : Int) ≤ (0 : Int) + 0 := qc0
  have e112 := hk 112 1 (by decide) (Or.inr (by omega))
  refine ⟨rfl, by rw [e112]; exact d0, by rw [e112]; exact d1, ?_⟩
  rw [e112]
  exact zb_k_keep d2 (fun j _ _ => hk 111 j (by decide) (Or.inl (by decide)))
theorem rT3_1_ok (hD : zk_d2 D ua) : zr_okS D rT3_1 := by
  refine zs_A_ok hD rfl (by decide) (by decide) ⟨_, _, rfl, by decide⟩ ?_
  intro ty H H' w a i Ls hT hp hc hw hk
  obtain ⟨l0, Ls', rfl, p0, hp⟩ := zr_cons hp
  obtain ⟨l1, Ls', rfl, p1, hp⟩ := zr_cons hp
  cases zr_nil hp
  obtain ⟨k, rfl, h0_1⟩ := zd_op hD (by decide) p0
  obtain ⟨x, j1, v, rfl, hj1, hv⟩ := zd_em hD hT (by decide) p1
  obtain ⟨qc0, hc⟩ := zc1 hc
  have qc0 : (i : Int) ≤ k + 2000 := qc0
  obtain ⟨qc1, hc⟩ := zc1 hc
  have qc1 : k ≤ (i : Int) + -2000 := qc1
  obtain ⟨qc2, hc⟩ := zc1 hc
  have qc2 : j1 ≤ k + 2000 := qc2
  obtain ⟨qc3, hc⟩ := zc1 hc
  have qc3 : k ≤ j1 + -2000 := qc3
  obtain ⟨qc4, hc⟩ := zc1 hc
  have qc4 : w ≤ v + 0 := qc4
  obtain ⟨qc5, hc⟩ := zc1 hc
  have qc5 : v ≤ w + 0 := qc5
  refine ⟨k + 1, by simp [rT3_1], fun j hj => ?_⟩
  have hw : zi H' (ua 111) i = w := hw
  rw [hk 105 _ (by decide) (Or.inl (by decide))]
  by_cases e : (j : Int) < k
  · rw [hk 111 _ (by decide) (Or.inr (by omega))]
    exact h0_1 j e
  · have e1 : j1.toNat = i := by omega
    rw [e1] at hv
    rw [show 2000 + j = i by omega]
    omega
theorem rZ1_ok (hD : zk_d2 D ua) : zr_okS D rZ1 := by
  intro ty H H' w a i hd Ls hT hT' ha hty hh hp hc hw ho
  rw [if_neg (show ¬ rZ1.1.1 = 0 by decide)] at hh
  subst hh
  obtain ⟨l0, Ls', rfl, p0, hp⟩ := zr_cons hp
  obtain ⟨l1, Ls', rfl, p1, hp⟩ := zr_cons hp
  obtain ⟨l2, Ls', rfl, p2, hp⟩ := zr_cons hp
  cases zr_nil hp
  obtain ⟨x, c, v, rfl, h0⟩ := zd_op hD (by decide) p0
  obtain ⟨x1, y, rfl, h0x1, ⟨q1, hq1, ex1⟩, hy⟩ := zd_hd hD hT p1
  obtain ⟨x2, n, rfl, h0x2, ⟨q2, hq2, ex2⟩, hn⟩ := zd_hd hD hT p2
  obtain ⟨qc0, hc⟩ := zc1 hc
  have qc0 : x1 ≤ x + 0 := qc0
  obtain ⟨qc1, hc⟩ := zc1 hc
  have qc1 : x ≤ x1 + 0 := qc1
  obtain ⟨qc2, hc⟩ := zc1 hc
  have qc2 : x2 ≤ x + 0 := qc2
  obtain ⟨qc3, hc⟩ := zc1 hc
  have qc3 : x ≤ x2 + 0 := qc3
  obtain ⟨qc4, hc⟩ := zc1 hc
  have qc4 : y ≤ a + 0 := qc4
  obtain ⟨qc5, hc⟩ := zc1 hc
  have qc5 : a ≤ y + 0 := qc5
  obtain ⟨qc6, hc⟩ := zc1 hc
  have qc6 : (i : Int) ≤ n + 0 := qc6
  obtain ⟨qc7, hc⟩ := zc1 hc
  have qc7 : n ≤ (i : Int) + 0 := qc7
  obtain ⟨qc8, hc⟩ := zc1 hc
  have qc8 : (i : Int) ≤ (0 : Int) + 1829 := qc8
  obtain ⟨qc9, hc⟩ := zc1 hc
  have qc9 : c ≤ (0 : Int) + 0 := qc9
  obtain ⟨qc10, hc⟩ := zc1 hc
  have qc10 : (0 : Int) ≤ c + 0 := qc10
  have e1 : a.toNat = ua (1040 + q1) := by
    have := (h0 q1 hq1).1
    rw [ex1] at hy
    omega
  have ex : ua (1030 + q1) = x.toNat := by rw [← ex1]; congr 1; omega
  refine (hD.1 _ (by decide) _ _ _).mpr ⟨zd_ty hD (by decide) p0, x, w, by simp [rZ1], zh_A hD h0 hq1 e1 ho (fun b f m hb h => ?_) (fun hj h => ?_)⟩
  · rw [ex] at hb
    exact (zp_hw_ne hb).mpr ((zp_bi_ne hb).mp h)
  · refine (zp_hw_eq ex).mpr ?_
    obtain ⟨g0, s, g1, g2, g3⟩ := (zp_bi_eq ex).mp h
    have e2 : zi H (ua (1030 + q1)) (D.dI 3 10) = n := by rw [← hn, show x2.toNat = ua (1030 + q1) by rw [ex]; congr 1; omega]
    have e3 : s = i := by omega
    refine ⟨s, zb_k_keep g1 (fun j _ h2 => hj j (by omega)), by omega, by omega, ?_⟩
    rw [← e1, e3]
    exact hw
theorem rZ2_ok (hD : zk_d2 D ua) : zr_okS D rZ2 := by
  intro ty H H' w a i hd Ls hT hT' ha hty hh hp hc hw ho
  rw [if_neg (show ¬ rZ2.1.1 = 0 by decide)] at hh
  subst hh
  obtain ⟨l0, Ls', rfl, p0, hp⟩ := zr_cons hp
  obtain ⟨l1, Ls', rfl, p1, hp⟩ := zr_cons hp
  obtain ⟨l2, Ls', rfl, p2, hp⟩ := zr_cons hp
  cases zr_nil hp
  obtain ⟨x, c, v, rfl, h0⟩ := zd_op hD (by decide) p0
  obtain ⟨x1, y, rfl, h0x1, ⟨q1, hq1, ex1⟩, hy⟩ := zd_hd hD hT p1
  obtain ⟨x2, n, rfl, h0x2, ⟨q2, hq2, ex2⟩, hn⟩ := zd_hd hD hT p2
  obtain ⟨qc0, hc⟩ := zc1 hc
  have qc0 : x1 ≤ x + 0 := qc0
  obtain ⟨qc1, hc⟩ := zc1 hc
  have qc1 : x ≤ x1 + 0 := qc1
  obtain ⟨qc2, hc⟩ := zc1 hc
  have qc2 : x2 ≤ x + 0 := qc2
  obtain ⟨qc3, hc⟩ := zc1 hc
  have qc3 : x ≤ x2 + 0 := qc3
  obtain ⟨qc4, hc⟩ := zc1 hc
  have qc4 : y ≤ a + 0 := qc4
  obtain ⟨qc5, hc⟩ := zc1 hc
  have qc5 : a ≤ y + 0 := qc5
  obtain ⟨qc6, hc⟩ := zc1 hc
  have qc6 : (i : Int) ≤ n + 0 := qc6
  obtain ⟨qc7, hc⟩ := zc1 hc
  have qc7 : n ≤ (i : Int) + 0 := qc7
  obtain ⟨qc8, hc⟩ := zc1 hc
  have qc8 : (i : Int) ≤ (0 : Int) + 1829 := qc8
  obtain ⟨qc9, hc⟩ := zc1 hc
  have qc9 : (0 : Int) ≤ c + -1 := qc9
  have e1 : a.toNat = ua (1040 + q1) := by
    have := (h0 q1 hq1).1
    rw [ex1] at hy
    omega
  have ex : ua (1030 + q1) = x.toNat := by rw [← ex1]; congr 1; omega
  refine (hD.1 _ (by decide) _ _ _).mpr ⟨zd_ty hD (by decide) p0, x, c, v, by simp [rZ2], zh_A hD h0 hq1 e1 ho (fun b f m hb h => ?_) (fun hj h => ?_)⟩
  · rw [ex] at hb
    exact (zp_bi_ne hb).mpr ((zp_bi_ne hb).mp h)
  · refine (zp_bi_eq ex).mpr ?_
    obtain ⟨g0, s, g1, g2, g3⟩ := (zp_bi_eq ex).mp h
    have e2 : zi H (ua (1030 + q1)) (D.dI 3 10) = n := by rw [← hn, show x2.toNat = ua (1030 + q1) by rw [ex]; congr 1; omega]
    exact ⟨g0, s, zb_k_keep g1 (fun j _ h2 => hj j (by omega)), g2, fun h1 h2 => by rw [hj s (by omega)]; exact g3 h1 h2⟩
theorem rZ3_ok (hD : zk_d2 D ua) : zr_okS D rZ3 := by
  intro ty H H' w a i hd Ls hT hT' ha hty hh hp hc hw ho
  rw [if_pos (show rZ3.1.1 = 0 by decide), zd_TT hD, show (zTT rZ3.1.2.1).2.1 = 3 by decide] at hh
  obtain ⟨rfl, rfl⟩ := hh
  obtain ⟨l0, Ls', rfl, p0, hp⟩ := zr_cons hp
  obtain ⟨l1, Ls', rfl, p1, hp⟩ := zr_cons hp
  cases zr_nil hp
  obtain ⟨x, v, rfl, h0⟩ := zd_op hD (by decide) p0
  obtain ⟨x2, n, rfl, h0x2, ⟨q2, hq2, ex2⟩, hn⟩ := zd_hd hD hT p1
  obtain ⟨qc0, hc⟩ := zc1 hc
  have qc0 : x2 ≤ x + 0 := qc0
  obtain ⟨qc1, hc⟩ := zc1 hc
  have qc1 : x ≤ x2 + 0 := qc1
  obtain ⟨qc2, hc⟩ := zc1 hc
  have qc2 : a ≤ x + 0 := qc2
  obtain ⟨qc3, hc⟩ := zc1 hc
  have qc3 : x ≤ a + 0 := qc3
  obtain ⟨qc4, hc⟩ := zc1 hc
  have qc4 : w ≤ n + 1 := qc4
  obtain ⟨qc5, hc⟩ := zc1 hc
  have qc5 : n ≤ w + -1 := qc5
  have ex : ua (1030 + q2) = x.toNat := by rw [← ex2]; congr 1; omega
  have e1 : a.toNat = ua (1030 + q2) := by rw [ex]; congr 1; omega
  refine (hD.1 _ (by decide) _ _ _).mpr ⟨zd_ty hD (by decide) p0, x, 1, v, by simp [rZ3], zh_F hD h0 hq2 e1 hw ho (fun b f m hb h => ?_) (fun h => ?_)⟩
  · rw [ex] at hb
    exact (zp_bi_ne hb).mpr ((zp_hw_ne hb).mp h)
  · refine (zp_bi_eq ex).mpr ?_
    obtain ⟨s, g1, g2, g3, g4⟩ := (zp_hw_eq ex).mp h
    rw [← ex2, hn] at g2 g3
    exact ⟨by omega, s, g1, by omega, fun _ _ => g4⟩
theorem rZ4_ok (hD : zk_d2 D ua) : zr_okS D rZ4 := by
  intro ty H H' w a i hd Ls hT hT' ha hty hh hp hc hw ho
  rw [if_pos (show rZ4.1.1 = 0 by decide), zd_TT hD, show (zTT rZ4.1.2.1).2.1 = 3 by decide] at hh
  obtain ⟨rfl, rfl⟩ := hh
  obtain ⟨l0, Ls', rfl, p0, hp⟩ := zr_cons hp
  obtain ⟨l1, Ls', rfl, p1, hp⟩ := zr_cons hp
  cases zr_nil hp
  obtain ⟨x, c, v, rfl, h0⟩ := zd_op hD (by decide) p0
  obtain ⟨x2, n, rfl, h0x2, ⟨q2, hq2, ex2⟩, hn⟩ := zd_hd hD hT p1
  obtain ⟨qc0, hc⟩ := zc1 hc
  have qc0 : x2 ≤ x + 0 := qc0
  obtain ⟨qc1, hc⟩ := zc1 hc
  have qc1 : x ≤ x2 + 0 := qc1
  obtain ⟨qc2, hc⟩ := zc1 hc
  have qc2 : a ≤ x + 0 := qc2
  obtain ⟨qc3, hc⟩ := zc1 hc
  have qc3 : x ≤ a + 0 := qc3
  obtain ⟨qc4, hc⟩ := zc1 hc
  have qc4 : w ≤ n + 1 := qc4
  obtain ⟨qc5, hc⟩ := zc1 hc
  have qc5 : n ≤ w + -1 := qc5
  obtain ⟨qc6, hc⟩ := zc1 hc
  have qc6 : (0 : Int) ≤ c + -1 := qc6
  obtain ⟨qc7, hc⟩ := zc1 hc
  have qc7 : n ≤ (0 : Int) + 1829 := qc7
  have ex : ua (1030 + q2) = x.toNat := by rw [← ex2]; congr 1; omega
  have e1 : a.toNat = ua (1030 + q2) := by rw [ex]; congr 1; omega
  refine (hD.1 _ (by decide) _ _ _).mpr ⟨zd_ty hD (by decide) p0, x, c + 1, v, by simp [rZ4], zh_F hD h0 hq2 e1 hw ho (fun b f m hb h => ?_) (fun h => ?_)⟩
  · rw [ex] at hb
    exact (zp_bi_ne hb).mpr ((zp_bi_ne hb).mp h)
  · refine (zp_bi_eq ex).mpr ?_
    obtain ⟨g0, s, g1, g2, g3⟩ := (zp_bi_eq ex).mp h
    rw [← ex2, hn] at g2
    exact ⟨by omega, s, g1, by omega, fun h1 _ => g3 h1 (by omega)⟩
theorem rZ5_ok (hD : zk_d2 D ua) : zr_okS D rZ5 := by
  intro ty H H' w a i hd Ls hT hT' ha hty hh hp hc hw ho
  rw [if_pos (show rZ5.1.1 = 0 by decide), zd_TT hD, show (zTT rZ5.1.2.1).2.1 = 3 by decide] at hh
  obtain ⟨rfl, rfl⟩ := hh
  obtain ⟨l0, Ls', rfl, p0, hp⟩ := zr_cons hp
  cases zr_nil hp
  obtain ⟨rfl, h0⟩ := zd_op hD (by decide) p0
  obtain ⟨qc0, hc⟩ := zc1 hc
  have qc0 : w ≤ (0 : Int) + 0 := qc0
  obtain ⟨qc1, hc⟩ := zc1 hc
  have qc1 : (0 : Int) ≤ w + 0 := qc1
  have hR : D.RO 37 a.toNat := zk_T_RO hT hty (by rw [zd_TT hD]; decide)
  obtain ⟨q, hq, e1⟩ : ∃ q, (q = 0 ∨ q = 1) ∧ a.toNat = ua (1030 + q) := by
    rcases hD.2.2.2.2.2.2.2.2.2.2.1 _ hR with e | e
    · exact ⟨0, Or.inl rfl, e⟩
    · exact ⟨1, Or.inr rfl, e⟩
  refine (hD.1 _ (by decide) _ _ _).mpr ⟨zd_ty hD (by decide) p0, rfl, zh_F hD h0 hq e1 hw ho (fun b f m hb h => h) (fun h => ?_)⟩
  exact ⟨0, zb_k_nil _ _, by omega⟩
theorem rD1_ok (hD : zk_d2 D ua) : zr_okS D rD1 := by
  refine zs_A_ok hD rfl (by decide) (by decide) ⟨_, _, rfl, by decide⟩ ?_
  intro ty H H' w a i Ls hT hp hc hw hk
  obtain ⟨l0, Ls', rfl, p0, hp⟩ := zr_cons hp
  cases zr_nil hp
  obtain ⟨rfl, a0⟩ := zd_op hD (by decide) p0
  obtain ⟨qc0, hc⟩ := zc1 hc
  have qc0 : (0 : Int) ≤ (i : Int) + -80 := qc0
  have hz := zd_ty hD (by decide) p0
  have e43 : ∀ k, zi H' (ua 43) k = zi H (ua 43) k := fun k => hk 43 k (by decide) (Or.inl (by decide))
  refine ⟨rfl, ?_⟩
  rw [e43, e43]
  exact zf_ch_eq (fun s _ => hk 77 s (by decide) (Or.inl (by decide))) (fun s hs => (zd_many hD hT hz hs).2) (fun j hj => hk 79 j (by decide) (Or.inr (by omega))) (fun j _ => ⟨hk 114 j (by decide) (Or.inl (by decide)), hk 115 j (by decide) (Or.inl (by decide)), hk 116 j (by decide) (Or.inl (by decide)), hk 118 j (by decide) (Or.inl (by decide))⟩) a0
theorem rD2_ok (hD : zk_d2 D ua) : zr_okS D rD2 := by
  refine zs_A_ok hD rfl (by decide) (by decide) ⟨_, _, rfl, by decide⟩ ?_
  intro ty H H' w a i Ls hT hp hc hw hk
  obtain ⟨l0, Ls', rfl, p0, hp⟩ := zr_cons hp
  cases zr_nil hp
  obtain ⟨rfl, a0⟩ := zd_op hD (by decide) p0
  obtain ⟨qc0, hc⟩ := zc1 hc
  have qc0 : (0 : Int) ≤ (i : Int) + -2 := qc0
  have hz := zd_ty hD (by decide) p0
  have e43 : ∀ k, zi H' (ua 43) k = zi H (ua 43) k := fun k => hk 43 k (by decide) (Or.inl (by decide))
  refine ⟨rfl, ?_⟩
  rw [e43, e43]
  exact zf_ch_eq (fun s hs => hk 77 s (by decide) (Or.inr (by omega))) (fun s hs => (zd_many hD hT hz hs).2) (fun j hj => hk 79 j (by decide) (Or.inl (by decide))) (fun j _ => ⟨hk 114 j (by decide) (Or.inl (by decide)), hk 115 j (by decide) (Or.inl (by decide)), hk 116 j (by decide) (Or.inl (by decide)), hk 118 j (by decide) (Or.inl (by decide))⟩) a0
theorem rD3_114_ok (hD : zk_d2 D ua) : zr_okS D rD3_114 := by
  refine zs_A_ok hD rfl (by decide) (by decide) ⟨_, _, rfl, by decide⟩ ?_
  intro ty H H' w a i Ls hT hp hc hw hk
  obtain ⟨l0, Ls', rfl, p0, hp⟩ := zr_cons hp
  obtain ⟨l1, Ls', rfl, p1, hp⟩ := zr_cons hp
  cases zr_nil hp
  obtain ⟨rfl, a0⟩ := zd_op hD (by decide) p0
  obtain ⟨n_o, n, rfl, hn⟩ := zd_fm hD hT p1
  obtain ⟨qc0, hc⟩ := zc1 hc
  have qc0 : n ≤ (i : Int) + 0 := qc0
  have hz := zd_ty hD (by decide) p0
  have e43 : ∀ k, zi H' (ua 43) k = zi H (ua 43) k := fun k => hk 43 k (by decide) (Or.inl (by decide))
  refine ⟨rfl, ?_⟩
  rw [e43, e43]
  exact zf_ch_eq (fun s hs => hk 77 s (by decide) (Or.inl (by decide))) (fun s hs => (zd_many hD hT hz hs).2) (fun j hj => hk 79 j (by decide) (Or.inl (by decide))) (fun j hj => ⟨hk 114 j (by decide) (Or.inr (by omega)), hk 115 j (by decide) (Or.inr (by omega)), hk 116 j (by decide) (Or.inr (by omega)), hk 118 j (by decide) (Or.inr (by omega))⟩) a0
theorem rD4_114_ok (hD : zk_d2 D ua) : zr_okS D rD4_114 := by
  refine zs_A_ok hD rfl (by decide) (by decide) ⟨_, _, rfl, by decide⟩ ?_
  intro ty H H' w a i Ls hT hp hc hw hk
  obtain ⟨l0, Ls', rfl, p0, hp⟩ := zr_cons hp
  obtain ⟨l1, Ls', rfl, p1, hp⟩ := zr_cons hp
  cases zr_nil hp
  obtain ⟨s, d, k, rfl, s0, n0, h0⟩ := zd_op hD (by decide) p0
  obtain ⟨n_o, n, rfl, hn⟩ := zd_fm hD hT p1
  obtain ⟨qc0, hc⟩ := zc1 hc
  have qc0 : n ≤ (i : Int) + 0 := qc0
  have hz := zd_ty hD (by decide) p0
  have e43 : ∀ k, zi H' (ua 43) k = zi H (ua 43) k := fun k => hk 43 k (by decide) (Or.inl (by decide))
  have hs : s.toNat = 0 ∨ s.toNat = 1 := by omega
  refine ⟨s, d, k, by simp [rD4_114], s0, by rw [e43]; exact n0, ?_⟩
  rw [e43, zc_t_eq s0 (zd_many hD hT hz hs).2 (hk 77 _ (by decide) (Or.inl (by decide))) (fun j hj => hk 79 j (by decide) (Or.inl (by decide))) (fun j hj => ⟨hk 114 j (by decide) (Or.inr (by omega)), hk 115 j (by decide) (Or.inr (by omega)), hk 116 j (by decide) (Or.inr (by omega)), hk 118 j (by decide) (Or.inr (by omega))⟩)]
  exact h0
theorem rD3_115_ok (hD : zk_d2 D ua) : zr_okS D rD3_115 := by
  refine zs_A_ok hD rfl (by decide) (by decide) ⟨_, _, rfl, by decide⟩ ?_
  intro ty H H' w a i Ls hT hp hc hw hk
  obtain ⟨l0, Ls', rfl, p0, hp⟩ := zr_cons hp
  obtain ⟨l1, Ls', rfl, p1, hp⟩ := zr_cons hp
  cases zr_nil hp
  obtain ⟨rfl, a0⟩ := zd_op hD (by decide) p0
  obtain ⟨n_o, n, rfl, hn⟩ := zd_fm hD hT p1
  obtain ⟨qc0, hc⟩ := zc1 hc
  have qc0 : n ≤ (i : Int) + 0 := qc0
  have hz := zd_ty hD (by decide) p0
  have e43 : ∀ k, zi H' (ua 43) k = zi H (ua 43) k := fun k => hk 43 k (by decide) (Or.inl (by decide))
  refine ⟨rfl, ?_⟩
  rw [e43, e43]
  exact zf_ch_eq (fun s hs => hk 77 s (by decide) (Or.inl (by decide))) (fun s hs => (zd_many hD hT hz hs).2) (fun j hj => hk 79 j (by decide) (Or.inl (by decide))) (fun j hj => ⟨hk 114 j (by decide) (Or.inr (by omega)), hk 115 j (by decide) (Or.inr (by omega)), hk 116 j (by decide) (Or.inr (by omega)), hk 118 j (by decide) (Or.inr (by omega))⟩) a0
theorem rD4_115_ok (hD : zk_d2 D ua) : zr_okS D rD4_115 := by
  refine zs_A_ok hD rfl (by decide) (by decide) ⟨_, _, rfl, by decide⟩ ?_
  intro ty H H' w a i Ls hT hp hc hw hk
  obtain ⟨l0, Ls', rfl, p0, hp⟩ := zr_cons hp
  obtain ⟨l1, Ls', rfl, p1, hp⟩ := zr_cons hp
  cases zr_nil hp
  obtain ⟨s, d, k, rfl, s0, n0, h0⟩ := zd_op hD (by decide) p0
  obtain ⟨n_o, n, rfl, hn⟩ := zd_fm hD hT p1
  obtain ⟨qc0, hc⟩ := zc1 hc
  have qc0 : n ≤ (i : Int) + 0 := qc0
  have hz := zd_ty hD (by decide) p0
  have e43 : ∀ k, zi H' (ua 43) k = zi H (ua 43) k := fun k => hk 43 k (by decide) (Or.inl (by decide))
  have hs : s.toNat = 0 ∨ s.toNat = 1 := by omega
  refine ⟨s, d, k, by simp [rD4_115], s0, by rw [e43]; exact n0, ?_⟩
  rw [e43, zc_t_eq s0 (zd_many hD hT hz hs).2 (hk 77 _ (by decide) (Or.inl (by decide))) (fun j hj => hk 79 j (by decide) (Or.inl (by decide))) (fun j hj => ⟨hk 114 j (by decide) (Or.inr (by omega)), hk 115 j (by decide) (Or.inr (by omega)), hk 116 j (by decide) (Or.inr (by omega)), hk 118 j (by decide) (Or.inr (by omega))⟩)]
  exact h0
theorem rD3_116_ok (hD : zk_d2 D ua) : zr_okS D rD3_116 := by
  refine zs_A_ok hD rfl (by decide) (by decide) ⟨_, _, rfl, by decide⟩ ?_
  intro ty H H' w a i Ls hT hp hc hw hk
  obtain ⟨l0, Ls', rfl, p0, hp⟩ := zr_cons hp
  obtain ⟨l1, Ls', rfl, p1, hp⟩ := zr_cons hp
  cases zr_nil hp
  obtain ⟨rfl, a0⟩ := zd_op hD (by decide) p0
  obtain ⟨n_o, n, rfl, hn⟩ := zd_fm hD hT p1
  obtain ⟨qc0, hc⟩ := zc1 hc
  have qc0 : n ≤ (i : Int) + 0 := qc0
  have hz := zd_ty hD (by decide) p0
  have e43 : ∀ k, zi H' (ua 43) k = zi H (ua 43) k := fun k => hk 43 k (by decide) (Or.inl (by decide))
  refine ⟨rfl, ?_⟩
  rw [e43, e43]
  exact zf_ch_eq (fun s hs => hk 77 s (by decide) (Or.inl (by decide))) (fun s hs => (zd_many hD hT hz hs).2) (fun j hj => hk 79 j (by decide) (Or.inl (by decide))) (fun j hj => ⟨hk 114 j (by decide) (Or.inr (by omega)), hk 115 j (by decide) (Or.inr (by omega)), hk 116 j (by decide) (Or.inr (by omega)), hk 118 j (by decide) (Or.inr (by omega))⟩) a0
theorem rD4_116_ok (hD : zk_d2 D ua) : zr_okS D rD4_116 := by
  refine zs_A_ok hD rfl (by decide) (by decide) ⟨_, _, rfl, by decide⟩ ?_
  intro ty H H' w a i Ls hT hp hc hw hk
  obtain ⟨l0, Ls', rfl, p0, hp⟩ := zr_cons hp
  obtain ⟨l1, Ls', rfl, p1, hp⟩ := zr_cons hp
  cases zr_nil hp
  obtain ⟨s, d, k, rfl, s0, n0, h0⟩ := zd_op hD (by decide) p0
  obtain ⟨n_o, n, rfl, hn⟩ := zd_fm hD hT p1
  obtain ⟨qc0, hc⟩ := zc1 hc
  have qc0 : n ≤ (i : Int) + 0 := qc0
  have hz := zd_ty hD (by decide) p0
  have e43 : ∀ k, zi H' (ua 43) k = zi H (ua 43) k := fun k => hk 43 k (by decide) (Or.inl (by decide))
  have hs : s.toNat = 0 ∨ s.toNat = 1 := by omega
  refine ⟨s, d, k, by simp [rD4_116], s0, by rw [e43]; exact n0, ?_⟩
  rw [e43, zc_t_eq s0 (zd_many hD hT hz hs).2 (hk 77 _ (by decide) (Or.inl (by decide))) (fun j hj => hk 79 j (by decide) (Or.inl (by decide))) (fun j hj => ⟨hk 114 j (by decide) (Or.inr (by omega)), hk 115 j (by decide) (Or.inr (by omega)), hk 116 j (by decide) (Or.inr (by omega)), hk 118 j (by decide) (Or.inr (by omega))⟩)]
  exact h0
theorem rD3_118_ok (hD : zk_d2 D ua) : zr_okS D rD3_118 := by
  refine zs_A_ok hD rfl (by decide) (by decide) ⟨_, _, rfl, by decide⟩ ?_
  intro ty H H' w a i Ls hT hp hc hw hk
  obtain ⟨l0, Ls', rfl, p0, hp⟩ := zr_cons hp
  obtain ⟨l1, Ls', rfl, p1, hp⟩ := zr_cons hp
  cases zr_nil hp
  obtain ⟨rfl, a0⟩ := zd_op hD (by decide) p0
  obtain ⟨n_o, n, rfl, hn⟩ := zd_fm hD hT p1
  obtain ⟨qc0, hc⟩ := zc1 hc
  have qc0 : n ≤ (i : Int) + 0 := qc0
  have hz := zd_ty hD (by decide) p0
  have e43 : ∀ k, zi H' (ua 43) k = zi H (ua 43) k := fun k => hk 43 k (by decide) (Or.inl (by decide))
  refine ⟨rfl, ?_⟩
  rw [e43, e43]
  exact zf_ch_eq (fun s hs => hk 77 s (by decide) (Or.inl (by decide))) (fun s hs => (zd_many hD hT hz hs).2) (fun j hj => hk 79 j (by decide) (Or.inl (by decide))) (fun j hj => ⟨hk 114 j (by decide) (Or.inr (by omega)), hk 115 j (by decide) (Or.inr (by omega)), hk 116 j (by decide) (Or.inr (by omega)), hk 118 j (by decide) (Or.inr (by omega))⟩) a0
theorem rD4_118_ok (hD : zk_d2 D ua) : zr_okS D rD4_118 := by
  refine zs_A_ok hD rfl (by decide) (by decide) ⟨_, _, rfl, by decide⟩ ?_
  intro ty H H' w a i Ls hT hp hc hw hk
  obtain ⟨l0, Ls', rfl, p0, hp⟩ := zr_cons hp
  obtain ⟨l1, Ls', rfl, p1, hp⟩ := zr_cons hp
  cases zr_nil hp
  obtain ⟨s, d, k, rfl, s0, n0, h0⟩ := zd_op hD (by decide) p0
  obtain ⟨n_o, n, rfl, hn⟩ := zd_fm hD hT p1
  obtain ⟨qc0, hc⟩ := zc1 hc
  have qc0 : n ≤ (i : Int) + 0 := qc0
  have hz := zd_ty hD (by decide) p0
  have e43 : ∀ k, zi H' (ua 43) k = zi H (ua 43) k := fun k => hk 43 k (by decide) (Or.inl (by decide))
  have hs : s.toNat = 0 ∨ s.toNat = 1 := by omega
  refine ⟨s, d, k, by simp [rD4_118], s0, by rw [e43]; exact n0, ?_⟩
  rw [e43, zc_t_eq s0 (zd_many hD hT hz hs).2 (hk 77 _ (by decide) (Or.inl (by decide))) (fun j hj => hk 79 j (by decide) (Or.inl (by decide))) (fun j hj => ⟨hk 114 j (by decide) (Or.inr (by omega)), hk 115 j (by decide) (Or.inr (by omega)), hk 116 j (by decide) (Or.inr (by omega)), hk 118 j (by decide) (Or.inr (by omega))⟩)]
  exact h0
theorem rD5_ok (hD : zk_d2 D ua) : zr_okS D rD5 := by
  refine zs_F_ok hD rfl (by decide) (by decide) ⟨_, _, rfl, by decide⟩ ?_
  intro ty H H' w a Ls hT hp hc hw hk
  obtain ⟨l0, Ls', rfl, p0, hp⟩ := zr_cons hp
  cases zr_nil hp
  obtain ⟨rfl, -⟩ := zd_op hD (by decide) p0
  obtain ⟨qc0, hc⟩ := zc1 hc
  have qc0 : w ≤ (0 : Int) + 0 := qc0
  obtain ⟨qc1, hc⟩ := zc1 hc
  have qc1 : (0 : Int) ≤ w + 0 := qc1
  have hw : zi H' (ua 43) (D.dI 12 60) = w := hw
  exact ⟨rfl, by omega⟩
theorem rD6_ok (hD : zk_d2 D ua) : zr_okS D rD6 := by
  refine zs_F_ok hD rfl (by decide) (by decide) ⟨_, _, rfl, by decide⟩ ?_
  intro ty H H' w a Ls hT hp hc hw hk
  obtain ⟨l0, Ls', rfl, p0, hp⟩ := zr_cons hp
  obtain ⟨l1, Ls', rfl, p1, hp⟩ := zr_cons hp
  obtain ⟨l2, Ls', rfl, p2, hp⟩ := zr_cons hp
  obtain ⟨l3, Ls', rfl, p3, hp⟩ := zr_cons hp
  obtain ⟨l4, Ls', rfl, p4, hp⟩ := zr_cons hp
  obtain ⟨l5, Ls', rfl, p5, hp⟩ := zr_cons hp
  obtain ⟨l6, Ls', rfl, p6, hp⟩ := zr_cons hp
  cases zr_nil hp
  obtain ⟨rfl, a0⟩ := zd_op hD (by decide) p0
  obtain ⟨n_o, n, rfl, hn⟩ := zd_fm hD hT p1
  obtain ⟨ld_o, ld, rfl, hld⟩ := zd_fm hD hT p2
  obtain ⟨s_o, i1, s, rfl, hi1, hs⟩ := zd_em hD hT (by decide) p3
  obtain ⟨d_o, i2, d, rfl, hi2, hd⟩ := zd_em hD hT (by decide) p4
  obtain ⟨k_o, i3, k, rfl, hi3, hk'⟩ := zd_em hD hT (by decide) p5
  obtain ⟨m_o, i4, m, rfl, hi4, hm⟩ := zd_em hD hT (by decide) p6
  obtain ⟨qc0, hc⟩ := zc1 hc
  have qc0 : i1 ≤ n + 0 := qc0
  obtain ⟨qc1, hc⟩ := zc1 hc
  have qc1 : n ≤ i1 + 0 := qc1
  obtain ⟨qc2, hc⟩ := zc1 hc
  have qc2 : i2 ≤ n + 0 := qc2
  obtain ⟨qc3, hc⟩ := zc1 hc
  have qc3 : n ≤ i2 + 0 := qc3
  obtain ⟨qc4, hc⟩ := zc1 hc
  have qc4 : i3 ≤ n + 0 := qc4
  obtain ⟨qc5, hc⟩ := zc1 hc
  have qc5 : n ≤ i3 + 0 := qc5
  obtain ⟨qc6, hc⟩ := zc1 hc
  have qc6 : i4 ≤ n + 0 := qc6
  obtain ⟨qc7, hc⟩ := zc1 hc
  have qc7 : n ≤ i4 + 0 := qc7
  obtain ⟨qc8, hc⟩ := zc1 hc
  have qc8 : w ≤ n + 1 := qc8
  obtain ⟨qc9, hc⟩ := zc1 hc
  have qc9 : n ≤ w + -1 := qc9
  obtain ⟨qc10, hc⟩ := zc1 hc
  have qc10 : ld ≤ d + 0 := qc10
  obtain ⟨qc11, hc⟩ := zc1 hc
  have qc11 : (0 : Int) ≤ m + -1 := qc11
  obtain ⟨qc12, hc⟩ := zc1 hc
  have qc12 : (0 : Int) ≤ s + 0 := qc12
  obtain ⟨qc13, hc⟩ := zc1 hc
  have qc13 : s ≤ (0 : Int) + 1 := qc13
  have hw : zi H' (ua 43) (D.dI 12 60) = w := hw
  have hu : ∀ t ∈ [77, 79, 114, 115, 116, 118], zi H' (ua t) = zi H (ua t) := fun t ht => funext (fun k => hk t k (zUq6 t ht).1 (Or.inl (zUq6 t ht).2.1))
  refine ⟨d, by simp [rD6], ?_⟩
  rw [hw, zf_ch_fun hu]
  obtain ⟨n1, h1⟩ := a0
  rw [hn] at n1 h1
  rw [hld] at h1
  refine ⟨by omega, fun c hc => ?_⟩
  by_cases e : (c : Int) < n
  · obtain ⟨a1, a2, a3, a4⟩ := h1 c e
    exact ⟨by omega, a2, a3, a4⟩
  · rw [show i1.toNat = c by omega] at hs
    rw [show i2.toNat = c by omega] at hd
    rw [show i3.toNat = c by omega] at hk'
    rw [show i4.toNat = c by omega] at hm
    refine ⟨by omega, fun j hj => ?_, by omega, fun h => ?_⟩
    · have := (h1 j (by omega)).1
      omega
    · omega
theorem rD7_ok (hD : zk_d2 D ua) : zr_okS D rD7 := by
  refine zs_F_ok hD rfl (by decide) (by decide) ⟨_, _, rfl, by decide⟩ ?_
  intro ty H H' w a Ls hT hp hc hw hk
  obtain ⟨l0, Ls', rfl, p0, hp⟩ := zr_cons hp
  obtain ⟨l1, Ls', rfl, p1, hp⟩ := zr_cons hp
  obtain ⟨l2, Ls', rfl, p2, hp⟩ := zr_cons hp
  obtain ⟨l3, Ls', rfl, p3, hp⟩ := zr_cons hp
  obtain ⟨l4, Ls', rfl, p4, hp⟩ := zr_cons hp
  obtain ⟨l5, Ls', rfl, p5, hp⟩ := zr_cons hp
  obtain ⟨l6, Ls', rfl, p6, hp⟩ := zr_cons hp
  obtain ⟨l7, Ls', rfl, p7, hp⟩ := zr_cons hp
  cases zr_nil hp
  obtain ⟨rfl, a0⟩ := zd_op hD (by decide) p0
  obtain ⟨n_o, n, rfl, hn⟩ := zd_fm hD hT p1
  obtain ⟨ld_o, ld, rfl, hld⟩ := zd_fm hD hT p2
  obtain ⟨s_o, i1, s, rfl, hi1, hs⟩ := zd_em hD hT (by decide) p3
  obtain ⟨d_o, i2, d, rfl, hi2, hd⟩ := zd_em hD hT (by decide) p4
  obtain ⟨k_o, i3, k, rfl, hi3, hk'⟩ := zd_em hD hT (by decide) p5
  obtain ⟨m_o, i4, m, rfl, hi4, hm⟩ := zd_em hD hT (by decide) p6
  obtain ⟨s2, d2, k2, rfl, s0, n0, h0⟩ := zd_op hD (by decide) p7
  obtain ⟨qc0, hc⟩ := zc1 hc
  have qc0 : i1 ≤ n + 0 := qc0
  obtain ⟨qc1, hc⟩ := zc1 hc
  have qc1 : n ≤ i1 + 0 := qc1
  obtain ⟨qc2, hc⟩ := zc1 hc
  have qc2 : i2 ≤ n + 0 := qc2
  obtain ⟨qc3, hc⟩ := zc1 hc
  have qc3 : n ≤ i2 + 0 := qc3
  obtain ⟨qc4, hc⟩ := zc1 hc
  have qc4 : i3 ≤ n + 0 := qc4
  obtain ⟨qc5, hc⟩ := zc1 hc
  have qc5 : n ≤ i3 + 0 := qc5
  obtain ⟨qc6, hc⟩ := zc1 hc
  have qc6 : i4 ≤ n + 0 := qc6
  obtain ⟨qc7, hc⟩ := zc1 hc
  have qc7 : n ≤ i4 + 0 := qc7
  obtain ⟨qc8, hc⟩ := zc1 hc
  have qc8 : w ≤ n + 1 := qc8
  obtain ⟨qc9, hc⟩ := zc1 hc
  have qc9 : n ≤ w + -1 := qc9
  obtain ⟨qc10, hc⟩ := zc1 hc
  have qc10 : ld ≤ d + 0 := qc10
  obtain ⟨qc11, hc⟩ := zc1 hc
  have qc11 : s ≤ s2 + 0 := qc11
  obtain ⟨qc12, hc⟩ := zc1 hc
  have qc12 : s2 ≤ s + 0 := qc12
  obtain ⟨qc13, hc⟩ := zc1 hc
  have qc13 : d ≤ d2 + 0 := qc13
  obtain ⟨qc14, hc⟩ := zc1 hc
  have qc14 : d2 ≤ d + 0 := qc14
  obtain ⟨qc15, hc⟩ := zc1 hc
  have qc15 : k ≤ k2 + 0 := qc15
  obtain ⟨qc16, hc⟩ := zc1 hc
  have qc16 : k2 ≤ k + 0 := qc16
  have hw : zi H' (ua 43) (D.dI 12 60) = w := hw
  have hu : ∀ t ∈ [77, 79, 114, 115, 116, 118], zi H' (ua t) = zi H (ua t) := fun t ht => funext (fun k => hk t k (zUq6 t ht).1 (Or.inl (zUq6 t ht).2.1))
  refine ⟨d, by simp [rD7], ?_⟩
  rw [hw, zf_ch_fun hu]
  obtain ⟨n1, h1⟩ := a0
  rw [hn] at n1 h1
  rw [hld] at h1
  refine ⟨by omega, fun c hc => ?_⟩
  by_cases e : (c : Int) < n
  · obtain ⟨a1, a2, a3, a4⟩ := h1 c e
    exact ⟨by omega, a2, a3, a4⟩
  · rw [show i1.toNat = c by omega] at hs
    rw [show i2.toNat = c by omega] at hd
    rw [show i3.toNat = c by omega] at hk'
    rw [show i4.toNat = c by omega] at hm
    refine ⟨by omega, fun j hj => ?_, by omega, fun h => ?_⟩
    · have := (h1 j (by omega)).1
      omega
    · rw [hs, hd, hk', show s = s2 by omega, show d = d2 by omega, show k = k2 by omega]
      rw [hn, show n.toNat = c by omega] at h0
      exact h0
theorem rD8_ok (hD : zk_d2 D ua) : zr_okS D rD8 := by
  refine zs_F_ok hD rfl (by decide) (by decide) ⟨_, _, rfl, by decide⟩ ?_
  intro ty H H' w a Ls hT hp hc hw hk
  obtain ⟨l0, Ls', rfl, p0, hp⟩ := zr_cons hp
  cases zr_nil hp
  obtain ⟨d, rfl, h0⟩ := zd_op hD (by decide) p0
  obtain ⟨qc0, hc⟩ := zc1 hc
  have qc0 : w ≤ d + 0 := qc0
  obtain ⟨qc1, hc⟩ := zc1 hc
  have qc1 : d ≤ w + 0 := qc1
  have hw : zi H' (ua 43) (D.dI 12 61) = w := hw
  have hu : ∀ t ∈ [77, 79, 114, 115, 116, 118], zi H' (ua t) = zi H (ua t) := fun t ht => funext (fun k => hk t k (zUq6 t ht).1 (Or.inl (zUq6 t ht).2.1))
  have e60 : zi H' (ua 43) (D.dI 12 60) = zi H (ua 43) (D.dI 12 60) := hk 43 _ (by decide) (Or.inr (zd_dI hD).2.1)
  refine ⟨rfl, ?_⟩
  rw [hw, e60, zf_ch_fun hu, show w = d by omega]
  exact h0
theorem rD9_ok (hD : zk_d2 D ua) : zr_okS D rD9 := by
  refine zs_A_ok hD rfl (by decide) (by decide) ⟨_, _, rfl, by decide⟩ ?_
  intro ty H H' w a i Ls hT hp hc hw hk
  obtain ⟨l0, Ls', rfl, p0, hp⟩ := zr_cons hp
  obtain ⟨l1, Ls', rfl, p1, hp⟩ := zr_cons hp
  cases zr_nil hp
  obtain ⟨s, k, rfl, h0⟩ := zd_op hD (by decide) p0
  obtain ⟨v_o, j, v, rfl, hj, hv⟩ := zd_em hD hT (by decide) p1
  obtain ⟨qc0, hc⟩ := zc1 hc
  have qc0 : s ≤ (0 : Int) + 0 := qc0
  obtain ⟨qc1, hc⟩ := zc1 hc
  have qc1 : (0 : Int) ≤ s + 0 := qc1
  obtain ⟨qc2, hc⟩ := zc1 hc
  have qc2 : (i : Int) ≤ k + 0 := qc2
  obtain ⟨qc3, hc⟩ := zc1 hc
  have qc3 : k ≤ (i : Int) + 0 := qc3
  obtain ⟨qc4, hc⟩ := zc1 hc
  have qc4 : j ≤ k + 0 := qc4
  obtain ⟨qc5, hc⟩ := zc1 hc
  have qc5 : k ≤ j + 0 := qc5
  obtain ⟨qc6, hc⟩ := zc1 hc
  have qc6 : w ≤ v + 0 := qc6
  obtain ⟨qc7, hc⟩ := zc1 hc
  have qc7 : v ≤ w + 0 := qc7
  have hw : zi H' (ua 119) i = w := hw
  refine ⟨s, k + 1, by simp [rD9], fun jj hj => ?_⟩
  rw [hk 79 _ (by decide) (Or.inl (by decide))]
  by_cases e : (jj : Int) < k
  · rw [hk 119 jj (by decide) (Or.inr (by omega))]
    exact h0 jj e
  · rw [show jj = i by omega, hw, show 40 * s.toNat + i = j.toNat by omega, hv]
    omega
theorem rD10_ok (hD : zk_d2 D ua) : zr_okS D rD10 := by
  refine zs_A_ok hD rfl (by decide) (by decide) ⟨_, _, rfl, by decide⟩ ?_
  intro ty H H' w a i Ls hT hp hc hw hk
  obtain ⟨l0, Ls', rfl, p0, hp⟩ := zr_cons hp
  obtain ⟨l1, Ls', rfl, p1, hp⟩ := zr_cons hp
  cases zr_nil hp
  obtain ⟨s, k, rfl, h0⟩ := zd_op hD (by decide) p0
  obtain ⟨v_o, j, v, rfl, hj, hv⟩ := zd_em hD hT (by decide) p1
  obtain ⟨qc0, hc⟩ := zc1 hc
  have qc0 : s ≤ (0 : Int) + 1 := qc0
  obtain ⟨qc1, hc⟩ := zc1 hc
  have qc1 : (0 : Int) ≤ s + -1 := qc1
  obtain ⟨qc2, hc⟩ := zc1 hc
  have qc2 : (i : Int) ≤ k + 0 := qc2
  obtain ⟨qc3, hc⟩ := zc1 hc
  have qc3 : k ≤ (i : Int) + 0 := qc3
  obtain ⟨qc4, hc⟩ := zc1 hc
  have qc4 : j ≤ k + 40 := qc4
  obtain ⟨qc5, hc⟩ := zc1 hc
  have qc5 : k ≤ j + -40 := qc5
  obtain ⟨qc6, hc⟩ := zc1 hc
  have qc6 : w ≤ v + 0 := qc6
  obtain ⟨qc7, hc⟩ := zc1 hc
  have qc7 : v ≤ w + 0 := qc7
  have hw : zi H' (ua 119) i = w := hw
  refine ⟨s, k + 1, by simp [rD10], fun jj hj => ?_⟩
  rw [hk 79 _ (by decide) (Or.inl (by decide))]
  by_cases e : (jj : Int) < k
  · rw [hk 119 jj (by decide) (Or.inr (by omega))]
    exact h0 jj e
  · rw [show jj = i by omega, hw, show 40 * s.toNat + i = j.toNat by omega, hv]
    omega
theorem rD11_ok (hD : zk_d2 D ua) : zr_okS D rD11 := by
  refine zs_A_ok hD rfl (by decide) (by decide) ⟨_, _, rfl, by decide⟩ ?_
  intro ty H H' w a i Ls hT hp hc hw hk
  obtain ⟨l0, Ls', rfl, p0, hp⟩ := zr_cons hp
  obtain ⟨l1, Ls', rfl, p1, hp⟩ := zr_cons hp
  cases zr_nil hp
  obtain ⟨s, d, c, rfl, g0, s0, m0, h0⟩ := zd_op hD (by decide) p0
  obtain ⟨m_o, m, rfl, hm⟩ := zd_fm hD hT p1
  obtain ⟨qc0, hc⟩ := zc1 hc
  have qc0 : m ≤ (i : Int) + 0 := qc0
  have e43 : ∀ k, zi H' (ua 43) k = zi H (ua 43) k := fun k => hk 43 k (by decide) (Or.inl (by decide))
  have hu : ∀ t ∈ [77, 79, 114, 115, 116, 118], zi H' (ua t) = zi H (ua t) := fun t ht => funext (fun k => hk t k (zUq6 t ht).1 (Or.inl (zUq6 t ht).2.2))
  refine ⟨s, d, c, by simp [rD11], g0, s0, by rw [e43]; exact m0, fun x => ?_⟩
  rw [e43, zc_t_fun hu, zc_n_eq (fun j hj => hk 119 j (by decide) (Or.inr (by omega)))]
  exact h0 x
theorem rD12_ok (hD : zk_d2 D ua) : zr_okS D rD12 := by
  refine zs_F_ok hD rfl (by decide) (by decide) ⟨_, _, rfl, by decide⟩ ?_
  intro ty H H' w a Ls hT hp hc hw hk
  obtain ⟨l0, Ls', rfl, p0, hp⟩ := zr_cons hp
  obtain ⟨l1, Ls', rfl, p1, hp⟩ := zr_cons hp
  obtain ⟨l2, Ls', rfl, p2, hp⟩ := zr_cons hp
  obtain ⟨l3, Ls', rfl, p3, hp⟩ := zr_cons hp
  obtain ⟨l4, Ls', rfl, p4, hp⟩ := zr_cons hp
  obtain ⟨l5, Ls', rfl, p5, hp⟩ := zr_cons hp
  obtain ⟨l6, Ls', rfl, p6, hp⟩ := zr_cons hp
  cases zr_nil hp
  obtain ⟨s, d, c, rfl, g0, s0, m0, h0⟩ := zd_op hD (by decide) p0
  obtain ⟨m_o, m, rfl, hm⟩ := zd_fm hD hT p1
  obtain ⟨v_o, j, v, rfl, hj, hv⟩ := zd_em hD hT (by decide) p2
  obtain ⟨s2_o, i1, s2, rfl, hi1, hs2⟩ := zd_em hD hT (by decide) p3
  obtain ⟨d2_o, i2, d2, rfl, hi2, hd2⟩ := zd_em hD hT (by decide) p4
  obtain ⟨k2_o, i3, k2, rfl, hi3, hk2⟩ := zd_em hD hT (by decide) p5
  obtain ⟨m2_o, i4, m2, rfl, hi4, hm2⟩ := zd_em hD hT (by decide) p6
  obtain ⟨qc0, hc⟩ := zc1 hc
  have qc0 : j ≤ m + 0 := qc0
  obtain ⟨qc1, hc⟩ := zc1 hc
  have qc1 : m ≤ j + 0 := qc1
  obtain ⟨qc2, hc⟩ := zc1 hc
  have qc2 : v ≤ k2 + 0 := qc2
  obtain ⟨qc3, hc⟩ := zc1 hc
  have qc3 : k2 ≤ v + 0 := qc3
  obtain ⟨qc4, hc⟩ := zc1 hc
  have qc4 : i1 ≤ c + 0 := qc4
  obtain ⟨qc5, hc⟩ := zc1 hc
  have qc5 : c ≤ i1 + 0 := qc5
  obtain ⟨qc6, hc⟩ := zc1 hc
  have qc6 : i2 ≤ c + 0 := qc6
  obtain ⟨qc7, hc⟩ := zc1 hc
  have qc7 : c ≤ i2 + 0 := qc7
  obtain ⟨qc8, hc⟩ := zc1 hc
  have qc8 : i3 ≤ c + 0 := qc8
  obtain ⟨qc9, hc⟩ := zc1 hc
  have qc9 : c ≤ i3 + 0 := qc9
  obtain ⟨qc10, hc⟩ := zc1 hc
  have qc10 : i4 ≤ c + 0 := qc10
  obtain ⟨qc11, hc⟩ := zc1 hc
  have qc11 : c ≤ i4 + 0 := qc11
  obtain ⟨qc12, hc⟩ := zc1 hc
  have qc12 : s2 ≤ s + 0 := qc12
  obtain ⟨qc13, hc⟩ := zc1 hc
  have qc13 : s ≤ s2 + 0 := qc13
  obtain ⟨qc14, hc⟩ := zc1 hc
  have qc14 : d2 ≤ d + 0 := qc14
  obtain ⟨qc15, hc⟩ := zc1 hc
  have qc15 : (0 : Int) ≤ m2 + -1 := qc15
  obtain ⟨qc16, hc⟩ := zc1 hc
  have qc16 : w ≤ m + 1 := qc16
  obtain ⟨qc17, hc⟩ := zc1 hc
  have qc17 : m ≤ w + -1 := qc17
  have hw : zi H' (ua 43) (D.dI 12 67) = w := hw
  have hu : ∀ t ∈ [77, 79, 114, 115, 116, 118], zi H' (ua t) = zi H (ua t) := fun t ht => funext (fun k => hk t k (zUq6 t ht).1 (Or.inl (zUq6 t ht).2.1))
  have e119 : zi H' (ua 119) = zi H (ua 119) := funext (fun k => hk 119 k (by decide) (Or.inl (by decide)))
  rw [show i1.toNat = c.toNat by omega] at hs2
  rw [show i2.toNat = c.toNat by omega] at hd2
  rw [show i3.toNat = c.toNat by omega] at hk2
  rw [show i4.toNat = c.toNat by omega] at hm2
  rw [hm] at m0 h0
  refine ⟨s, d, c + 1, by simp [rD12], by omega, s0, by rw [hw]; omega, fun x => ?_⟩
  rw [hw, zc_t_fun hu, e119, show w.toNat = m.toNat + 1 by omega, show (c + 1).toNat = c.toNat + 1 by omega, zc_t_succ, ← h0 x]
  show zc_n _ x m.toNat + _ = _
  rw [show j.toNat = m.toNat by omega] at hv
  rw [hv, hs2, hk2, hm2, if_pos (show 1 ≤ m2 by omega)]
  by_cases e : v = x
  · rw [if_pos e, if_pos ⟨by omega, by omega, by omega⟩]
  · rw [if_neg e, if_neg (fun z => e (by omega))]
theorem rD13_ok (hD : zk_d2 D ua) : zr_okS D rD13 := by
  refine zs_F_ok hD rfl (by decide) (by decide) ⟨_, _, rfl, by decide⟩ ?_
  intro ty H H' w a Ls hT hp hc hw hk
  obtain ⟨l0, Ls', rfl, p0, hp⟩ := zr_cons hp
  obtain ⟨l1, Ls', rfl, p1, hp⟩ := zr_cons hp
  obtain ⟨l2, Ls', rfl, p2, hp⟩ := zr_cons hp
  obtain ⟨l3, Ls', rfl, p3, hp⟩ := zr_cons hp
  obtain ⟨l4, Ls', rfl, p4, hp⟩ := zr_cons hp
  obtain ⟨l5, Ls', rfl, p5, hp⟩ := zr_cons hp
  obtain ⟨l6, Ls', rfl, p6, hp⟩ := zr_cons hp
  cases zr_nil hp
  obtain ⟨s, d, c, rfl, g0, s0, m0, h0⟩ := zd_op hD (by decide) p0
  obtain ⟨k, p, rfl, b0, b1, b2⟩ := zd_op hD (by decide) p1
  obtain ⟨m_o, m, rfl, hm⟩ := zd_fm hD hT p2
  obtain ⟨s2_o, i1, s2, rfl, hi1, hs2⟩ := zd_em hD hT (by decide) p3
  obtain ⟨d2_o, i2, d2, rfl, hi2, hd2⟩ := zd_em hD hT (by decide) p4
  obtain ⟨k2_o, i3, k2, rfl, hi3, hk2⟩ := zd_em hD hT (by decide) p5
  obtain ⟨m2_o, i4, m2, rfl, hi4, hm2⟩ := zd_em hD hT (by decide) p6
  obtain ⟨qc0, hc⟩ := zc1 hc
  have qc0 : k ≤ k2 + 0 := qc0
  obtain ⟨qc1, hc⟩ := zc1 hc
  have qc1 : k2 ≤ k + 0 := qc1
  obtain ⟨qc2, hc⟩ := zc1 hc
  have qc2 : i1 ≤ c + 0 := qc2
  obtain ⟨qc3, hc⟩ := zc1 hc
  have qc3 : c ≤ i1 + 0 := qc3
  obtain ⟨qc4, hc⟩ := zc1 hc
  have qc4 : i2 ≤ c + 0 := qc4
  obtain ⟨qc5, hc⟩ := zc1 hc
  have qc5 : c ≤ i2 + 0 := qc5
  obtain ⟨qc6, hc⟩ := zc1 hc
  have qc6 : i3 ≤ c + 0 := qc6
  obtain ⟨qc7, hc⟩ := zc1 hc
  have qc7 : c ≤ i3 + 0 := qc7
  obtain ⟨qc8, hc⟩ := zc1 hc
  have qc8 : i4 ≤ c + 0 := qc8
  obtain ⟨qc9, hc⟩ := zc1 hc
  have qc9 : c ≤ i4 + 0 := qc9
  obtain ⟨qc10, hc⟩ := zc1 hc
  have qc10 : s2 ≤ s + 0 := qc10
  obtain ⟨qc11, hc⟩ := zc1 hc
  have qc11 : s ≤ s2 + 0 := qc11
  obtain ⟨qc12, hc⟩ := zc1 hc
  have qc12 : d2 ≤ d + 0 := qc12
  obtain ⟨qc13, hc⟩ := zc1 hc
  have qc13 : m2 ≤ (0 : Int) + 0 := qc13
  obtain ⟨qc14, hc⟩ := zc1 hc
  have qc14 : w ≤ m + -1 := qc14
  obtain ⟨qc15, hc⟩ := zc1 hc
  have qc15 : m ≤ w + 1 := qc15
  have hw : zi H' (ua 43) (D.dI 12 67) = w := hw
  have hu : ∀ t ∈ [77, 79, 114, 115, 116, 118], zi H' (ua t) = zi H (ua t) := fun t ht => funext (fun k => hk t k (zUq6 t ht).1 (Or.inl (zUq6 t ht).2.1))
  have e119 : zi H' (ua 119) = zi H (ua 119) := funext (fun k => hk 119 k (by decide) (Or.inl (by decide)))
  rw [show i1.toNat = c.toNat by omega] at hs2
  rw [show i2.toNat = c.toNat by omega] at hd2
  rw [show i3.toNat = c.toNat by omega] at hk2
  rw [show i4.toNat = c.toNat by omega] at hm2
  rw [hm] at m0 h0 b1
  refine ⟨s, d, c, p, by simp [rD13], g0, s0, b0, by rw [hw]; omega, fun x => ?_⟩
  rw [hw, zc_t_fun hu, e119, show w.toNat + 1 = m.toNat by omega, zc_t_succ, h0 x, b2, hs2, hk2, hm2, if_neg (show ¬ 1 ≤ m2 by omega)]
  by_cases e : k = x
  · rw [if_pos e, if_pos ⟨by omega, by omega, by omega⟩]
    omega
  · rw [if_neg e, if_neg (fun z => e (by omega))]
    omega
theorem rD14_ok (hD : zk_d2 D ua) : zr_okS D rD14 := by
  refine zs_A_ok hD rfl (by decide) (by decide) ⟨_, _, rfl, by decide⟩ ?_
  intro ty H H' w a i Ls hT hp hc hw hk
  obtain ⟨l0, Ls', rfl, p0, hp⟩ := zr_cons hp
  obtain ⟨l1, Ls', rfl, p1, hp⟩ := zr_cons hp
  obtain ⟨l2, Ls', rfl, p2, hp⟩ := zr_cons hp
  cases zr_nil hp
  obtain ⟨s, d, c, p, rfl, g0, s0, b0, b1, h0⟩ := zd_op hD (by decide) p0
  obtain ⟨m_o, m, rfl, hm⟩ := zd_fm hD hT p1
  obtain ⟨v_o, j, v, rfl, hj, hv⟩ := zd_em hD hT (by decide) p2
  obtain ⟨qc0, hc⟩ := zc1 hc
  have qc0 : j ≤ m + 0 := qc0
  obtain ⟨qc1, hc⟩ := zc1 hc
  have qc1 : m ≤ j + 0 := qc1
  obtain ⟨qc2, hc⟩ := zc1 hc
  have qc2 : (i : Int) ≤ p + 0 := qc2
  obtain ⟨qc3, hc⟩ := zc1 hc
  have qc3 : p ≤ (i : Int) + 0 := qc3
  obtain ⟨qc4, hc⟩ := zc1 hc
  have qc4 : w ≤ v + 0 := qc4
  obtain ⟨qc5, hc⟩ := zc1 hc
  have qc5 : v ≤ w + 0 := qc5
  have e43 : ∀ k, zi H' (ua 43) k = zi H (ua 43) k := fun k => hk 43 k (by decide) (Or.inl (by decide))
  have hu : ∀ t ∈ [77, 79, 114, 115, 116, 118], zi H' (ua t) = zi H (ua t) := fun t ht => funext (fun k => hk t k (zUq6 t ht).1 (Or.inl (zUq6 t ht).2.2))
  have hw : zi H' (ua 119) i = w := hw
  rw [hm] at b1 h0
  refine ⟨s, d, c + 1, by simp [rD14], by omega, s0, by rw [e43, hm]; omega, fun x => ?_⟩
  rw [show j.toNat = m.toNat by omega] at hv
  have sw := zc_n_swap (f := zi H (ua 119)) (g := zi H' (ua 119)) (x := x) (p := p.toNat) (m := m.toNat) (by rw [show p.toNat = i by omega, hw, hv]; omega) (fun j' hj' => hk 119 j' (by decide) (Or.inr (by omega))) (by omega)
  rw [h0 x] at sw
  rw [e43, hm, zc_t_fun hu, show (c + 1).toNat = c.toNat + 1 by omega]
  omega
theorem rU10_ok (hD : zk_d2 D ua) : zr_okU D rU10 := by
  intro ty H Ls hT hp hc
  obtain ⟨l0, Ls', rfl, p0, hp⟩ := zr_cons hp
  cases zr_nil hp
  obtain ⟨rfl, h0_1, h0_2⟩ := zd_op hD (by decide) p0
  refine ⟨_, List.mem_singleton.mpr rfl, fun c hc => (by cases hc), fun f hf => ?_⟩
  rw [List.mem_singleton.mp hf]
  exact (hD.1 104 (by decide) _ _ _).mpr ⟨zd_ty hD (by decide) p0, 0, by simp, fun j hj => by omega⟩
theorem rU11_ok (hD : zk_d2 D ua) : zr_okU D rU11 := by
  intro ty H Ls hT hp hc
  obtain ⟨l0, Ls', rfl, p0, hp⟩ := zr_cons hp
  obtain ⟨l1, Ls', rfl, p1, hp⟩ := zr_cons hp
  obtain ⟨l2, Ls', rfl, p2, hp⟩ := zr_cons hp
  obtain ⟨l3, Ls', rfl, p3, hp⟩ := zr_cons hp
  obtain ⟨l4, Ls', rfl, p4, hp⟩ := zr_cons hp
  obtain ⟨l5, Ls', rfl, p5, hp⟩ := zr_cons hp
  obtain ⟨l6, Ls', rfl, p6, hp⟩ := zr_cons hp
  cases zr_nil hp
  obtain ⟨rfl, h0_1, h0_2⟩ := zd_op hD (by decide) p0
  obtain ⟨k, rfl, h1_1⟩ := zd_op hD (by decide) p1
  obtain ⟨x, i1, v, rfl, hi1, hv⟩ := zd_em hD hT (by decide) p2
  obtain ⟨x3, i3, v3, rfl, hi3, hv3⟩ := zd_em hD hT (by decide) p3
  obtain ⟨x4, i4, v4, rfl, hi4, hv4⟩ := zd_em hD hT (by decide) p4
  obtain ⟨x5, i5, v5, rfl, hi5, hv5⟩ := zd_em hD hT (by decide) p5
  obtain ⟨x6, i6, v6, rfl, hi6, hv6⟩ := zd_em hD hT (by decide) p6
  obtain ⟨qc0, hc⟩ := zc1 hc
  have qc0 : i1 ≤ (0 : Int) + 1 := qc0
  obtain ⟨qc1, hc⟩ := zc1 hc
  have qc1 : (0 : Int) ≤ i1 + -1 := qc1
  obtain ⟨qc2, hc⟩ := zc1 hc
  have qc2 : i3 ≤ k + 0 := qc2
  obtain ⟨qc3, hc⟩ := zc1 hc
  have qc3 : k ≤ i3 + 0 := qc3
  obtain ⟨qc4, hc⟩ := zc1 hc
  have qc4 : i4 ≤ k + 30 := qc4
  obtain ⟨qc5, hc⟩ := zc1 hc
  have qc5 : k ≤ i4 + -30 := qc5
  obtain ⟨qc6, hc⟩ := zc1 hc
  have qc6 : i5 ≤ k + 0 := qc6
  obtain ⟨qc7, hc⟩ := zc1 hc
  have qc7 : k ≤ i5 + 0 := qc7
  obtain ⟨qc8, hc⟩ := zc1 hc
  have qc8 : i6 ≤ k + 30 := qc8
  obtain ⟨qc9, hc⟩ := zc1 hc
  have qc9 : k ≤ i6 + -30 := qc9
  obtain ⟨qc10, hc⟩ := zc1 hc
  have qc10 : k ≤ v + -1 := qc10
  obtain ⟨qc11, hc⟩ := zc1 hc
  have qc11 : v3 ≤ v4 + 0 := qc11
  obtain ⟨qc12, hc⟩ := zc1 hc
  have qc12 : v4 ≤ v3 + 0 := qc12
  obtain ⟨qc13, hc⟩ := zc1 hc
  have qc13 : v6 ≤ v5 + 0 := qc13
  rw [show i1.toNat = 1 by omega] at hv
  refine ⟨_, List.mem_singleton.mpr rfl, fun c hc => (by cases hc), fun f hf => ?_⟩
  rw [List.mem_singleton.mp hf]
  refine (hD.1 104 (by decide) _ _ _).mpr ⟨zd_ty hD (by decide) p0, k + 1, by simp, fun j hj h => ?_⟩
  by_cases e : (j : Int) < k
  · exact h1_1 j e h
  · rw [show i3.toNat = 0 + j by omega] at hv3
    rw [show i4.toNat = 30 + j by omega] at hv4
    rw [show i5.toNat = 0 + j by omega] at hv5
    rw [show i6.toNat = 30 + j by omega] at hv6
    have := h0_2 j (by omega) (by omega)
    omega
theorem rU12_ok (hD : zk_d2 D ua) : zr_okU D rU12 := by
  intro ty H Ls hT hp hc
  obtain ⟨l0, Ls', rfl, p0, hp⟩ := zr_cons hp
  obtain ⟨l1, Ls', rfl, p1, hp⟩ := zr_cons hp
  cases zr_nil hp
  obtain ⟨k, rfl, h0_1⟩ := zd_op hD (by decide) p0
  obtain ⟨x, i1, v, rfl, hi1, hv⟩ := zd_em hD hT (by decide) p1
  obtain ⟨qc0, hc⟩ := zc1 hc
  have qc0 : i1 ≤ (0 : Int) + 0 := qc0
  obtain ⟨qc1, hc⟩ := zc1 hc
  have qc1 : v ≤ k + 0 := qc1
  obtain ⟨qc2, hc⟩ := zc1 hc
  have qc2 : v ≤ (0 : Int) + 30 := qc2
  rw [show i1.toNat = 0 by omega] at hv
  refine ⟨_, List.mem_singleton.mpr rfl, fun c hc => (by cases hc), fun f hf => ?_⟩
  rw [List.mem_singleton.mp hf]
  exact (hD.1 102 (by decide) _ _ _).mpr ⟨zd_ty hD (by decide) p0, by simp, by omega, fun j hj h => h0_1 j (by omega) h⟩
theorem rU13_ok (hD : zk_d2 D ua) : zr_okU D rU13 := by
  intro ty H Ls hT hp hc
  obtain ⟨l0, Ls', rfl, p0, hp⟩ := zr_cons hp
  obtain ⟨l1, Ls', rfl, p1, hp⟩ := zr_cons hp
  obtain ⟨l2, Ls', rfl, p2, hp⟩ := zr_cons hp
  obtain ⟨l3, Ls', rfl, p3, hp⟩ := zr_cons hp
  cases zr_nil hp
  obtain ⟨rfl, h0_1, h0_2⟩ := zd_op hD (by decide) p0
  obtain ⟨x, i1, v, rfl, hi1, hv⟩ := zd_em hD hT (by decide) p1
  obtain ⟨x2, i2, v2, rfl, hi2, hv2⟩ := zd_em hD hT (by decide) p2
  obtain ⟨x3, i3, v3, rfl, hi3, hv3⟩ := zd_em hD hT (by decide) p3
  obtain ⟨qc0, hc⟩ := zc1 hc
  have qc0 : i1 ≤ (0 : Int) + 0 := qc0
  obtain ⟨qc1, hc⟩ := zc1 hc
  have qc1 : i2 ≤ v + -1 := qc1
  obtain ⟨qc2, hc⟩ := zc1 hc
  have qc2 : i3 ≤ i2 + 0 := qc2
  obtain ⟨qc3, hc⟩ := zc1 hc
  have qc3 : i2 ≤ i3 + 0 := qc3
  obtain ⟨qc4, hc⟩ := zc1 hc
  have qc4 : (0 : Int) ≤ v2 + -12 := qc4
  rw [show i1.toNat = 0 by omega] at hv
  refine ⟨_, List.mem_singleton.mpr rfl, fun c hc => ?_, fun f hf => (by cases hf)⟩
  rw [List.mem_singleton.mp hc]
  show 0 ≤ v3 + 0
  rw [show i2.toNat = 0 + i3.toNat by omega] at hv2
  have := h0_2 i3.toNat (by omega) (by omega)
  rw [Nat.zero_add] at this
  omega
theorem rU14_ok (hD : zk_d2 D ua) : zr_okU D rU14 := by
  intro ty H Ls hT hp hc
  obtain ⟨l0, Ls', rfl, p0, hp⟩ := zr_cons hp
  obtain ⟨l1, Ls', rfl, p1, hp⟩ := zr_cons hp
  obtain ⟨l2, Ls', rfl, p2, hp⟩ := zr_cons hp
  obtain ⟨l3, Ls', rfl, p3, hp⟩ := zr_cons hp
  cases zr_nil hp
  obtain ⟨rfl, h0_1, h0_2⟩ := zd_op hD (by decide) p0
  obtain ⟨x, i1, v, rfl, hi1, hv⟩ := zd_em hD hT (by decide) p1
  obtain ⟨x2, i2, v2, rfl, hi2, hv2⟩ := zd_em hD hT (by decide) p2
  obtain ⟨x3, i3, v3, rfl, hi3, hv3⟩ := zd_em hD hT (by decide) p3
  obtain ⟨qc0, hc⟩ := zc1 hc
  have qc0 : i1 ≤ (0 : Int) + 0 := qc0
  obtain ⟨qc1, hc⟩ := zc1 hc
  have qc1 : i2 ≤ v + -1 := qc1
  obtain ⟨qc2, hc⟩ := zc1 hc
  have qc2 : i3 ≤ i2 + 0 := qc2
  obtain ⟨qc3, hc⟩ := zc1 hc
  have qc3 : i2 ≤ i3 + 0 := qc3
  obtain ⟨qc4, hc⟩ := zc1 hc
  have qc4 : v2 ≤ (0 : Int) + 5 := qc4
  rw [show i1.toNat = 0 by omega] at hv
  refine ⟨_, List.mem_singleton.mpr rfl, fun c hc => ?_, fun f hf => (by cases hf)⟩
  rw [List.mem_singleton.mp hc]
  show 0 ≤ v3 + 0
  rw [show i2.toNat = 0 + i3.toNat by omega] at hv2
  have := h0_2 i3.toNat (by omega) (by omega)
  rw [Nat.zero_add] at this
  omega
theorem rU20_ok (hD : zk_d2 D ua) : zr_okU D rU20 := by
  intro ty H Ls hT hp hc
  obtain ⟨l0, Ls', rfl, p0, hp⟩ := zr_cons hp
  obtain ⟨l1, Ls', rfl, p1, hp⟩ := zr_cons hp
  obtain ⟨l2, Ls', rfl, p2, hp⟩ := zr_cons hp
  obtain ⟨l3, Ls', rfl, p3, hp⟩ := zr_cons hp
  obtain ⟨l4, Ls', rfl, p4, hp⟩ := zr_cons hp
  cases zr_nil hp
  obtain ⟨rfl, h0⟩ := zd_op hD (by decide) p0
  obtain ⟨x, y, rfl, hx, ⟨q, hq, ex⟩, hy⟩ := zd_wy hD hT p1
  obtain ⟨y2, i1, v1, rfl, hy2, hi1, hv1⟩ := zd_pl p2
  obtain ⟨x3, z, rfl, hx3, -, hz⟩ := zd_wy hD hT p3
  obtain ⟨z2, i2, v2, rfl, hz2, hi2, hv2⟩ := zd_pl p4
  obtain ⟨c0, hc⟩ := zc1 hc
  obtain ⟨c1, hc⟩ := zc1 hc
  obtain ⟨c2, hc⟩ := zc1 hc
  obtain ⟨c3, hc⟩ := zc1 hc
  obtain ⟨c4, hc⟩ := zc1 hc
  obtain ⟨c5, hc⟩ := zc1 hc
  obtain ⟨c6, hc⟩ := zc1 hc
  obtain ⟨c7, hc⟩ := zc1 hc
  obtain ⟨c8, -⟩ := zc1 hc
  have c0 : x3 ≤ x + 0 := c0
  have c1 : x ≤ x3 + 0 := c1
  have c2 : y2 ≤ y + 0 := c2
  have c3 : y ≤ y2 + 0 := c3
  have c4 : z2 ≤ z + 0 := c4
  have c5 : z ≤ z2 + 0 := c5
  have c6 : i2 ≤ i1 + 0 := c6
  have c7 : i1 ≤ i2 + 0 := c7
  have c8 : (0 : Int) ≤ v1 + -6 := c8
  refine ⟨_, List.mem_singleton.mpr rfl, fun c hc => ?_, fun f hf => (by cases hf)⟩
  rw [List.mem_singleton.mp hc]
  show v2 ≤ 0 + 7
  obtain ⟨g1, g2, g3⟩ := h0 q hq
  rw [ex] at hy
  rw [show x3.toNat = ua (1000 + q) by rw [← ex]; congr 1; omega] at hz
  have e1 : y2.toNat = ua (1010 + q) := by omega
  have e2 : z2.toNat = ua (1020 + q) := by omega
  rw [e1] at hv1
  rw [e2, show i2.toNat = i1.toNat by omega] at hv2
  have := g3 i1.toNat (fun z => z) (by omega)
  omega
theorem rU30_ok (hD : zk_d2 D ua) : zr_okU D rU30 := by
  intro ty H Ls hT hp hc
  obtain ⟨l0, Ls', rfl, p0, hp⟩ := zr_cons hp
  cases zr_nil hp
  obtain ⟨k, rfl, h0_1⟩ := zd_op hD (by decide) p0
  obtain ⟨qc0, hc⟩ := zc1 hc
  have qc0 : k ≤ (0 : Int) + 29 := qc0
  obtain ⟨qc1, hc⟩ := zc1 hc
  have qc1 : (0 : Int) ≤ k + 0 := qc1
  refine ⟨_, List.mem_singleton.mpr rfl, fun c hc => (by cases hc), fun f hf => ?_⟩
  rw [List.mem_singleton.mp hf]
  obtain ⟨g1, g2⟩ := h0_1 0 (by decide)
  obtain ⟨g3, g4⟩ := h0_1 1 (by decide)
  exact (hD.1 121 (by decide) _ _ _).mpr ⟨zd_ty hD (by decide) p0, 0, 0, k, by simp, by omega, by omega, by omega, by omega, g3, (show zi H (ua 106) 1 ≤ 61 * (k + 1) by omega), _, g1, g2, by omega, fun h => by omega⟩
theorem rU32_ok (hD : zk_d2 D ua) : zr_okU D rU32 := by
  intro ty H Ls hT hp hc
  obtain ⟨l0, Ls', rfl, p0, hp⟩ := zr_cons hp
  obtain ⟨l1, Ls', rfl, p1, hp⟩ := zr_cons hp
  cases zr_nil hp
  obtain ⟨c, v, k, rfl, k0, k1, b0, b1, o1, o2, a, a1, a2, a3, a4⟩ := zd_op hD (by decide) p0
  obtain ⟨x, j1, m, rfl, hj1, hm⟩ := zd_em hD hT (by decide) p1
  obtain ⟨qc0, hc⟩ := zc1 hc
  have qc0 : j1 ≤ (0 : Int) + 0 := qc0
  obtain ⟨qc1, hc⟩ := zc1 hc
  have qc1 : (0 : Int) ≤ j1 + 0 := qc1
  obtain ⟨qc2, hc⟩ := zc1 hc
  have qc2 : c ≤ (0 : Int) + 60 := qc2
  rw [show j1.toNat = 0 by omega] at hm
  have a5 := a1.1
  refine ⟨_, List.mem_singleton.mpr rfl, fun c hc => ?_, fun f hf => (by cases hf)⟩
  simp only [List.mem_cons, List.not_mem_nil, or_false] at hc
  rcases hc with rfl | rfl
  · show m ≤ 0 + 1829
    omega
  · show 0 ≤ m + 0
    omega
theorem rU34_ok (hD : zk_d2 D ua) : zr_okU D rU34 := by
  intro ty H Ls hT hp hc
  obtain ⟨l0, Ls', rfl, p0, hp⟩ := zr_cons hp
  cases zr_nil hp
  obtain ⟨c, v, k, rfl, k0, k1, b0, b1, o1, o2, a, a1, a2, a3, a4⟩ := zd_op hD (by decide) p0
  obtain ⟨qc0, hc⟩ := zc1 hc
  have qc0 : v ≤ (0 : Int) + -1 := qc0
  obtain ⟨qc1, hc⟩ := zc1 hc
  have qc1 : (0 : Int) ≤ v + 1 := qc1
  obtain ⟨qc2, hc⟩ := zc1 hc
  have qc2 : c ≤ (0 : Int) + 2 := qc2
  obtain ⟨qc3, hc⟩ := zc1 hc
  have qc3 : (0 : Int) ≤ c + -2 := qc3
  refine ⟨_, List.mem_singleton.mpr rfl, fun c hc => (by cases hc), fun f hf => ?_⟩
  rw [List.mem_singleton.mp hf]
  have a5 := a1.1
  have hn : zf_sw ua (zi H) 0 (zi H (ua 106) 0) := by
    have h1 := a4 (by omega)
    have := zb_k_snoc a1.2 (by rw [h1]; omega) (by rw [h1]; omega)
    rw [h1] at this
    refine ⟨by omega, ?_⟩
    have e : 2000 * 0 + a.toNat + zb_l v = 2000 * 0 + (zi H (ua 106) 0).toNat := by
      unfold zb_l
      split <;> omega
    rw [e] at this
    exact this
  refine (hD.1 120 (by decide) _ _ _).mpr ⟨zd_ty hD (by decide) p0, k + 1, by simp, fun s hs => ?_⟩
  rcases hs with rfl | rfl
  · exact ⟨hn, by omega⟩
  · exact ⟨o1, o2⟩
theorem rU36_ok (hD : zk_d2 D ua) : zr_okU D rU36 := by
  intro ty H Ls hT hp hc
  obtain ⟨l0, Ls', rfl, p0, hp⟩ := zr_cons hp
  cases zr_nil hp
  obtain ⟨c, v, k, rfl, k0, k1, b0, b1, o1, o2, a, a1, a2, a3, a4⟩ := zd_op hD (by decide) p0
  obtain ⟨qc0, hc⟩ := zc1 hc
  have qc0 : (0 : Int) ≤ v + 0 := qc0
  obtain ⟨qc1, hc⟩ := zc1 hc
  have qc1 : v ≤ (0 : Int) + 60 := qc1
  obtain ⟨qc2, hc⟩ := zc1 hc
  have qc2 : c ≤ v + 1 := qc2
  obtain ⟨qc3, hc⟩ := zc1 hc
  have qc3 : v ≤ c + -1 := qc3
  refine ⟨_, List.mem_singleton.mpr rfl, fun c hc => (by cases hc), fun f hf => ?_⟩
  rw [List.mem_singleton.mp hf]
  have a5 := a1.1
  have hn : zf_sw ua (zi H) 0 (zi H (ua 106) 0) := by
    have h1 := a4 (by omega)
    have := zb_k_snoc a1.2 (by rw [h1]; omega) (by rw [h1]; omega)
    rw [h1] at this
    refine ⟨by omega, ?_⟩
    have e : 2000 * 0 + a.toNat + zb_l v = 2000 * 0 + (zi H (ua 106) 0).toNat := by
      unfold zb_l
      split <;> omega
    rw [e] at this
    exact this
  refine (hD.1 120 (by decide) _ _ _).mpr ⟨zd_ty hD (by decide) p0, k + 1, by simp, fun s hs => ?_⟩
  rcases hs with rfl | rfl
  · exact ⟨hn, by omega⟩
  · exact ⟨o1, o2⟩
theorem rU31_ok (hD : zk_d2 D ua) : zr_okU D rU31 := by
  intro ty H Ls hT hp hc
  obtain ⟨l0, Ls', rfl, p0, hp⟩ := zr_cons hp
  cases zr_nil hp
  obtain ⟨k, rfl, h0_1⟩ := zd_op hD (by decide) p0
  obtain ⟨qc0, hc⟩ := zc1 hc
  have qc0 : k ≤ (0 : Int) + 29 := qc0
  obtain ⟨qc1, hc⟩ := zc1 hc
  have qc1 : (0 : Int) ≤ k + 0 := qc1
  refine ⟨_, List.mem_singleton.mpr rfl, fun c hc => (by cases hc), fun f hf => ?_⟩
  rw [List.mem_singleton.mp hf]
  obtain ⟨g1, g2⟩ := h0_1 1 (by decide)
  obtain ⟨g3, g4⟩ := h0_1 0 (by decide)
  exact (hD.1 122 (by decide) _ _ _).mpr ⟨zd_ty hD (by decide) p0, 0, 0, k, by simp, by omega, by omega, by omega, by omega, g3, (show zi H (ua 106) 0 ≤ 61 * (k + 1) by omega), _, g1, g2, by omega, fun h => by omega⟩
theorem rU33_ok (hD : zk_d2 D ua) : zr_okU D rU33 := by
  intro ty H Ls hT hp hc
  obtain ⟨l0, Ls', rfl, p0, hp⟩ := zr_cons hp
  obtain ⟨l1, Ls', rfl, p1, hp⟩ := zr_cons hp
  cases zr_nil hp
  obtain ⟨c, v, k, rfl, k0, k1, b0, b1, o1, o2, a, a1, a2, a3, a4⟩ := zd_op hD (by decide) p0
  obtain ⟨x, j1, m, rfl, hj1, hm⟩ := zd_em hD hT (by decide) p1
  obtain ⟨qc0, hc⟩ := zc1 hc
  have qc0 : j1 ≤ (0 : Int) + 1 := qc0
  obtain ⟨qc1, hc⟩ := zc1 hc
  have qc1 : (0 : Int) ≤ j1 + -1 := qc1
  obtain ⟨qc2, hc⟩ := zc1 hc
  have qc2 : c ≤ (0 : Int) + 60 := qc2
  rw [show j1.toNat = 1 by omega] at hm
  have a5 := a1.1
  refine ⟨_, List.mem_singleton.mpr rfl, fun c hc => ?_, fun f hf => (by cases hf)⟩
  simp only [List.mem_cons, List.not_mem_nil, or_false] at hc
  rcases hc with rfl | rfl
  · show m ≤ 0 + 1829
    omega
  · show 0 ≤ m + 0
    omega
theorem rU35_ok (hD : zk_d2 D ua) : zr_okU D rU35 := by
  intro ty H Ls hT hp hc
  obtain ⟨l0, Ls', rfl, p0, hp⟩ := zr_cons hp
  cases zr_nil hp
  obtain ⟨c, v, k, rfl, k0, k1, b0, b1, o1, o2, a, a1, a2, a3, a4⟩ := zd_op hD (by decide) p0
  obtain ⟨qc0, hc⟩ := zc1 hc
  have qc0 : v ≤ (0 : Int) + -1 := qc0
  obtain ⟨qc1, hc⟩ := zc1 hc
  have qc1 : (0 : Int) ≤ v + 1 := qc1
  obtain ⟨qc2, hc⟩ := zc1 hc
  have qc2 : c ≤ (0 : Int) + 2 := qc2
  obtain ⟨qc3, hc⟩ := zc1 hc
  have qc3 : (0 : Int) ≤ c + -2 := qc3
  refine ⟨_, List.mem_singleton.mpr rfl, fun c hc => (by cases hc), fun f hf => ?_⟩
  rw [List.mem_singleton.mp hf]
  have a5 := a1.1
  have hn : zf_sw ua (zi H) 1 (zi H (ua 106) 1) := by
    have h1 := a4 (by omega)
    have := zb_k_snoc a1.2 (by rw [h1]; omega) (by rw [h1]; omega)
    rw [h1] at this
    refine ⟨by omega, ?_⟩
    have e : 2000 * 1 + a.toNat + zb_l v = 2000 * 1 + (zi H (ua 106) 1).toNat := by
      unfold zb_l
      split <;> omega
    rw [e] at this
    exact this
  refine (hD.1 120 (by decide) _ _ _).mpr ⟨zd_ty hD (by decide) p0, k + 1, by simp, fun s hs => ?_⟩
  rcases hs with rfl | rfl
  · exact ⟨o1, o2⟩
  · exact ⟨hn, by omega⟩
theorem rU37_ok (hD : zk_d2 D ua) : zr_okU D rU37 := by
  intro ty H Ls hT hp hc
  obtain ⟨l0, Ls', rfl, p0, hp⟩ := zr_cons hp
  cases zr_nil hp
  obtain ⟨c, v, k, rfl, k0, k1, b0, b1, o1, o2, a, a1, a2, a3, a4⟩ := zd_op hD (by decide) p0
  obtain ⟨qc0, hc⟩ := zc1 hc
  have qc0 : (0 : Int) ≤ v + 0 := qc0
  obtain ⟨qc1, hc⟩ := zc1 hc
  have qc1 : v ≤ (0 : Int) + 60 := qc1
  obtain ⟨qc2, hc⟩ := zc1 hc
  have qc2 : c ≤ v + 1 := qc2
  obtain ⟨qc3, hc⟩ := zc1 hc
  have qc3 : v ≤ c + -1 := qc3
  refine ⟨_, List.mem_singleton.mpr rfl, fun c hc => (by cases hc), fun f hf => ?_⟩
  rw [List.mem_singleton.mp hf]
  have a5 := a1.1
  have hn : zf_sw ua (zi H) 1 (zi H (ua 106) 1) := by
    have h1 := a4 (by omega)
    have := zb_k_snoc a1.2 (by rw [h1]; omega) (by rw [h1]; omega)
    rw [h1] at this
    refine ⟨by omega, ?_⟩
    have e : 2000 * 1 + a.toNat + zb_l v = 2000 * 1 + (zi H (ua 106) 1).toNat := by
      unfold zb_l
      split <;> omega
    rw [e] at this
    exact this
  refine (hD.1 120 (by decide) _ _ _).mpr ⟨zd_ty hD (by decide) p0, k + 1, by simp, fun s hs => ?_⟩
  rcases hs with rfl | rfl
  · exact ⟨o1, o2⟩
  · exact ⟨hn, by omega⟩
theorem rU38_ok (hD : zk_d2 D ua) : zr_okU D rU38 := by
  intro ty H Ls hT hp hc
  obtain ⟨l0, Ls', rfl, p0, hp⟩ := zr_cons hp
  obtain ⟨l1, Ls', rfl, p1, hp⟩ := zr_cons hp
  cases zr_nil hp
  obtain ⟨k, rfl, h0_1⟩ := zd_op hD (by decide) p0
  obtain ⟨x, j1, v, rfl, hj1, hv⟩ := zd_em hD hT (by decide) p1
  obtain ⟨qc0, hc⟩ := zc1 hc
  have qc0 : j1 ≤ k + 0 := qc0
  obtain ⟨qc1, hc⟩ := zc1 hc
  have qc1 : k ≤ j1 + 0 := qc1
  refine ⟨_, List.mem_singleton.mpr rfl, fun c hc => (by cases hc), fun f hf => ?_⟩
  rw [List.mem_singleton.mp hf]
  refine (hD.1 120 (by decide) _ _ _).mpr ⟨zd_ty hD (by decide) p0, k + 1, by simp, fun s hs => ?_⟩
  obtain ⟨g1, g2⟩ := h0_1 s hs
  exact ⟨g1, by omega⟩
theorem rU29_ok (hD : zk_d2 D ua) : zr_okU D rU29 := by
  intro ty H Ls hT hp hc
  obtain ⟨l0, Ls', rfl, p0, hp⟩ := zr_cons hp
  cases zr_nil hp
  obtain ⟨k, rfl, h0_1⟩ := zd_op hD (by decide) p0
  obtain ⟨qc0, hc⟩ := zc1 hc
  have qc0 : k ≤ (0 : Int) + 30 := qc0
  refine ⟨_, List.mem_singleton.mpr rfl, fun c hc => (by cases hc), fun f hf => ?_⟩
  rw [List.mem_singleton.mp hf]
  refine (hD.1 120 (by decide) _ _ _).mpr ⟨zd_ty hD (by decide) p0, 30, by simp, fun s hs => ?_⟩
  obtain ⟨g1, g2⟩ := h0_1 s hs
  exact ⟨g1, by omega⟩
theorem rU39_ok (hD : zk_d2 D ua) : zr_okU D rU39 := by
  intro ty H Ls hT hp hc
  obtain ⟨l0, Ls', rfl, p0, hp⟩ := zr_cons hp
  obtain ⟨l1, Ls', rfl, p1, hp⟩ := zr_cons hp
  obtain ⟨l2, Ls', rfl, p2, hp⟩ := zr_cons hp
  cases zr_nil hp
  obtain ⟨rfl, h0_1, h0_2⟩ := zd_op hD (by decide) p0
  obtain ⟨x, j1, m, rfl, hj1, hm⟩ := zd_em hD hT (by decide) p1
  obtain ⟨x2, j2, m2, rfl, hj2, hm2⟩ := zd_em hD hT (by decide) p2
  obtain ⟨qc0, hc⟩ := zc1 hc
  have qc0 : j1 ≤ (0 : Int) + 0 := qc0
  obtain ⟨qc1, hc⟩ := zc1 hc
  have qc1 : j2 ≤ (0 : Int) + 1 := qc1
  obtain ⟨qc2, hc⟩ := zc1 hc
  have qc2 : (0 : Int) ≤ j2 + -1 := qc2
  obtain ⟨qc3, hc⟩ := zc1 hc
  have qc3 : m ≤ (0 : Int) + 0 := qc3
  obtain ⟨qc4, hc⟩ := zc1 hc
  have qc4 : (0 : Int) ≤ m + 0 := qc4
  obtain ⟨qc5, hc⟩ := zc1 hc
  have qc5 : m2 ≤ (0 : Int) + 0 := qc5
  obtain ⟨qc6, hc⟩ := zc1 hc
  have qc6 : (0 : Int) ≤ m2 + 0 := qc6
  refine ⟨_, List.mem_singleton.mpr rfl, fun c hc => (by cases hc), fun f hf => ?_⟩
  rw [List.mem_singleton.mp hf]
  rw [show j1.toNat = 0 by omega] at hm
  rw [show j2.toNat = 1 by omega] at hm2
  refine (hD.1 120 (by decide) _ _ _).mpr ⟨zd_ty hD (by decide) p0, 0, by simp, fun s hs => ?_⟩
  have e : zi H (ua 106) s = 0 := by rcases hs with rfl | rfl <;> omega
  rw [e]
  exact ⟨⟨by omega, zb_k_nil _ _⟩, by omega⟩
theorem rU40_ok (hD : zk_d2 D ua) : zr_okU D rU40 := by
  intro ty H Ls hT hp hc
  obtain ⟨l0, Ls', rfl, p0, hp⟩ := zr_cons hp
  cases zr_nil hp
  obtain ⟨rfl, h0_1, h0_2⟩ := zd_op hD (by decide) p0
  refine ⟨_, List.mem_singleton.mpr rfl, fun c hc => (by cases hc), fun f hf => ?_⟩
  rw [List.mem_singleton.mp hf]
  exact (hD.1 134 (by decide) _ _ _).mpr ⟨zd_ty hD (by decide) p0, 0, by simp, fun j hj => by omega⟩
theorem rU42_ok (hD : zk_d2 D ua) : zr_okU D rU42 := by
  intro ty H Ls hT hp hc
  obtain ⟨l0, Ls', rfl, p0, hp⟩ := zr_cons hp
  obtain ⟨l1, Ls', rfl, p1, hp⟩ := zr_cons hp
  obtain ⟨l2, Ls', rfl, p2, hp⟩ := zr_cons hp
  obtain ⟨l3, Ls', rfl, p3, hp⟩ := zr_cons hp
  cases zr_nil hp
  obtain ⟨k, rfl, h0_1⟩ := zd_op hD (by decide) p0
  obtain ⟨q, rfl, h1_1⟩ := zd_op hD (by decide) p1
  obtain ⟨x, j1, m, rfl, hj1, hm⟩ := zd_em hD hT (by decide) p2
  obtain ⟨x2, j2, m2, rfl, hj2, hm2⟩ := zd_em hD hT (by decide) p3
  obtain ⟨qc0, hc⟩ := zc1 hc
  have qc0 : j1 ≤ (0 : Int) + 0 := qc0
  obtain ⟨qc1, hc⟩ := zc1 hc
  have qc1 : (0 : Int) ≤ j1 + 0 := qc1
  obtain ⟨qc2, hc⟩ := zc1 hc
  have qc2 : j2 ≤ (0 : Int) + 0 := qc2
  obtain ⟨qc3, hc⟩ := zc1 hc
  have qc3 : (0 : Int) ≤ j2 + 0 := qc3
  obtain ⟨qc4, hc⟩ := zc1 hc
  have qc4 : m ≤ k + 0 := qc4
  obtain ⟨qc5, hc⟩ := zc1 hc
  have qc5 : q ≤ (0 : Int) + 30 := qc5
  obtain ⟨qc6, hc⟩ := zc1 hc
  have qc6 : m2 ≤ m + 0 := qc6
  obtain ⟨qc7, hc⟩ := zc1 hc
  have qc7 : m ≤ m2 + 0 := qc7
  refine ⟨_, List.mem_singleton.mpr rfl, fun c hc => (by cases hc), fun f hf => ?_⟩
  rw [List.mem_singleton.mp hf]
  rw [show j1.toNat = 0 by omega] at hm
  rw [show j2.toNat = 0 by omega] at hm2
  obtain ⟨g1, g2⟩ := h1_1 0 (by decide)
  have g0 := g1.1
  have e : zi H (ua 112) 0 = zi H (ua 106) 0 := by omega
  refine (hD.1 132 (by decide) _ _ _).mpr ⟨zd_ty hD (by decide) p0, by simp, by rw [e]; exact g0, by omega, ?_⟩
  rw [e]
  refine zb_k_keep g1.2 (fun j h1 h2 => ?_)
  have := h0_1 (j - 0) (by omega)
  exact this
theorem rU44_ok (hD : zk_d2 D ua) : zr_okU D rU44 := by
  intro ty H Ls hT hp hc
  obtain ⟨l0, Ls', rfl, p0, hp⟩ := zr_cons hp
  cases zr_nil hp
  obtain ⟨rfl, d0, d1, d2⟩ := zd_op hD (by decide) p0
  refine ⟨_, List.mem_singleton.mpr rfl, fun c hc => (by cases hc), fun f hf => ?_⟩
  rw [List.mem_singleton.mp hf]
  exact (hD.1 136 (by decide) _ _ _).mpr ⟨zd_ty hD (by decide) p0, 0, by simp, by omega, d0, d1, zb_w_start d2⟩
theorem rU46_ok (hD : zk_d2 D ua) : zr_okU D rU46 := by
  intro ty H Ls hT hp hc
  obtain ⟨l0, Ls', rfl, p0, hp⟩ := zr_cons hp
  obtain ⟨l1, Ls', rfl, p1, hp⟩ := zr_cons hp
  obtain ⟨l2, Ls', rfl, p2, hp⟩ := zr_cons hp
  cases zr_nil hp
  obtain ⟨k, rfl, q0, q1, q2, q3⟩ := zd_op hD (by decide) p0
  obtain ⟨x, j1, m, rfl, hj1, hm⟩ := zd_em hD hT (by decide) p1
  obtain ⟨x2, j2, n, rfl, hj2, hn⟩ := zd_em hD hT (by decide) p2
  obtain ⟨qc0, hc⟩ := zc1 hc
  have qc0 : j1 ≤ (0 : Int) + 0 := qc0
  obtain ⟨qc1, hc⟩ := zc1 hc
  have qc1 : (0 : Int) ≤ j1 + 0 := qc1
  obtain ⟨qc2, hc⟩ := zc1 hc
  have qc2 : j2 ≤ k + 0 := qc2
  obtain ⟨qc3, hc⟩ := zc1 hc
  have qc3 : k ≤ j2 + 0 := qc3
  obtain ⟨qc4, hc⟩ := zc1 hc
  have qc4 : k ≤ m + -1 := qc4
  rw [show j1.toNat = 0 by omega] at hm
  rw [show j2.toNat = k.toNat by omega] at hn
  obtain ⟨s1, s2, s3⟩ := zb_w_step q3 (by omega)
  have le := zb_w_le q3
  rw [hn] at s1 s2 s3
  by_cases e : n = -1
  · refine ⟨_, List.mem_cons_self, fun c hc => ?_, fun f hf => ?_⟩
    · simp only [List.mem_cons, List.not_mem_nil, or_false] at hc
      rcases hc with rfl | rfl | rfl | rfl | rfl
      · show n ≤ 0 + -1
        omega
      · show 0 ≤ n + 1
        omega
      · show m ≤ 0 + 1830
        omega
      · show k ≤ m + -1
        omega
      · show 0 ≤ k + 0
        omega
    · rw [List.mem_singleton.mp hf]
      refine (hD.1 136 (by decide) _ _ _).mpr ⟨zd_ty hD (by decide) p0, k + 2, by simp, by omega, q1, q2, ?_⟩
      rw [show (k + 2).toNat = k.toNat + zb_l n by unfold zb_l; rw [if_pos e]; omega]
      exact s3
  · refine ⟨_, List.mem_cons_of_mem _ List.mem_cons_self, fun c hc => ?_, fun f hf => ?_⟩
    · simp only [List.mem_cons, List.not_mem_nil, or_false] at hc
      rcases hc with rfl | rfl | rfl | rfl | rfl
      · show 0 ≤ n + 0
        omega
      · show n ≤ 0 + 60
        omega
      · show m ≤ 0 + 1830
        omega
      · show k ≤ m + -1
        omega
      · show 0 ≤ k + 0
        omega
    · rw [List.mem_singleton.mp hf]
      refine (hD.1 138 (by decide) _ _ _).mpr ⟨zd_ty hD (by decide) p0, k, n, by simp, by omega, by omega, by omega, q1, q2, ?_⟩
      rw [show (k + 1 + n).toNat = k.toNat + zb_l n by unfold zb_l; rw [if_neg e]; omega]
      exact s3
theorem rU41_ok (hD : zk_d2 D ua) : zr_okU D rU41 := by
  intro ty H Ls hT hp hc
  obtain ⟨l0, Ls', rfl, p0, hp⟩ := zr_cons hp
  cases zr_nil hp
  obtain ⟨rfl, h0_1, h0_2⟩ := zd_op hD (by decide) p0
  refine ⟨_, List.mem_singleton.mpr rfl, fun c hc => (by cases hc), fun f hf => ?_⟩
  rw [List.mem_singleton.mp hf]
  exact (hD.1 135 (by decide) _ _ _).mpr ⟨zd_ty hD (by decide) p0, 0, by simp, fun j hj => by omega⟩
theorem rU43_ok (hD : zk_d2 D ua) : zr_okU D rU43 := by
  intro ty H Ls hT hp hc
  obtain ⟨l0, Ls', rfl, p0, hp⟩ := zr_cons hp
  obtain ⟨l1, Ls', rfl, p1, hp⟩ := zr_cons hp
  obtain ⟨l2, Ls', rfl, p2, hp⟩ := zr_cons hp
  obtain ⟨l3, Ls', rfl, p3, hp⟩ := zr_cons hp
  cases zr_nil hp
  obtain ⟨k, rfl, h0_1⟩ := zd_op hD (by decide) p0
  obtain ⟨q, rfl, h1_1⟩ := zd_op hD (by decide) p1
  obtain ⟨x, j1, m, rfl, hj1, hm⟩ := zd_em hD hT (by decide) p2
  obtain ⟨x2, j2, m2, rfl, hj2, hm2⟩ := zd_em hD hT (by decide) p3
  obtain ⟨qc0, hc⟩ := zc1 hc
  have qc0 : j1 ≤ (0 : Int) + 1 := qc0
  obtain ⟨qc1, hc⟩ := zc1 hc
  have qc1 : (0 : Int) ≤ j1 + -1 := qc1
  obtain ⟨qc2, hc⟩ := zc1 hc
  have qc2 : j2 ≤ (0 : Int) + 1 := qc2
  obtain ⟨qc3, hc⟩ := zc1 hc
  have qc3 : (0 : Int) ≤ j2 + -1 := qc3
  obtain ⟨qc4, hc⟩ := zc1 hc
  have qc4 : m ≤ k + 0 := qc4
  obtain ⟨qc5, hc⟩ := zc1 hc
  have qc5 : q ≤ (0 : Int) + 30 := qc5
  obtain ⟨qc6, hc⟩ := zc1 hc
  have qc6 : m2 ≤ m + 0 := qc6
  obtain ⟨qc7, hc⟩ := zc1 hc
  have qc7 : m ≤ m2 + 0 := qc7
  refine ⟨_, List.mem_singleton.mpr rfl, fun c hc => (by cases hc), fun f hf => ?_⟩
  rw [List.mem_singleton.mp hf]
  rw [show j1.toNat = 1 by omega] at hm
  rw [show j2.toNat = 1 by omega] at hm2
  obtain ⟨g1, g2⟩ := h1_1 1 (by decide)
  have g0 := g1.1
  have e : zi H (ua 112) 1 = zi H (ua 106) 1 := by omega
  refine (hD.1 133 (by decide) _ _ _).mpr ⟨zd_ty hD (by decide) p0, by simp, by rw [e]; exact g0, by omega, ?_⟩
  rw [e]
  refine zb_k_keep g1.2 (fun j h1 h2 => ?_)
  have := h0_1 (j - 2000) (by omega)
  rw [show 2000 + (j - 2000) = j by omega] at this
  exact this
theorem rU45_ok (hD : zk_d2 D ua) : zr_okU D rU45 := by
  intro ty H Ls hT hp hc
  obtain ⟨l0, Ls', rfl, p0, hp⟩ := zr_cons hp
  cases zr_nil hp
  obtain ⟨rfl, d0, d1, d2⟩ := zd_op hD (by decide) p0
  refine ⟨_, List.mem_singleton.mpr rfl, fun c hc => (by cases hc), fun f hf => ?_⟩
  rw [List.mem_singleton.mp hf]
  exact (hD.1 137 (by decide) _ _ _).mpr ⟨zd_ty hD (by decide) p0, 2000, by simp, by omega, d0, d1, zb_w_start d2⟩
theorem rU47_ok (hD : zk_d2 D ua) : zr_okU D rU47 := by
  intro ty H Ls hT hp hc
  obtain ⟨l0, Ls', rfl, p0, hp⟩ := zr_cons hp
  obtain ⟨l1, Ls', rfl, p1, hp⟩ := zr_cons hp
  obtain ⟨l2, Ls', rfl, p2, hp⟩ := zr_cons hp
  cases zr_nil hp
  obtain ⟨k, rfl, q0, q1, q2, q3⟩ := zd_op hD (by decide) p0
  obtain ⟨x, j1, m, rfl, hj1, hm⟩ := zd_em hD hT (by decide) p1
  obtain ⟨x2, j2, n, rfl, hj2, hn⟩ := zd_em hD hT (by decide) p2
  obtain ⟨qc0, hc⟩ := zc1 hc
  have qc0 : j1 ≤ (0 : Int) + 1 := qc0
  obtain ⟨qc1, hc⟩ := zc1 hc
  have qc1 : (0 : Int) ≤ j1 + -1 := qc1
  obtain ⟨qc2, hc⟩ := zc1 hc
  have qc2 : j2 ≤ k + 0 := qc2
  obtain ⟨qc3, hc⟩ := zc1 hc
  have qc3 : k ≤ j2 + 0 := qc3
  obtain ⟨qc4, hc⟩ := zc1 hc
  have qc4 : k ≤ m + 1999 := qc4
  rw [show j1.toNat = 1 by omega] at hm
  rw [show j2.toNat = k.toNat by omega] at hn
  obtain ⟨s1, s2, s3⟩ := zb_w_step q3 (by omega)
  have le := zb_w_le q3
  rw [hn] at s1 s2 s3
  by_cases e : n = -1
  · refine ⟨_, List.mem_cons_self, fun c hc => ?_, fun f hf => ?_⟩
    · simp only [List.mem_cons, List.not_mem_nil, or_false] at hc
      rcases hc with rfl | rfl | rfl | rfl | rfl
      · show n ≤ 0 + -1
        omega
      · show 0 ≤ n + 1
        omega
      · show m ≤ 0 + 1830
        omega
      · show k ≤ m + 1999
        omega
      · show 0 ≤ k + -2000
        omega
    · rw [List.mem_singleton.mp hf]
      refine (hD.1 137 (by decide) _ _ _).mpr ⟨zd_ty hD (by decide) p0, k + 2, by simp, by omega, q1, q2, ?_⟩
      rw [show (k + 2).toNat = k.toNat + zb_l n by unfold zb_l; rw [if_pos e]; omega]
      exact s3
  · refine ⟨_, List.mem_cons_of_mem _ List.mem_cons_self, fun c hc => ?_, fun f hf => ?_⟩
    · simp only [List.mem_cons, List.not_mem_nil, or_false] at hc
      rcases hc with rfl | rfl | rfl | rfl | rfl
      · show 0 ≤ n + 0
        omega
      · show n ≤ 0 + 60
        omega
      · show m ≤ 0 + 1830
        omega
      · show k ≤ m + 1999
        omega
      · show 0 ≤ k + -2000
        omega
    · rw [List.mem_singleton.mp hf]
      refine (hD.1 139 (by decide) _ _ _).mpr ⟨zd_ty hD (by decide) p0, k, n, by simp, by omega, by omega, by omega, q1, q2, ?_⟩
      rw [show (k + 1 + n).toNat = k.toNat + zb_l n by unfold zb_l; rw [if_neg e]; omega]
      exact s3
theorem rU48_ok (hD : zk_d2 D ua) : zr_okU D rU48 := by
  intro ty H Ls hT hp hc
  obtain ⟨l0, Ls', rfl, p0, hp⟩ := zr_cons hp
  obtain ⟨l1, Ls', rfl, p1, hp⟩ := zr_cons hp
  cases zr_nil hp
  obtain ⟨k, n, rfl, n0, n1, q0, q1, q2, q3⟩ := zd_op hD (by decide) p0
  obtain ⟨p, q, z, rfl, h26⟩ := zd_26 hD p1
  obtain ⟨qc0, hc⟩ := zc1 hc
  have qc0 : p ≤ k + 0 := qc0
  obtain ⟨qc1, hc⟩ := zc1 hc
  have qc1 : k ≤ p + 0 := qc1
  obtain ⟨qc2, hc⟩ := zc1 hc
  have qc2 : q ≤ n + 1 := qc2
  obtain ⟨qc3, hc⟩ := zc1 hc
  have qc3 : n ≤ q + -1 := qc3
  obtain ⟨qc4, hc⟩ := zc1 hc
  have qc4 : p ≤ (0 : Int) + 100000 := qc4
  obtain ⟨qc5, hc⟩ := zc1 hc
  have qc5 : z ≤ (0 : Int) + 2147483647 := qc5
  obtain ⟨qc6, hc⟩ := zc1 hc
  have qc6 : (0 : Int) ≤ z + 2147483648 := qc6
  refine ⟨_, List.mem_singleton.mpr rfl, fun c hc => (by cases hc), fun f hf => ?_⟩
  rw [List.mem_singleton.mp hf]
  have e := zd_sum h26 (by omega) (by omega) (by omega) (by omega)
  have e : z = k + 1 + n := by omega
  subst e
  exact (hD.1 136 (by decide) _ _ _).mpr ⟨zd_ty hD (by decide) p0, _, by simp, q0, q1, q2, q3⟩
theorem rU49_ok (hD : zk_d2 D ua) : zr_okU D rU49 := by
  intro ty H Ls hT hp hc
  obtain ⟨l0, Ls', rfl, p0, hp⟩ := zr_cons hp
  obtain ⟨l1, Ls', rfl, p1, hp⟩ := zr_cons hp
  cases zr_nil hp
  obtain ⟨k, n, rfl, n0, n1, q0, q1, q2, q3⟩ := zd_op hD (by decide) p0
  obtain ⟨p, q, z, rfl, h26⟩ := zd_26 hD p1
  obtain ⟨qc0, hc⟩ := zc1 hc
  have qc0 : p ≤ k + 0 := qc0
  obtain ⟨qc1, hc⟩ := zc1 hc
  have qc1 : k ≤ p + 0 := qc1
  obtain ⟨qc2, hc⟩ := zc1 hc
  have qc2 : q ≤ n + 1 := qc2
  obtain ⟨qc3, hc⟩ := zc1 hc
  have qc3 : n ≤ q + -1 := qc3
  obtain ⟨qc4, hc⟩ := zc1 hc
  have qc4 : p ≤ (0 : Int) + 100000 := qc4
  obtain ⟨qc5, hc⟩ := zc1 hc
  have qc5 : z ≤ (0 : Int) + 2147483647 := qc5
  obtain ⟨qc6, hc⟩ := zc1 hc
  have qc6 : (0 : Int) ≤ z + 2147483648 := qc6
  refine ⟨_, List.mem_singleton.mpr rfl, fun c hc => (by cases hc), fun f hf => ?_⟩
  rw [List.mem_singleton.mp hf]
  have e := zd_sum h26 (by omega) (by omega) (by omega) (by omega)
  have e : z = k + 1 + n := by omega
  subst e
  exact (hD.1 137 (by decide) _ _ _).mpr ⟨zd_ty hD (by decide) p0, _, by simp, q0, q1, q2, q3⟩
theorem rU50_ok (hD : zk_d2 D ua) : zr_okU D rU50 := by
  intro ty H Ls hT hp hc
  obtain ⟨l0, Ls', rfl, p0, hp⟩ := zr_cons hp
  obtain ⟨l1, Ls', rfl, p1, hp⟩ := zr_cons hp
  cases zr_nil hp
  obtain ⟨rfl, h0⟩ := zd_op hD (by decide) p0
  obtain ⟨x, rfl⟩ := zd_loc p1
  refine ⟨_, List.mem_singleton.mpr rfl, fun c hc => (by cases hc), fun f hf => ?_⟩
  rw [List.mem_singleton.mp hf]
  refine (hD.1 151 (by decide) _ _ _).mpr ⟨zd_ty hD (by decide) p0, x, 0, 0, by simp, fun p hp => ⟨(h0 p hp).1, ?_⟩⟩
  have h := (h0 p hp).2
  by_cases e : ua (1030 + p) = x.toNat
  · obtain ⟨k, g1, g2⟩ := h
    exact (zp_bi_eq e).mpr ⟨by omega, k, g1, by omega, fun _ h => by omega⟩
  · exact (zp_bi_ne e).mpr h
theorem rU51_ok (hD : zk_d2 D ua) : zr_okU D rU51 := by
  intro ty H Ls hT hp hc
  obtain ⟨l0, Ls', rfl, p0, hp⟩ := zr_cons hp
  obtain ⟨l1, Ls', rfl, p1, hp⟩ := zr_cons hp
  cases zr_nil hp
  obtain ⟨x, c, v, rfl, h0⟩ := zd_op hD (by decide) p0
  obtain ⟨x2, n, rfl, h0x2, ⟨q2, hq2, ex2⟩, hn⟩ := zd_hd hD hT p1
  obtain ⟨qc0, hc⟩ := zc1 hc
  have qc0 : x2 ≤ x + 0 := qc0
  obtain ⟨qc1, hc⟩ := zc1 hc
  have qc1 : x ≤ x2 + 0 := qc1
  obtain ⟨qc2, hc⟩ := zc1 hc
  have qc2 : (0 : Int) ≤ n + -1830 := qc2
  obtain ⟨qc3, hc⟩ := zc1 hc
  have qc3 : (0 : Int) ≤ c + -1 := qc3
  refine ⟨_, List.mem_singleton.mpr rfl, fun c hc => (by cases hc), fun f hf => ?_⟩
  rw [List.mem_singleton.mp hf]
  refine (hD.1 151 (by decide) _ _ _).mpr ⟨zd_ty hD (by decide) p0, x, c + 1, v, by simp, fun p hp => ⟨(h0 p hp).1, ?_⟩⟩
  have h := (h0 p hp).2
  by_cases e : ua (1030 + p) = x.toNat
  · refine (zp_bi_eq e).mpr ?_
    obtain ⟨g0, s, g1, g2, g3⟩ := (zp_bi_eq e).mp h
    have e2 : zi H (ua (1030 + p)) (D.dI 3 10) = n := by rw [← hn, show x2.toNat = ua (1030 + p) by rw [e]; congr 1; omega]
    exact ⟨by omega, s, g1, by omega, fun h1 h2 => g3 h1 (by omega)⟩
  · exact (zp_bi_ne e).mpr ((zp_bi_ne e).mp h)
theorem rU52_ok (hD : zk_d2 D ua) : zr_okU D rU52 := by
  intro ty H Ls hT hp hc
  obtain ⟨l0, Ls', rfl, p0, hp⟩ := zr_cons hp
  obtain ⟨l1, Ls', rfl, p1, hp⟩ := zr_cons hp
  obtain ⟨l2, Ls', rfl, p2, hp⟩ := zr_cons hp
  cases zr_nil hp
  obtain ⟨x, c, v, rfl, h0⟩ := zd_op hD (by decide) p0
  obtain ⟨x2, n, rfl, h0x2, ⟨q2, hq2, ex2⟩, hn⟩ := zd_hd hD hT p1
  obtain ⟨z, rfl⟩ := zd_loc p2
  obtain ⟨qc0, hc⟩ := zc1 hc
  have qc0 : x2 ≤ x + 0 := qc0
  obtain ⟨qc1, hc⟩ := zc1 hc
  have qc1 : x ≤ x2 + 0 := qc1
  obtain ⟨qc2, hc⟩ := zc1 hc
  have qc2 : (0 : Int) ≤ n + -1830 := qc2
  obtain ⟨qc3, hc⟩ := zc1 hc
  have qc3 : c ≤ (0 : Int) + 0 := qc3
  obtain ⟨qc4, hc⟩ := zc1 hc
  have qc4 : (0 : Int) ≤ c + 0 := qc4
  refine ⟨_, List.mem_singleton.mpr rfl, fun c hc => (by cases hc), fun f hf => ?_⟩
  rw [List.mem_singleton.mp hf]
  refine (hD.1 151 (by decide) _ _ _).mpr ⟨zd_ty hD (by decide) p0, x, 1, z, by simp, fun p hp => ⟨(h0 p hp).1, ?_⟩⟩
  have h := (h0 p hp).2
  by_cases e : ua (1030 + p) = x.toNat
  · refine (zp_bi_eq e).mpr ?_
    obtain ⟨g0, s, g1, g2, g3⟩ := (zp_bi_eq e).mp h
    have e2 : zi H (ua (1030 + p)) (D.dI 3 10) = n := by rw [← hn, show x2.toNat = ua (1030 + p) by rw [e]; congr 1; omega]
    exact ⟨by omega, s, g1, by omega, fun h1 h2 => by omega⟩
  · exact (zp_bi_ne e).mpr ((zp_bi_ne e).mp h)
theorem rU53_ok (hD : zk_d2 D ua) : zr_okU D rU53 := by
  intro ty H Ls hT hp hc
  obtain ⟨l0, Ls', rfl, p0, hp⟩ := zr_cons hp
  cases zr_nil hp
  obtain ⟨x, c, v, rfl, h0⟩ := zd_op hD (by decide) p0
  obtain ⟨qc0, hc⟩ := zc1 hc
  have qc0 : v ≤ (0 : Int) + -1 := qc0
  obtain ⟨qc1, hc⟩ := zc1 hc
  have qc1 : (0 : Int) ≤ v + 1 := qc1
  obtain ⟨qc2, hc⟩ := zc1 hc
  have qc2 : c ≤ (0 : Int) + 2 := qc2
  obtain ⟨qc3, hc⟩ := zc1 hc
  have qc3 : (0 : Int) ≤ c + -2 := qc3
  refine ⟨_, List.mem_singleton.mpr rfl, fun c hc => (by cases hc), fun f hf => ?_⟩
  rw [List.mem_singleton.mp hf]
  refine (hD.1 150 (by decide) _ _ _).mpr ⟨zd_ty hD (by decide) p0, by simp, fun p hp => ⟨(h0 p hp).1, ?_⟩⟩
  have h := (h0 p hp).2
  by_cases e : ua (1030 + p) = x.toNat
  · obtain ⟨g0, s, g1, g2, g3⟩ := (zp_bi_eq e).mp h
    by_cases h1 : s < 1830
    · have g4 := g3 h1 (by omega)
      have g5 := zb_k_snoc g1 (by rw [g4]; omega) (by rw [g4]; omega)
      rw [g4] at g5
      refine ⟨_, g5, ?_⟩
      unfold zb_l
      rw [if_pos (by omega)]
      omega
    · exact ⟨s, g1, by omega⟩
  · exact (zp_bi_ne e).mp h
theorem rU54_ok (hD : zk_d2 D ua) : zr_okU D rU54 := by
  intro ty H Ls hT hp hc
  obtain ⟨l0, Ls', rfl, p0, hp⟩ := zr_cons hp
  cases zr_nil hp
  obtain ⟨x, c, v, rfl, h0⟩ := zd_op hD (by decide) p0
  obtain ⟨qc0, hc⟩ := zc1 hc
  have qc0 : (0 : Int) ≤ v + 0 := qc0
  obtain ⟨qc1, hc⟩ := zc1 hc
  have qc1 : v ≤ (0 : Int) + 60 := qc1
  obtain ⟨qc2, hc⟩ := zc1 hc
  have qc2 : c ≤ v + 1 := qc2
  obtain ⟨qc3, hc⟩ := zc1 hc
  have qc3 : v ≤ c + -1 := qc3
  refine ⟨_, List.mem_singleton.mpr rfl, fun c hc => (by cases hc), fun f hf => ?_⟩
  rw [List.mem_singleton.mp hf]
  refine (hD.1 150 (by decide) _ _ _).mpr ⟨zd_ty hD (by decide) p0, by simp, fun p hp => ⟨(h0 p hp).1, ?_⟩⟩
  have h := (h0 p hp).2
  by_cases e : ua (1030 + p) = x.toNat
  · obtain ⟨g0, s, g1, g2, g3⟩ := (zp_bi_eq e).mp h
    by_cases h1 : s < 1830
    · have g4 := g3 h1 (by omega)
      have g5 := zb_k_snoc g1 (by rw [g4]; omega) (by rw [g4]; omega)
      rw [g4] at g5
      refine ⟨_, g5, ?_⟩
      unfold zb_l
      rw [if_neg (by omega)]
      omega
    · exact ⟨s, g1, by omega⟩
  · exact (zp_bi_ne e).mp h
theorem rU55_ok (hD : zk_d2 D ua) : zr_okU D rU55 := by
  intro ty H Ls hT hp hc
  obtain ⟨l0, Ls', rfl, p0, hp⟩ := zr_cons hp
  obtain ⟨l1, Ls', rfl, p1, hp⟩ := zr_cons hp
  cases zr_nil hp
  obtain ⟨rfl, h0⟩ := zd_op hD (by decide) p0
  obtain ⟨x, rfl⟩ := zd_loc p1
  refine ⟨_, List.mem_singleton.mpr rfl, fun c hc => (by cases hc), fun f hf => ?_⟩
  rw [List.mem_singleton.mp hf]
  refine (hD.1 153 (by decide) _ _ _).mpr ⟨zd_ty hD (by decide) p0, x, 0, by simp, by omega, fun p hp => ⟨(h0 p hp).1, fun _ => ?_⟩⟩
  obtain ⟨e, g1, g2⟩ := (h0 p hp).2
  exact ⟨e, zb_w_start g1, by omega⟩
theorem rU56_ok (hD : zk_d2 D ua) : zr_okU D rU56 := by
  intro ty H Ls hT hp hc
  obtain ⟨l0, Ls', rfl, p0, hp⟩ := zr_cons hp
  obtain ⟨l1, Ls', rfl, p1, hp⟩ := zr_cons hp
  obtain ⟨l2, Ls', rfl, p2, hp⟩ := zr_cons hp
  obtain ⟨l3, Ls', rfl, p3, hp⟩ := zr_cons hp
  cases zr_nil hp
  obtain ⟨x, i, rfl, i0, h0⟩ := zd_op hD (by decide) p0
  obtain ⟨x1, y, rfl, h0x1, ⟨q1, hq1, ex1⟩, hy⟩ := zd_hd hD hT p1
  obtain ⟨x2, n, rfl, h0x2, ⟨q2, hq2, ex2⟩, hn⟩ := zd_hd hD hT p2
  obtain ⟨y2, j, v, rfl, h0y2, hj, hv⟩ := zd_pl p3
  obtain ⟨qc0, hc⟩ := zc1 hc
  have qc0 : x1 ≤ x + 0 := qc0
  obtain ⟨qc1, hc⟩ := zc1 hc
  have qc1 : x ≤ x1 + 0 := qc1
  obtain ⟨qc2, hc⟩ := zc1 hc
  have qc2 : x2 ≤ x + 0 := qc2
  obtain ⟨qc3, hc⟩ := zc1 hc
  have qc3 : x ≤ x2 + 0 := qc3
  obtain ⟨qc4, hc⟩ := zc1 hc
  have qc4 : y2 ≤ y + 0 := qc4
  obtain ⟨qc5, hc⟩ := zc1 hc
  have qc5 : y ≤ y2 + 0 := qc5
  obtain ⟨qc6, hc⟩ := zc1 hc
  have qc6 : j ≤ (i : Int) + 0 := qc6
  obtain ⟨qc7, hc⟩ := zc1 hc
  have qc7 : (i : Int) ≤ j + 0 := qc7
  obtain ⟨qc8, hc⟩ := zc1 hc
  have qc8 : (i : Int) ≤ n + -1 := qc8
  have ex : ua (1030 + q1) = x.toNat := by rw [← ex1]; congr 1; omega
  have e1 : y2.toNat = ua (1040 + q1) := by
    have := (h0 q1 hq1).1
    rw [ex1] at hy
    omega
  have e2 : zi H (ua (1030 + q1)) (D.dI 3 10) = n := by rw [← hn, show x2.toNat = ua (1030 + q1) by rw [ex]; congr 1; omega]
  obtain ⟨e, g1, g2⟩ := (h0 q1 hq1).2 ex
  rw [e1, show j.toNat = i.toNat by omega] at hv
  obtain ⟨k1, k2, k3⟩ := zb_w_step g1 (by omega)
  rw [hv] at k1 k2 k3
  have hother : ∀ (m : Nat) (P : Prop), (zb_w (zi H (ua (1040 + q1))) 0 m e) → zf_hd ua D.dI (zi H) (zp_wk x m) := by
    intro m _ hm p hp
    refine ⟨(h0 p hp).1, fun z => ?_⟩
    have : p = q1 := by
      rcases hp with rfl | rfl <;> rcases hq1 with rfl | rfl
      · rfl
      · exact absurd (z.trans ex.symm) (zd_ww hD (by decide) (by decide) (by decide))
      · exact absurd (z.trans ex.symm) (zd_ww hD (by decide) (by decide) (by decide))
      · rfl
    subst this
    exact ⟨e, hm, g2⟩
  by_cases hv1 : v = -1
  · refine ⟨_, List.mem_cons_self, fun c hc => ?_, fun f hf => ?_⟩
    · simp only [List.mem_cons, List.not_mem_nil, or_false] at hc
      rcases hc with rfl | rfl
      · show v ≤ 0 + -1
        omega
      · show 0 ≤ v + 1
        omega
    · rw [List.mem_singleton.mp hf]
      refine (hD.1 153 (by decide) _ _ _).mpr ⟨zd_ty hD (by decide) p0, x, i + 2, by simp, by omega, hother _ True ?_⟩
      rw [show (i + 2).toNat = i.toNat + zb_l v by unfold zb_l; rw [if_pos hv1]; omega]
      exact k3
  · refine ⟨_, List.mem_cons_of_mem _ List.mem_cons_self, fun c hc => ?_, fun f hf => ?_⟩
    · simp only [List.mem_cons, List.not_mem_nil, or_false] at hc
      rcases hc with rfl | rfl
      · show 0 ≤ v + 0
        omega
      · show v ≤ 0 + 60
        omega
    · rw [List.mem_singleton.mp hf]
      refine (hD.1 154 (by decide) _ _ _).mpr ⟨zd_ty hD (by decide) p0, x, i, v, by simp, by omega, by omega, by omega, hother _ True ?_⟩
      rw [show (i + 1 + v).toNat = i.toNat + zb_l v by unfold zb_l; rw [if_neg hv1]; omega]
      exact k3
theorem rU57_ok (hD : zk_d2 D ua) : zr_okU D rU57 := by
  intro ty H Ls hT hp hc
  obtain ⟨l0, Ls', rfl, p0, hp⟩ := zr_cons hp
  obtain ⟨l1, Ls', rfl, p1, hp⟩ := zr_cons hp
  cases zr_nil hp
  obtain ⟨x, k, n, rfl, k0, n0, n1, h0⟩ := zd_op hD (by decide) p0
  obtain ⟨p, q, z, rfl, h26⟩ := zd_26 hD p1
  obtain ⟨qc0, hc⟩ := zc1 hc
  have qc0 : p ≤ k + 0 := qc0
  obtain ⟨qc1, hc⟩ := zc1 hc
  have qc1 : k ≤ p + 0 := qc1
  obtain ⟨qc2, hc⟩ := zc1 hc
  have qc2 : q ≤ n + 1 := qc2
  obtain ⟨qc3, hc⟩ := zc1 hc
  have qc3 : n ≤ q + -1 := qc3
  obtain ⟨qc4, hc⟩ := zc1 hc
  have qc4 : p ≤ (0 : Int) + 100000 := qc4
  obtain ⟨qc5, hc⟩ := zc1 hc
  have qc5 : (0 : Int) ≤ p + 0 := qc5
  obtain ⟨qc6, hc⟩ := zc1 hc
  have qc6 : z ≤ (0 : Int) + 2147483647 := qc6
  obtain ⟨qc7, hc⟩ := zc1 hc
  have qc7 : (0 : Int) ≤ z + 2147483648 := qc7
  refine ⟨_, List.mem_singleton.mpr rfl, fun c hc => (by cases hc), fun f hf => ?_⟩
  rw [List.mem_singleton.mp hf]
  have e := zd_sum h26 (by omega) (by omega) (by omega) (by omega)
  have e : z = k + 1 + n := by omega
  subst e
  exact (hD.1 153 (by decide) _ _ _).mpr ⟨zd_ty hD (by decide) p0, x, _, by simp, by omega, h0⟩
theorem rU60_ok (hD : zk_d2 D ua) : zr_okU D rU60 := by
  intro ty H Ls hT hp hc
  obtain ⟨l0, Ls', rfl, p0, hp⟩ := zr_cons hp
  cases zr_nil hp
  obtain ⟨rfl, h0⟩ := zd_op hD (by decide) p0
  refine ⟨_, List.mem_singleton.mpr rfl, fun c hc => (by cases hc), fun f hf => ?_⟩
  rw [List.mem_singleton.mp hf]
  exact (hD.1 110 (by decide) _ _ _).mpr ⟨zd_ty hD (by decide) p0, by simp, by omega, fun c hc => by omega⟩
theorem rU61_ok (hD : zk_d2 D ua) : zr_okU D rU61 := by
  intro ty H Ls hT hp hc
  obtain ⟨l0, Ls', rfl, p0, hp⟩ := zr_cons hp
  obtain ⟨l1, Ls', rfl, p1, hp⟩ := zr_cons hp
  cases zr_nil hp
  obtain ⟨rfl, a0⟩ := zd_op hD (by decide) p0
  obtain ⟨s, rfl⟩ := zd_loc p1
  refine ⟨_, List.mem_singleton.mpr rfl, fun c hc => (by cases hc), fun f hf => ?_⟩
  rw [List.mem_singleton.mp hf]
  exact (hD.1 112 (by decide) _ _ _).mpr ⟨zd_ty hD (by decide) p0, s, 0, by simp, fun i hi => by omega⟩
theorem rU62_ok (hD : zk_d2 D ua) : zr_okU D rU62 := by
  intro ty H Ls hT hp hc
  obtain ⟨l0, Ls', rfl, p0, hp⟩ := zr_cons hp
  obtain ⟨l1, Ls', rfl, p1, hp⟩ := zr_cons hp
  obtain ⟨l2, Ls', rfl, p2, hp⟩ := zr_cons hp
  obtain ⟨l3, Ls', rfl, p3, hp⟩ := zr_cons hp
  obtain ⟨l4, Ls', rfl, p4, hp⟩ := zr_cons hp
  cases zr_nil hp
  obtain ⟨s, k, rfl, h0⟩ := zd_op hD (by decide) p0
  obtain ⟨s1, rfl⟩ := zd_loc p1
  obtain ⟨d, rfl⟩ := zd_loc p2
  obtain ⟨m_o, m, rfl, hm⟩ := zd_fm hD hT p3
  obtain ⟨v_o, j, v, rfl, hj, hv⟩ := zd_em hD hT (by decide) p4
  obtain ⟨qc0, hc⟩ := zc1 hc
  have qc0 : s ≤ s1 + 0 := qc0
  obtain ⟨qc1, hc⟩ := zc1 hc
  have qc1 : s1 ≤ s + 0 := qc1
  obtain ⟨qc2, hc⟩ := zc1 hc
  have qc2 : j ≤ s + 0 := qc2
  obtain ⟨qc3, hc⟩ := zc1 hc
  have qc3 : s ≤ j + 0 := qc3
  obtain ⟨qc4, hc⟩ := zc1 hc
  have qc4 : m ≤ v + 0 := qc4
  obtain ⟨qc5, hc⟩ := zc1 hc
  have qc5 : v ≤ m + 0 := qc5
  obtain ⟨qc6, hc⟩ := zc1 hc
  have qc6 : m ≤ k + 0 := qc6
  obtain ⟨qc7, hc⟩ := zc1 hc
  have qc7 : (0 : Int) ≤ s + 0 := qc7
  obtain ⟨qc8, hc⟩ := zc1 hc
  have qc8 : s ≤ (0 : Int) + 1 := qc8
  obtain ⟨qc9, hc⟩ := zc1 hc
  have qc9 : (0 : Int) ≤ m + 0 := qc9
  refine ⟨_, List.mem_singleton.mpr rfl, fun c hc => (by cases hc), fun f hf => ?_⟩
  rw [List.mem_singleton.mp hf]
  refine (hD.1 111 (by decide) _ _ _).mpr ⟨zd_ty hD (by decide) p0, s, d, 0, by simp, by omega, by omega, by omega, fun x => ?_⟩
  rw [show j.toNat = s.toNat by omega] at hv
  show _ = zc_n _ x _ + 0
  rw [hm, hv, show m = v by omega, Int.add_zero]
  exact zc_n_eq (fun j' hj' => h0 j' (by omega))
theorem rU63_ok (hD : zk_d2 D ua) : zr_okU D rU63 := by
  intro ty H Ls hT hp hc
  obtain ⟨l0, Ls', rfl, p0, hp⟩ := zr_cons hp
  obtain ⟨l1, Ls', rfl, p1, hp⟩ := zr_cons hp
  cases zr_nil hp
  obtain ⟨s, d, c, rfl, g0, s0, m0, h0⟩ := zd_op hD (by decide) p0
  obtain ⟨v_o, j, v, rfl, hj, hv⟩ := zd_em hD hT (by decide) p1
  obtain ⟨qc0, hc⟩ := zc1 hc
  have qc0 : j ≤ c + 0 := qc0
  obtain ⟨qc1, hc⟩ := zc1 hc
  have qc1 : c ≤ j + 0 := qc1
  obtain ⟨qc2, hc⟩ := zc1 hc
  have qc2 : v ≤ s + -1 := qc2
  refine ⟨_, List.mem_singleton.mpr rfl, fun c hc => (by cases hc), fun f hf => ?_⟩
  rw [List.mem_singleton.mp hf]
  rw [show j.toNat = c.toNat by omega] at hv
  refine (hD.1 111 (by decide) _ _ _).mpr ⟨zd_ty hD (by decide) p0, s, d, c + 1, by simp, by omega, s0, m0, fun x => ?_⟩
  rw [show (c + 1).toNat = c.toNat + 1 by omega, zc_t_succ, if_neg (fun z => ?_), Int.add_zero]
  · exact h0 x
  · have := z.1
    omega
theorem rU64_ok (hD : zk_d2 D ua) : zr_okU D rU64 := by
  intro ty H Ls hT hp hc
  obtain ⟨l0, Ls', rfl, p0, hp⟩ := zr_cons hp
  obtain ⟨l1, Ls', rfl, p1, hp⟩ := zr_cons hp
  cases zr_nil hp
  obtain ⟨s, d, c, rfl, g0, s0, m0, h0⟩ := zd_op hD (by decide) p0
  obtain ⟨v_o, j, v, rfl, hj, hv⟩ := zd_em hD hT (by decide) p1
  obtain ⟨qc0, hc⟩ := zc1 hc
  have qc0 : j ≤ c + 0 := qc0
  obtain ⟨qc1, hc⟩ := zc1 hc
  have qc1 : c ≤ j + 0 := qc1
  obtain ⟨qc2, hc⟩ := zc1 hc
  have qc2 : s ≤ v + -1 := qc2
  refine ⟨_, List.mem_singleton.mpr rfl, fun c hc => (by cases hc), fun f hf => ?_⟩
  rw [List.mem_singleton.mp hf]
  rw [show j.toNat = c.toNat by omega] at hv
  refine (hD.1 111 (by decide) _ _ _).mpr ⟨zd_ty hD (by decide) p0, s, d, c + 1, by simp, by omega, s0, m0, fun x => ?_⟩
  rw [show (c + 1).toNat = c.toNat + 1 by omega, zc_t_succ, if_neg (fun z => ?_), Int.add_zero]
  · exact h0 x
  · have := z.1
    omega
theorem rU65_ok (hD : zk_d2 D ua) : zr_okU D rU65 := by
  intro ty H Ls hT hp hc
  obtain ⟨l0, Ls', rfl, p0, hp⟩ := zr_cons hp
  obtain ⟨l1, Ls', rfl, p1, hp⟩ := zr_cons hp
  cases zr_nil hp
  obtain ⟨s, d, c, rfl, g0, s0, m0, h0⟩ := zd_op hD (by decide) p0
  obtain ⟨v_o, j, v, rfl, hj, hv⟩ := zd_em hD hT (by decide) p1
  obtain ⟨qc0, hc⟩ := zc1 hc
  have qc0 : j ≤ c + 0 := qc0
  obtain ⟨qc1, hc⟩ := zc1 hc
  have qc1 : c ≤ j + 0 := qc1
  obtain ⟨qc2, hc⟩ := zc1 hc
  have qc2 : d ≤ v + -1 := qc2
  refine ⟨_, List.mem_singleton.mpr rfl, fun c hc => (by cases hc), fun f hf => ?_⟩
  rw [List.mem_singleton.mp hf]
  rw [show j.toNat = c.toNat by omega] at hv
  refine (hD.1 111 (by decide) _ _ _).mpr ⟨zd_ty hD (by decide) p0, s, d, c + 1, by simp, by omega, s0, m0, fun x => ?_⟩
  rw [show (c + 1).toNat = c.toNat + 1 by omega, zc_t_succ, if_neg (fun z => ?_), Int.add_zero]
  · exact h0 x
  · have := z.2.1
    omega
theorem rU66_ok (hD : zk_d2 D ua) : zr_okU D rU66 := by
  intro ty H Ls hT hp hc
  obtain ⟨l0, Ls', rfl, p0, hp⟩ := zr_cons hp
  obtain ⟨l1, Ls', rfl, p1, hp⟩ := zr_cons hp
  obtain ⟨l2, Ls', rfl, p2, hp⟩ := zr_cons hp
  obtain ⟨l3, Ls', rfl, p3, hp⟩ := zr_cons hp
  obtain ⟨l4, Ls', rfl, p4, hp⟩ := zr_cons hp
  obtain ⟨l5, Ls', rfl, p5, hp⟩ := zr_cons hp
  obtain ⟨l6, Ls', rfl, p6, hp⟩ := zr_cons hp
  obtain ⟨l7, Ls', rfl, p7, hp⟩ := zr_cons hp
  cases zr_nil hp
  obtain ⟨k, rfl, e0⟩ := zd_op hD (by decide) p0
  obtain ⟨s, d, c, rfl, g0, s0, m0, h0⟩ := zd_op hD (by decide) p1
  obtain ⟨rfl, a0⟩ := zd_op hD (by decide) p2
  obtain ⟨n_o, n, rfl, hn⟩ := zd_fm hD hT p3
  obtain ⟨s2_o, i1, s2, rfl, hi1, hs2⟩ := zd_em hD hT (by decide) p4
  obtain ⟨d2_o, i2, d2, rfl, hi2, hd2⟩ := zd_em hD hT (by decide) p5
  obtain ⟨k2_o, i3, k2, rfl, hi3, hk2⟩ := zd_em hD hT (by decide) p6
  obtain ⟨m2_o, i4, m2, rfl, hi4, hm2⟩ := zd_em hD hT (by decide) p7
  obtain ⟨qc0, hc⟩ := zc1 hc
  have qc0 : k ≤ k2 + 0 := qc0
  obtain ⟨qc1, hc⟩ := zc1 hc
  have qc1 : k2 ≤ k + 0 := qc1
  obtain ⟨qc2, hc⟩ := zc1 hc
  have qc2 : i1 ≤ c + 0 := qc2
  obtain ⟨qc3, hc⟩ := zc1 hc
  have qc3 : c ≤ i1 + 0 := qc3
  obtain ⟨qc4, hc⟩ := zc1 hc
  have qc4 : i2 ≤ c + 0 := qc4
  obtain ⟨qc5, hc⟩ := zc1 hc
  have qc5 : c ≤ i2 + 0 := qc5
  obtain ⟨qc6, hc⟩ := zc1 hc
  have qc6 : i3 ≤ c + 0 := qc6
  obtain ⟨qc7, hc⟩ := zc1 hc
  have qc7 : c ≤ i3 + 0 := qc7
  obtain ⟨qc8, hc⟩ := zc1 hc
  have qc8 : i4 ≤ c + 0 := qc8
  obtain ⟨qc9, hc⟩ := zc1 hc
  have qc9 : c ≤ i4 + 0 := qc9
  obtain ⟨qc10, hc⟩ := zc1 hc
  have qc10 : s2 ≤ s + 0 := qc10
  obtain ⟨qc11, hc⟩ := zc1 hc
  have qc11 : s ≤ s2 + 0 := qc11
  obtain ⟨qc12, hc⟩ := zc1 hc
  have qc12 : d2 ≤ d + 0 := qc12
  obtain ⟨qc13, hc⟩ := zc1 hc
  have qc13 : m2 ≤ (0 : Int) + 0 := qc13
  obtain ⟨qc14, hc⟩ := zc1 hc
  have qc14 : c ≤ n + -1 := qc14
  exfalso
  rw [show i1.toNat = c.toNat by omega] at hs2
  rw [show i2.toNat = c.toNat by omega] at hd2
  rw [show i3.toNat = c.toNat by omega] at hk2
  rw [show i4.toNat = c.toNat by omega] at hm2
  have z1 := h0 k
  rw [zc_n_zero (fun j hj => e0 j (by omega))] at z1
  obtain ⟨a1, a2, a3, a4⟩ := a0.2 c.toNat (by omega)
  have z2 := a4 (by omega)
  rw [hs2, hk2, show k2 = k by omega, show s2 = s by omega] at z2
  have z3 : zc_t ua (zi H) s (zi H (ua 115) c.toNat) c.toNat k = zc_t ua (zi H) s d c.toNat k := by
    unfold zc_t
    rw [zc_r_day (d' := d) (fun j hj => ⟨a2 j hj, by have := a2 j hj; omega⟩)]
  omega
theorem rU67_ok (hD : zk_d2 D ua) : zr_okU D rU67 := by
  intro ty H Ls hT hp hc
  obtain ⟨l0, Ls', rfl, p0, hp⟩ := zr_cons hp
  obtain ⟨l1, Ls', rfl, p1, hp⟩ := zr_cons hp
  cases zr_nil hp
  obtain ⟨s, d, c, rfl, g0, s0, m0, h0⟩ := zd_op hD (by decide) p0
  obtain ⟨n_o, n, rfl, hn⟩ := zd_fm hD hT p1
  obtain ⟨qc0, hc⟩ := zc1 hc
  have qc0 : c ≤ n + 0 := qc0
  obtain ⟨qc1, hc⟩ := zc1 hc
  have qc1 : n ≤ c + 0 := qc1
  refine ⟨_, List.mem_singleton.mpr rfl, fun c hc => (by cases hc), fun f hf => ?_⟩
  rw [List.mem_singleton.mp hf]
  refine (hD.1 119 (by decide) _ _ _).mpr ⟨zd_ty hD (by decide) p0, s, d, by simp, s0, m0, by omega, fun x => ?_⟩
  rw [hn, show n.toNat = c.toNat by omega]
  exact h0 x
theorem rU68_ok (hD : zk_d2 D ua) : zr_okU D rU68 := by
  intro ty H Ls hT hp hc
  obtain ⟨l0, Ls', rfl, p0, hp⟩ := zr_cons hp
  obtain ⟨l1, Ls', rfl, p1, hp⟩ := zr_cons hp
  cases zr_nil hp
  obtain ⟨s, d, rfl, s0, m0, n0, h0⟩ := zd_op hD (by decide) p0
  obtain ⟨k, p, rfl, b0, b1, b2⟩ := zd_op hD (by decide) p1
  refine ⟨_, List.mem_singleton.mpr rfl, fun c hc => (by cases hc), fun f hf => ?_⟩
  rw [List.mem_singleton.mp hf]
  refine (hD.1 115 (by decide) _ _ _).mpr ⟨zd_ty hD (by decide) p0, s, d, k, by simp, s0, n0, ?_⟩
  rw [← h0 k]
  exact zc_n_ge (by omega) b2
theorem rU70_ok (hD : zk_d2 D ua) : zr_okU D rU70 := by
  intro ty H Ls hT hp hc
  obtain ⟨l0, Ls', rfl, p0, hp⟩ := zr_cons hp
  obtain ⟨l1, Ls', rfl, p1, hp⟩ := zr_cons hp
  cases zr_nil hp
  obtain ⟨rfl, a0⟩ := zd_op hD (by decide) p0
  obtain ⟨k, rfl⟩ := zd_loc p1
  refine ⟨_, List.mem_singleton.mpr rfl, fun c hc => (by cases hc), fun f hf => ?_⟩
  rw [List.mem_singleton.mp hf]
  exact (hD.1 113 (by decide) _ _ _).mpr ⟨zd_ty hD (by decide) p0, k, 0, by simp, fun i hi => by omega⟩
theorem rU71_ok (hD : zk_d2 D ua) : zr_okU D rU71 := by
  intro ty H Ls hT hp hc
  obtain ⟨l0, Ls', rfl, p0, hp⟩ := zr_cons hp
  obtain ⟨l1, Ls', rfl, p1, hp⟩ := zr_cons hp
  obtain ⟨l2, Ls', rfl, p2, hp⟩ := zr_cons hp
  cases zr_nil hp
  obtain ⟨k, p, rfl, h0⟩ := zd_op hD (by decide) p0
  obtain ⟨m_o, m, rfl, hm⟩ := zd_fm hD hT p1
  obtain ⟨v_o, j, v, rfl, hj, hv⟩ := zd_em hD hT (by decide) p2
  obtain ⟨qc0, hc⟩ := zc1 hc
  have qc0 : j ≤ p + 0 := qc0
  obtain ⟨qc1, hc⟩ := zc1 hc
  have qc1 : p ≤ j + 0 := qc1
  obtain ⟨qc2, hc⟩ := zc1 hc
  have qc2 : p ≤ m + -1 := qc2
  obtain ⟨qc3, hc⟩ := zc1 hc
  have qc3 : (0 : Int) ≤ p + 0 := qc3
  rw [show j.toNat = p.toNat by omega] at hv
  rcases Int.lt_trichotomy v k with ht | ht | ht
  · refine ⟨_, List.mem_cons_self, fun c hc => ?_, fun f hf => ?_⟩
    · rw [List.mem_singleton.mp hc]
      show v ≤ k + -1
      omega
    · rw [List.mem_singleton.mp hf]
      refine (hD.1 113 (by decide) _ _ _).mpr ⟨zd_ty hD (by decide) p0, k, p + 1, by simp, fun i hi => ?_⟩
      by_cases e : (i : Int) < p
      · exact h0 i e
      · rw [show i = p.toNat by omega]
        omega
  · refine ⟨_, List.mem_cons_of_mem _ (List.mem_cons_of_mem _ List.mem_cons_self), fun c hc => ?_, fun f hf => ?_⟩
    · simp only [List.mem_cons, List.not_mem_nil, or_false] at hc
      rcases hc with rfl | rfl
      · show v ≤ k + 0
        omega
      · show k ≤ v + 0
        omega
    · rw [List.mem_singleton.mp hf]
      exact (hD.1 118 (by decide) _ _ _).mpr ⟨zd_ty hD (by decide) p0, k, p, by simp, by omega, by omega, by omega⟩
  · refine ⟨_, List.mem_cons_of_mem _ List.mem_cons_self, fun c hc => ?_, fun f hf => ?_⟩
    · rw [List.mem_singleton.mp hc]
      show k ≤ v + -1
      omega
    · rw [List.mem_singleton.mp hf]
      refine (hD.1 113 (by decide) _ _ _).mpr ⟨zd_ty hD (by decide) p0, k, p + 1, by simp, fun i hi => ?_⟩
      by_cases e : (i : Int) < p
      · exact h0 i e
      · rw [show i = p.toNat by omega]
        omega
theorem rU72_ok (hD : zk_d2 D ua) : zr_okU D rU72 := by
  intro ty H Ls hT hp hc
  obtain ⟨l0, Ls', rfl, p0, hp⟩ := zr_cons hp
  obtain ⟨l1, Ls', rfl, p1, hp⟩ := zr_cons hp
  cases zr_nil hp
  obtain ⟨k, p, rfl, h0⟩ := zd_op hD (by decide) p0
  obtain ⟨m_o, m, rfl, hm⟩ := zd_fm hD hT p1
  obtain ⟨qc0, hc⟩ := zc1 hc
  have qc0 : m ≤ p + 0 := qc0
  refine ⟨_, List.mem_singleton.mpr rfl, fun c hc => (by cases hc), fun f hf => ?_⟩
  rw [List.mem_singleton.mp hf]
  exact (hD.1 117 (by decide) _ _ _).mpr ⟨zd_ty hD (by decide) p0, k, by simp, fun i hi => h0 i (by omega)⟩
theorem rU80_ok (hD : zk_d2 D ua) : zr_okU D rU80 := by
  intro ty H Ls hT hp hc
  obtain ⟨l0, Ls', rfl, p0, hp⟩ := zr_cons hp
  obtain ⟨l1, Ls', rfl, p1, hp⟩ := zr_cons hp
  cases zr_nil hp
  obtain ⟨rfl, -⟩ := zd_op hD (by decide) p0
  obtain ⟨n, rfl⟩ := zd_loc p1
  refine ⟨_, List.mem_singleton.mpr rfl, fun c hc => (by cases hc), fun f hf => ?_⟩
  rw [List.mem_singleton.mp hf]
  exact (hD.1 162 (by decide) _ _ _).mpr ⟨zd_ty hD (by decide) p0, n, 2, by simp, fun e h1 h2 => by omega⟩
theorem rU81_ok (hD : zk_d2 D ua) : zr_okU D rU81 := by
  intro ty H Ls hT hp hc
  obtain ⟨l0, Ls', rfl, p0, hp⟩ := zr_cons hp
  obtain ⟨l1, Ls', rfl, p1, hp⟩ := zr_cons hp
  cases zr_nil hp
  obtain ⟨n, d, rfl, h0⟩ := zd_op hD (by decide) p0
  obtain ⟨a, b, z, rfl, hz⟩ := zd_rec hD (by decide) p1
  obtain ⟨qc0, hc⟩ := zc1 hc
  have qc0 : a ≤ d + 0 := qc0
  obtain ⟨qc1, hc⟩ := zc1 hc
  have qc1 : d ≤ a + 0 := qc1
  obtain ⟨qc2, hc⟩ := zc1 hc
  have qc2 : b ≤ d + 0 := qc2
  obtain ⟨qc3, hc⟩ := zc1 hc
  have qc3 : d ≤ b + 0 := qc3
  obtain ⟨qc4, hc⟩ := zc1 hc
  have qc4 : n ≤ z + -1 := qc4
  obtain ⟨qc5, hc⟩ := zc1 hc
  have qc5 : (0 : Int) ≤ d + -2 := qc5
  obtain ⟨qc6, hc⟩ := zc1 hc
  have qc6 : d ≤ (0 : Int) + 100000 := qc6
  obtain ⟨qc7, hc⟩ := zc1 hc
  have qc7 : (0 : Int) ≤ n + -2 := qc7
  obtain ⟨qc8, hc⟩ := zc1 hc
  have qc8 : n ≤ (0 : Int) + 2147483647 := qc8
  obtain ⟨qc9, hc⟩ := zc1 hc
  have qc9 : z ≤ (0 : Int) + 9223372036854775807 := qc9
  obtain ⟨qc10, hc⟩ := zc1 hc
  have qc10 : (0 : Int) ≤ z + 9223372036854775808 := qc10
  refine ⟨_, List.mem_singleton.mpr rfl, fun c hc => (by cases hc), fun f hf => ?_⟩
  rw [List.mem_singleton.mp hf]
  have ea : a = d := by omega
  have eb : b = d := by omega
  rw [ea, eb] at hz
  have hdd := zn_dd (d := d) (by omega) (by omega)
  have ez := zm_22 hz (by omega) (by omega) (by omega) (by omega)
  exact (hD.1 160 (by decide) _ _ _).mpr ⟨zd_ty hD (by decide) p0, n, by simp, zn_yes h0 (by omega) (by omega) (by omega)⟩
theorem rU82_ok (hD : zk_d2 D ua) : zr_okU D rU82 := by
  intro ty H Ls hT hp hc
  obtain ⟨l0, Ls', rfl, p0, hp⟩ := zr_cons hp
  obtain ⟨l1, Ls', rfl, p1, hp⟩ := zr_cons hp
  obtain ⟨l2, Ls', rfl, p2, hp⟩ := zr_cons hp
  cases zr_nil hp
  obtain ⟨n, d, rfl, h0⟩ := zd_op hD (by decide) p0
  obtain ⟨a, b, z, rfl, hz⟩ := zd_rec hD (by decide) p1
  obtain ⟨x, y, r, rfl, hr⟩ := zd_rec hD (by decide) p2
  obtain ⟨qc0, hc⟩ := zc1 hc
  have qc0 : a ≤ d + 0 := qc0
  obtain ⟨qc1, hc⟩ := zc1 hc
  have qc1 : d ≤ a + 0 := qc1
  obtain ⟨qc2, hc⟩ := zc1 hc
  have qc2 : b ≤ d + 0 := qc2
  obtain ⟨qc3, hc⟩ := zc1 hc
  have qc3 : d ≤ b + 0 := qc3
  obtain ⟨qc4, hc⟩ := zc1 hc
  have qc4 : x ≤ n + 0 := qc4
  obtain ⟨qc5, hc⟩ := zc1 hc
  have qc5 : n ≤ x + 0 := qc5
  obtain ⟨qc6, hc⟩ := zc1 hc
  have qc6 : y ≤ d + 0 := qc6
  obtain ⟨qc7, hc⟩ := zc1 hc
  have qc7 : d ≤ y + 0 := qc7
  obtain ⟨qc8, hc⟩ := zc1 hc
  have qc8 : r ≤ (0 : Int) + 0 := qc8
  obtain ⟨qc9, hc⟩ := zc1 hc
  have qc9 : (0 : Int) ≤ r + 0 := qc9
  obtain ⟨qc10, hc⟩ := zc1 hc
  have qc10 : z ≤ n + 0 := qc10
  obtain ⟨qc11, hc⟩ := zc1 hc
  have qc11 : (0 : Int) ≤ d + -2 := qc11
  obtain ⟨qc12, hc⟩ := zc1 hc
  have qc12 : d ≤ (0 : Int) + 100000 := qc12
  obtain ⟨qc13, hc⟩ := zc1 hc
  have qc13 : (0 : Int) ≤ n + -2 := qc13
  obtain ⟨qc14, hc⟩ := zc1 hc
  have qc14 : n ≤ (0 : Int) + 2147483647 := qc14
  obtain ⟨qc15, hc⟩ := zc1 hc
  have qc15 : z ≤ (0 : Int) + 9223372036854775807 := qc15
  obtain ⟨qc16, hc⟩ := zc1 hc
  have qc16 : (0 : Int) ≤ z + 9223372036854775808 := qc16
  refine ⟨_, List.mem_singleton.mpr rfl, fun c hc => (by cases hc), fun f hf => ?_⟩
  rw [List.mem_singleton.mp hf]
  have ea : a = d := by omega
  have eb : b = d := by omega
  rw [ea, eb] at hz
  have hdd := zn_dd (d := d) (by omega) (by omega)
  have ez := zm_22 hz (by omega) (by omega) (by omega) (by omega)
  rw [show x = n by omega, show y = d by omega] at hr
  have er := zm_24 hr (by omega) (by omega) (by omega) (by omega) (by omega) (by omega)
  exact (hD.1 161 (by decide) _ _ _).mpr ⟨zd_ty hD (by decide) p0, n, by simp, zn_not (d := d) (by omega) (by omega) (by omega)⟩
theorem rU83_ok (hD : zk_d2 D ua) : zr_okU D rU83 := by
  intro ty H Ls hT hp hc
  obtain ⟨l0, Ls', rfl, p0, hp⟩ := zr_cons hp
  obtain ⟨l1, Ls', rfl, p1, hp⟩ := zr_cons hp
  cases zr_nil hp
  obtain ⟨n, d, rfl, h0⟩ := zd_op hD (by decide) p0
  obtain ⟨x, y, r, rfl, hr⟩ := zd_rec hD (by decide) p1
  obtain ⟨qc0, hc⟩ := zc1 hc
  have qc0 : x ≤ n + 0 := qc0
  obtain ⟨qc1, hc⟩ := zc1 hc
  have qc1 : n ≤ x + 0 := qc1
  obtain ⟨qc2, hc⟩ := zc1 hc
  have qc2 : y ≤ d + 0 := qc2
  obtain ⟨qc3, hc⟩ := zc1 hc
  have qc3 : d ≤ y + 0 := qc3
  obtain ⟨qc4, hc⟩ := zc1 hc
  have qc4 : (0 : Int) ≤ r + -1 := qc4
  obtain ⟨qc5, hc⟩ := zc1 hc
  have qc5 : (0 : Int) ≤ d + -2 := qc5
  obtain ⟨qc6, hc⟩ := zc1 hc
  have qc6 : d ≤ (0 : Int) + 100000 := qc6
  obtain ⟨qc7, hc⟩ := zc1 hc
  have qc7 : (0 : Int) ≤ n + -2 := qc7
  obtain ⟨qc8, hc⟩ := zc1 hc
  have qc8 : n ≤ (0 : Int) + 2147483647 := qc8
  obtain ⟨qc9, hc⟩ := zc1 hc
  have qc9 : r ≤ (0 : Int) + 9223372036854775807 := qc9
  obtain ⟨qc10, hc⟩ := zc1 hc
  have qc10 : (0 : Int) ≤ r + 9223372036854775808 := qc10
  refine ⟨_, List.mem_singleton.mpr rfl, fun c hc => (by cases hc), fun f hf => ?_⟩
  rw [List.mem_singleton.mp hf]
  rw [show x = n by omega, show y = d by omega] at hr
  have er := zm_24 hr (by omega) (by omega) (by omega) (by omega) (by omega) (by omega)
  refine (hD.1 162 (by decide) _ _ _).mpr ⟨zd_ty hD (by decide) p0, n, d + 1, by simp, fun e h1 h2 => ?_⟩
  by_cases e1 : e < d
  · exact h0 e h1 e1
  · rw [show e = d by omega]
    omega
theorem rU84_ok (hD : zk_d2 D ua) : zr_okU D rU84 := by
  intro ty H Ls hT hp hc
  obtain ⟨l0, Ls', rfl, p0, hp⟩ := zr_cons hp
  obtain ⟨l1, Ls', rfl, p1, hp⟩ := zr_cons hp
  cases zr_nil hp
  obtain ⟨rfl, -⟩ := zd_op hD (by decide) p0
  obtain ⟨n, b, r, rfl, hr⟩ := zd_rec hD (by decide) p1
  obtain ⟨qc0, hc⟩ := zc1 hc
  have qc0 : b ≤ (0 : Int) + 2 := qc0
  obtain ⟨qc1, hc⟩ := zc1 hc
  have qc1 : (0 : Int) ≤ b + -2 := qc1
  obtain ⟨qc2, hc⟩ := zc1 hc
  have qc2 : r ≤ (0 : Int) + 0 := qc2
  obtain ⟨qc3, hc⟩ := zc1 hc
  have qc3 : (0 : Int) ≤ r + 0 := qc3
  obtain ⟨qc4, hc⟩ := zc1 hc
  have qc4 : (0 : Int) ≤ n + -4 := qc4
  obtain ⟨qc5, hc⟩ := zc1 hc
  have qc5 : n ≤ (0 : Int) + 2147483647 := qc5
  refine ⟨_, List.mem_singleton.mpr rfl, fun c hc => (by cases hc), fun f hf => ?_⟩
  rw [List.mem_singleton.mp hf]
  rw [show b = 2 by omega] at hr
  have er := zm_28 hr (by omega) (by omega) (by omega) (by omega) (by omega) (by omega)
  exact (hD.1 161 (by decide) _ _ _).mpr ⟨zd_ty hD (by decide) p0, n, by simp, zn_not (d := 2) (by omega) (by omega) (by omega)⟩
theorem rU85_ok (hD : zk_d2 D ua) : zr_okU D rU85 := by
  intro ty H Ls hT hp hc
  obtain ⟨l0, Ls', rfl, p0, hp⟩ := zr_cons hp
  obtain ⟨l1, Ls', rfl, p1, hp⟩ := zr_cons hp
  cases zr_nil hp
  obtain ⟨rfl, -⟩ := zd_op hD (by decide) p0
  obtain ⟨n, b, r, rfl, hr⟩ := zd_rec hD (by decide) p1
  obtain ⟨qc0, hc⟩ := zc1 hc
  have qc0 : b ≤ (0 : Int) + 2 := qc0
  obtain ⟨qc1, hc⟩ := zc1 hc
  have qc1 : (0 : Int) ≤ b + -2 := qc1
  obtain ⟨qc2, hc⟩ := zc1 hc
  have qc2 : (0 : Int) ≤ r + -1 := qc2
  obtain ⟨qc3, hc⟩ := zc1 hc
  have qc3 : (0 : Int) ≤ n + 0 := qc3
  obtain ⟨qc4, hc⟩ := zc1 hc
  have qc4 : n ≤ (0 : Int) + 2147483647 := qc4
  obtain ⟨qc5, hc⟩ := zc1 hc
  have qc5 : r ≤ (0 : Int) + 2147483647 := qc5
  obtain ⟨qc6, hc⟩ := zc1 hc
  have qc6 : (0 : Int) ≤ r + 2147483648 := qc6
  refine ⟨_, List.mem_singleton.mpr rfl, fun c hc => (by cases hc), fun f hf => ?_⟩
  rw [List.mem_singleton.mp hf]
  rw [show b = 2 by omega] at hr
  have er := zm_28 hr (by omega) (by omega) (by omega) (by omega) (by omega) (by omega)
  refine (hD.1 164 (by decide) _ _ _).mpr ⟨zd_ty hD (by decide) p0, n, 3, by simp, fun e h1 h2 => ?_, by omega, by omega⟩
  rw [show e = 2 by omega]
  omega
theorem rU86_ok (hD : zk_d2 D ua) : zr_okU D rU86 := by
  intro ty H Ls hT hp hc
  obtain ⟨l0, Ls', rfl, p0, hp⟩ := zr_cons hp
  obtain ⟨l1, Ls', rfl, p1, hp⟩ := zr_cons hp
  cases zr_nil hp
  obtain ⟨n, d, rfl, h0, h1, h2⟩ := zd_op hD (by decide) p0
  obtain ⟨x, y, r, rfl, hr⟩ := zd_rec hD (by decide) p1
  obtain ⟨qc0, hc⟩ := zc1 hc
  have qc0 : x ≤ n + 0 := qc0
  obtain ⟨qc1, hc⟩ := zc1 hc
  have qc1 : n ≤ x + 0 := qc1
  obtain ⟨qc2, hc⟩ := zc1 hc
  have qc2 : y ≤ d + 0 := qc2
  obtain ⟨qc3, hc⟩ := zc1 hc
  have qc3 : d ≤ y + 0 := qc3
  obtain ⟨qc4, hc⟩ := zc1 hc
  have qc4 : (0 : Int) ≤ r + -1 := qc4
  obtain ⟨qc5, hc⟩ := zc1 hc
  have qc5 : (0 : Int) ≤ d + -2 := qc5
  obtain ⟨qc6, hc⟩ := zc1 hc
  have qc6 : d ≤ (0 : Int) + 100000 := qc6
  obtain ⟨qc7, hc⟩ := zc1 hc
  have qc7 : (0 : Int) ≤ n + -2 := qc7
  obtain ⟨qc8, hc⟩ := zc1 hc
  have qc8 : n ≤ (0 : Int) + 2147483647 := qc8
  obtain ⟨qc9, hc⟩ := zc1 hc
  have qc9 : r ≤ (0 : Int) + 2147483647 := qc9
  obtain ⟨qc10, hc⟩ := zc1 hc
  have qc10 : (0 : Int) ≤ r + 2147483648 := qc10
  refine ⟨_, List.mem_singleton.mpr rfl, fun c hc => (by cases hc), fun f hf => ?_⟩
  rw [List.mem_singleton.mp hf]
  rw [show x = n by omega, show y = d by omega] at hr
  have er := zm_28 hr (by omega) (by omega) (by omega) (by omega) (by omega) (by omega)
  refine (hD.1 164 (by decide) _ _ _).mpr ⟨zd_ty hD (by decide) p0, n, d + 2, by simp, fun e g1 g2 => ?_, h1, by omega⟩
  by_cases e1 : e < d
  · exact h0 e g1 e1
  · by_cases e2 : e = d
    · rw [e2]
      omega
    · exact zn_odd h1 (by omega)
theorem rU87_ok (hD : zk_d2 D ua) : zr_okU D rU87 := by
  intro ty H Ls hT hp hc
  obtain ⟨l0, Ls', rfl, p0, hp⟩ := zr_cons hp
  cases zr_nil hp
  obtain ⟨n, d, rfl, h0, h1, h2⟩ := zd_op hD (by decide) p0
  obtain ⟨qc0, hc⟩ := zc1 hc
  have qc0 : (0 : Int) ≤ d + -46341 := qc0
  obtain ⟨qc1, hc⟩ := zc1 hc
  have qc1 : n ≤ (0 : Int) + 2147483647 := qc1
  obtain ⟨qc2, hc⟩ := zc1 hc
  have qc2 : (0 : Int) ≤ n + -2 := qc2
  refine ⟨_, List.mem_singleton.mpr rfl, fun c hc => (by cases hc), fun f hf => ?_⟩
  rw [List.mem_singleton.mp hf]
  have hq := Int.mul_le_mul (show (46341 : Int) ≤ d by omega) (show (46341 : Int) ≤ d by omega) (by omega) (by omega)
  exact (hD.1 160 (by decide) _ _ _).mpr ⟨zd_ty hD (by decide) p0, n, by simp, zn_yes h0 (by omega) (by omega) (by omega)⟩
theorem rU88_ok (hD : zk_d2 D ua) : zr_okU D rU88 := by
  intro ty H Ls hT hp hc
  obtain ⟨l0, Ls', rfl, p0, hp⟩ := zr_cons hp
  obtain ⟨l1, Ls', rfl, p1, hp⟩ := zr_cons hp
  cases zr_nil hp
  obtain ⟨n, d, rfl, h0, h1, h2⟩ := zd_op hD (by decide) p0
  obtain ⟨a, b, z, rfl, hz⟩ := zd_rec hD (by decide) p1
  obtain ⟨qc0, hc⟩ := zc1 hc
  have qc0 : a ≤ d + 0 := qc0
  obtain ⟨qc1, hc⟩ := zc1 hc
  have qc1 : d ≤ a + 0 := qc1
  obtain ⟨qc2, hc⟩ := zc1 hc
  have qc2 : b ≤ d + 0 := qc2
  obtain ⟨qc3, hc⟩ := zc1 hc
  have qc3 : d ≤ b + 0 := qc3
  obtain ⟨qc4, hc⟩ := zc1 hc
  have qc4 : n ≤ z + -1 := qc4
  obtain ⟨qc5, hc⟩ := zc1 hc
  have qc5 : (0 : Int) ≤ d + -2 := qc5
  obtain ⟨qc6, hc⟩ := zc1 hc
  have qc6 : d ≤ (0 : Int) + 46340 := qc6
  obtain ⟨qc7, hc⟩ := zc1 hc
  have qc7 : (0 : Int) ≤ n + -2 := qc7
  obtain ⟨qc8, hc⟩ := zc1 hc
  have qc8 : z ≤ (0 : Int) + 2147483647 := qc8
  obtain ⟨qc9, hc⟩ := zc1 hc
  have qc9 : (0 : Int) ≤ z + 2147483648 := qc9
  refine ⟨_, List.mem_singleton.mpr rfl, fun c hc => (by cases hc), fun f hf => ?_⟩
  rw [List.mem_singleton.mp hf]
  rw [show a = d by omega, show b = d by omega] at hz
  have hdd : 0 ≤ d * d ∧ d * d ≤ 2147395600 := by
    refine ⟨Int.mul_nonneg (by omega) (by omega), ?_⟩
    have := Int.mul_le_mul (show d ≤ 46340 by omega) (show d ≤ 46340 by omega) (show 0 ≤ d by omega) (by omega)
    omega
  have ez := zm_27 hz (by omega) (by omega) (by omega) (by omega)
  exact (hD.1 160 (by decide) _ _ _).mpr ⟨zd_ty hD (by decide) p0, n, by simp, zn_yes h0 (by omega) (by omega) (by omega)⟩
theorem rU89_ok (hD : zk_d2 D ua) : zr_okU D rU89 := by
  intro ty H Ls hT hp hc
  obtain ⟨l0, Ls', rfl, p0, hp⟩ := zr_cons hp
  obtain ⟨l1, Ls', rfl, p1, hp⟩ := zr_cons hp
  obtain ⟨l2, Ls', rfl, p2, hp⟩ := zr_cons hp
  cases zr_nil hp
  obtain ⟨n, d, rfl, h0, h1, h2⟩ := zd_op hD (by decide) p0
  obtain ⟨a, b, z, rfl, hz⟩ := zd_rec hD (by decide) p1
  obtain ⟨x, y, r, rfl, hr⟩ := zd_rec hD (by decide) p2
  obtain ⟨qc0, hc⟩ := zc1 hc
  have qc0 : a ≤ d + 0 := qc0
  obtain ⟨qc1, hc⟩ := zc1 hc
  have qc1 : d ≤ a + 0 := qc1
  obtain ⟨qc2, hc⟩ := zc1 hc
  have qc2 : b ≤ d + 0 := qc2
  obtain ⟨qc3, hc⟩ := zc1 hc
  have qc3 : d ≤ b + 0 := qc3
  obtain ⟨qc4, hc⟩ := zc1 hc
  have qc4 : x ≤ n + 0 := qc4
  obtain ⟨qc5, hc⟩ := zc1 hc
  have qc5 : n ≤ x + 0 := qc5
  obtain ⟨qc6, hc⟩ := zc1 hc
  have qc6 : y ≤ d + 0 := qc6
  obtain ⟨qc7, hc⟩ := zc1 hc
  have qc7 : d ≤ y + 0 := qc7
  obtain ⟨qc8, hc⟩ := zc1 hc
  have qc8 : r ≤ (0 : Int) + 0 := qc8
  obtain ⟨qc9, hc⟩ := zc1 hc
  have qc9 : (0 : Int) ≤ r + 0 := qc9
  obtain ⟨qc10, hc⟩ := zc1 hc
  have qc10 : z ≤ n + 0 := qc10
  obtain ⟨qc11, hc⟩ := zc1 hc
  have qc11 : (0 : Int) ≤ d + -2 := qc11
  obtain ⟨qc12, hc⟩ := zc1 hc
  have qc12 : d ≤ (0 : Int) + 46340 := qc12
  obtain ⟨qc13, hc⟩ := zc1 hc
  have qc13 : (0 : Int) ≤ n + -2 := qc13
  obtain ⟨qc14, hc⟩ := zc1 hc
  have qc14 : n ≤ (0 : Int) + 2147483647 := qc14
  obtain ⟨qc15, hc⟩ := zc1 hc
  have qc15 : z ≤ (0 : Int) + 2147483647 := qc15
  obtain ⟨qc16, hc⟩ := zc1 hc
  have qc16 : (0 : Int) ≤ z + 2147483648 := qc16
  refine ⟨_, List.mem_singleton.mpr rfl, fun c hc => (by cases hc), fun f hf => ?_⟩
  rw [List.mem_singleton.mp hf]
  rw [show a = d by omega, show b = d by omega] at hz
  have hdd : 0 ≤ d * d ∧ d * d ≤ 2147395600 := by
    refine ⟨Int.mul_nonneg (by omega) (by omega), ?_⟩
    have := Int.mul_le_mul (show d ≤ 46340 by omega) (show d ≤ 46340 by omega) (show 0 ≤ d by omega) (by omega)
    omega
  have ez := zm_27 hz (by omega) (by omega) (by omega) (by omega)
  rw [show x = n by omega, show y = d by omega] at hr
  have er := zm_28 hr (by omega) (by omega) (by omega) (by omega) (by omega) (by omega)
  exact (hD.1 161 (by decide) _ _ _).mpr ⟨zd_ty hD (by decide) p0, n, by simp, zn_not (d := d) (by omega) (by omega) (by omega)⟩
theorem rU90_ok (hD : zk_d2 D ua) : zr_okU D rU90 := by
  intro ty H Ls hT hp hc
  obtain ⟨l0, Ls', rfl, p0, hp⟩ := zr_cons hp
  obtain ⟨l1, Ls', rfl, p1, hp⟩ := zr_cons hp
  cases zr_nil hp
  obtain ⟨n, rfl, h0⟩ := zd_op hD (by decide) p0
  obtain ⟨k, rfl, h1⟩ := zd_op hD (by decide) p1
  obtain ⟨qc0, hc⟩ := zc1 hc
  have qc0 : n ≤ k + 0 := qc0
  obtain ⟨qc1, hc⟩ := zc1 hc
  have qc1 : k ≤ n + 0 := qc1
  exfalso
  rw [show n = k by omega] at h0
  exact h1 h0
theorem rU91_ok (hD : zk_d2 D ua) : zr_okU D rU91 := by
  intro ty H Ls hT hp hc
  obtain ⟨l0, Ls', rfl, p0, hp⟩ := zr_cons hp
  obtain ⟨l1, Ls', rfl, p1, hp⟩ := zr_cons hp
  obtain ⟨l2, Ls', rfl, p2, hp⟩ := zr_cons hp
  cases zr_nil hp
  obtain ⟨rfl, -⟩ := zd_op hD (by decide) p0
  obtain ⟨a, rfl⟩ := zd_loc p1
  obtain ⟨b, rfl⟩ := zd_loc p2
  obtain ⟨qc0, hc⟩ := zc1 hc
  have qc0 : (0 : Int) ≤ a + 0 := qc0
  obtain ⟨qc1, hc⟩ := zc1 hc
  have qc1 : a ≤ (0 : Int) + 1099511627776 := qc1
  obtain ⟨qc2, hc⟩ := zc1 hc
  have qc2 : (0 : Int) ≤ b + 0 := qc2
  obtain ⟨qc3, hc⟩ := zc1 hc
  have qc3 : b ≤ (0 : Int) + 1099511627776 := qc3
  refine ⟨_, List.mem_singleton.mpr rfl, fun c hc => (by cases hc), fun f hf => ?_⟩
  rw [List.mem_singleton.mp hf]
  refine (hD.1 170 (by decide) _ _ _).mpr ⟨zd_ty hD (by decide) p0, a, b, a, b, 0, by simp, ⟨by omega, by omega, by omega⟩, rfl, Or.inl rfl, ?_⟩
  have h1 : a.toNat * b.toNat ≤ 1099511627776 * 1099511627776 := Nat.mul_le_mul (by omega) (by omega)
  show a.toNat * b.toNat * 1 ≤ _
  omega
theorem rU92_ok (hD : zk_d2 D ua) : zr_okU D rU92 := by
  intro ty H Ls hT hp hc
  obtain ⟨l0, Ls', rfl, p0, hp⟩ := zr_cons hp
  obtain ⟨l1, Ls', rfl, p1, hp⟩ := zr_cons hp
  cases zr_nil hp
  obtain ⟨u, v, a, b, t, rfl, k0, k1, k2, k3⟩ := zd_op hD (by decide) p0
  obtain ⟨x, y, r, rfl, hr⟩ := zd_rec hD (by decide) p1
  obtain ⟨qc0, hc⟩ := zc1 hc
  have qc0 : x ≤ a + 0 := qc0
  obtain ⟨qc1, hc⟩ := zc1 hc
  have qc1 : a ≤ x + 0 := qc1
  obtain ⟨qc2, hc⟩ := zc1 hc
  have qc2 : y ≤ b + 0 := qc2
  obtain ⟨qc3, hc⟩ := zc1 hc
  have qc3 : b ≤ y + 0 := qc3
  obtain ⟨qc4, hc⟩ := zc1 hc
  have qc4 : (0 : Int) ≤ a + 0 := qc4
  obtain ⟨qc5, hc⟩ := zc1 hc
  have qc5 : a ≤ (0 : Int) + 1099511627776 := qc5
  obtain ⟨qc6, hc⟩ := zc1 hc
  have qc6 : (0 : Int) ≤ b + 0 := qc6
  obtain ⟨qc7, hc⟩ := zc1 hc
  have qc7 : b ≤ (0 : Int) + 1099511627776 := qc7
  obtain ⟨qc8, hc⟩ := zc1 hc
  have qc8 : (0 : Int) ≤ b + -1 := qc8
  obtain ⟨qc9, hc⟩ := zc1 hc
  have qc9 : r ≤ (0 : Int) + 9223372036854775807 := qc9
  obtain ⟨qc10, hc⟩ := zc1 hc
  have qc10 : (0 : Int) ≤ r + 9223372036854775808 := qc10
  refine ⟨_, List.mem_singleton.mpr rfl, fun c hc => (by cases hc), fun f hf => ?_⟩
  rw [List.mem_singleton.mp hf]
  rw [show x = a by omega, show y = b by omega] at hr
  have er := zm_24 hr (by omega) (by omega) (by omega) (by omega) (by omega) (by omega)
  subst er
  have g1 := Int.emod_nonneg a (b := b) (by omega)
  obtain ⟨st1, st2⟩ := zg_step (a := a.toNat) (b := b.toNat) (t := t.toNat) (by omega) (by omega) (by omega) k3
  rw [← Int.toNat_emod (by omega) (by omega)] at st1 st2
  refine (hD.1 170 (by decide) _ _ _).mpr ⟨zd_ty hD (by decide) p0, u, v, b, a % b, t + 1, by simp, ⟨by omega, g1, by omega⟩, by rw [zg_rest (by omega) (by omega)]; exact k1, Or.inr (by omega), ?_⟩
  rw [show (t + 1).toNat = t.toNat + 1 by omega]
  exact st1
theorem rU93_ok (hD : zk_d2 D ua) : zr_okU D rU93 := by
  intro ty H Ls hT hp hc
  obtain ⟨l0, Ls', rfl, p0, hp⟩ := zr_cons hp
  cases zr_nil hp
  obtain ⟨u, v, a, b, t, rfl, k0, k1, k2, k3⟩ := zd_op hD (by decide) p0
  obtain ⟨qc0, hc⟩ := zc1 hc
  have qc0 : (0 : Int) ≤ b + -1 := qc0
  obtain ⟨qc1, hc⟩ := zc1 hc
  have qc1 : (0 : Int) ≤ t + -200 := qc1
  exfalso
  exact zg_end (a := a.toNat) (b := b.toNat) (t := t.toNat) (by omega) (by omega) (by omega) k3
theorem rU94_ok (hD : zk_d2 D ua) : zr_okU D rU94 := by
  intro ty H Ls hT hp hc
  obtain ⟨l0, Ls', rfl, p0, hp⟩ := zr_cons hp
  cases zr_nil hp
  obtain ⟨u, v, a, b, t, rfl, k0, k1, k2, k3⟩ := zd_op hD (by decide) p0
  obtain ⟨qc0, hc⟩ := zc1 hc
  have qc0 : b ≤ (0 : Int) + 0 := qc0
  refine ⟨_, List.mem_singleton.mpr rfl, fun c hc => (by cases hc), fun f hf => ?_⟩
  rw [List.mem_singleton.mp hf]
  refine (hD.1 171 (by decide) _ _ _).mpr ⟨zd_ty hD (by decide) p0, u, v, a, by simp, by omega, ?_⟩
  rw [← k1, zg_zero (by omega)]
theorem rU95_ok (hD : zk_d2 D ua) : zr_okU D rU95 := by
  intro ty H Ls hT hp hc
  obtain ⟨l0, Ls', rfl, p0, hp⟩ := zr_cons hp
  obtain ⟨l1, Ls', rfl, p1, hp⟩ := zr_cons hp
  obtain ⟨l2, Ls', rfl, p2, hp⟩ := zr_cons hp
  cases zr_nil hp
  obtain ⟨rfl, -⟩ := zd_op hD (by decide) p0
  obtain ⟨a, rfl⟩ := zd_loc p1
  obtain ⟨b, rfl⟩ := zd_loc p2
  obtain ⟨qc0, hc⟩ := zc1 hc
  have qc0 : (0 : Int) ≤ a + 0 := qc0
  obtain ⟨qc1, hc⟩ := zc1 hc
  have qc1 : a ≤ (0 : Int) + 1099511627776 := qc1
  obtain ⟨qc2, hc⟩ := zc1 hc
  have qc2 : (0 : Int) ≤ b + 0 := qc2
  obtain ⟨qc3, hc⟩ := zc1 hc
  have qc3 : b ≤ (0 : Int) + 1099511627776 := qc3
  refine ⟨_, List.mem_singleton.mpr rfl, fun c hc => (by cases hc), fun f hf => ?_⟩
  rw [List.mem_singleton.mp hf]
  exact (hD.1 174 (by decide) _ _ _).mpr ⟨zd_ty hD (by decide) p0, a, b, a, b, by simp, ⟨by omega, by omega⟩, rfl⟩
theorem rU96_ok (hD : zk_d2 D ua) : zr_okU D rU96 := by
  intro ty H Ls hT hp hc
  obtain ⟨l0, Ls', rfl, p0, hp⟩ := zr_cons hp
  obtain ⟨l1, Ls', rfl, p1, hp⟩ := zr_cons hp
  cases zr_nil hp
  obtain ⟨u, v, a, b, rfl, k0, k1⟩ := zd_op hD (by decide) p0
  obtain ⟨x, y, r, rfl, hr⟩ := zd_rec hD (by decide) p1
  obtain ⟨qc0, hc⟩ := zc1 hc
  have qc0 : x ≤ a + 0 := qc0
  obtain ⟨qc1, hc⟩ := zc1 hc
  have qc1 : a ≤ x + 0 := qc1
  obtain ⟨qc2, hc⟩ := zc1 hc
  have qc2 : y ≤ b + 0 := qc2
  obtain ⟨qc3, hc⟩ := zc1 hc
  have qc3 : b ≤ y + 0 := qc3
  obtain ⟨qc4, hc⟩ := zc1 hc
  have qc4 : (0 : Int) ≤ a + 0 := qc4
  obtain ⟨qc5, hc⟩ := zc1 hc
  have qc5 : a ≤ (0 : Int) + 1099511627776 := qc5
  obtain ⟨qc6, hc⟩ := zc1 hc
  have qc6 : (0 : Int) ≤ b + 0 := qc6
  obtain ⟨qc7, hc⟩ := zc1 hc
  have qc7 : b ≤ (0 : Int) + 1099511627776 := qc7
  obtain ⟨qc8, hc⟩ := zc1 hc
  have qc8 : (0 : Int) ≤ b + -1 := qc8
  obtain ⟨qc9, hc⟩ := zc1 hc
  have qc9 : r ≤ (0 : Int) + 9223372036854775807 := qc9
  obtain ⟨qc10, hc⟩ := zc1 hc
  have qc10 : (0 : Int) ≤ r + 9223372036854775808 := qc10
  refine ⟨_, List.mem_singleton.mpr rfl, fun c hc => (by cases hc), fun f hf => ?_⟩
  rw [List.mem_singleton.mp hf]
  rw [show x = a by omega, show y = b by omega] at hr
  have er := zm_24 hr (by omega) (by omega) (by omega) (by omega) (by omega) (by omega)
  subst er
  have g1 := Int.emod_nonneg a (b := b) (by omega)
  exact (hD.1 174 (by decide) _ _ _).mpr ⟨zd_ty hD (by decide) p0, u, v, b, a % b, by simp, ⟨by omega, g1⟩, by rw [zg_rest (by omega) (by omega)]; exact k1⟩
theorem rU97_ok (hD : zk_d2 D ua) : zr_okU D rU97 := by
  intro ty H Ls hT hp hc
  obtain ⟨l0, Ls', rfl, p0, hp⟩ := zr_cons hp
  cases zr_nil hp
  obtain ⟨u, v, a, b, rfl, k0, k1⟩ := zd_op hD (by decide) p0
  obtain ⟨qc0, hc⟩ := zc1 hc
  have qc0 : b ≤ (0 : Int) + 0 := qc0
  refine ⟨_, List.mem_singleton.mpr rfl, fun c hc => (by cases hc), fun f hf => ?_⟩
  rw [List.mem_singleton.mp hf]
  refine (hD.1 171 (by decide) _ _ _).mpr ⟨zd_ty hD (by decide) p0, u, v, a, by simp, by omega, ?_⟩
  rw [← k1, zg_zero (by omega)]
theorem rU98_ok (hD : zk_d2 D ua) : zr_okU D rU98 := by
  intro ty H Ls hT hp hc
  obtain ⟨l0, Ls', rfl, p0, hp⟩ := zr_cons hp
  cases zr_nil hp
  obtain ⟨u, v, g, rfl, k0, k1⟩ := zd_op hD (by decide) p0
  rcases (show g ≤ 0 ∨ g = 1 ∨ 2 ≤ g by omega) with hg | hg | hg
  · refine ⟨_, List.mem_cons_self, fun c hc => ?_, fun f hf => ?_⟩
    · simp only [List.mem_cons, List.not_mem_nil, or_false] at hc
      rcases hc with rfl
      · show g ≤ 0 + 0
        omega
    · rw [List.mem_singleton.mp hf]
      exact (hD.1 173 (by decide) _ _ _).mpr ⟨zd_ty hD (by decide) p0, u, v, by simp, by omega⟩
  · refine ⟨_, List.mem_cons_of_mem _ List.mem_cons_self, fun c hc => ?_, fun f hf => ?_⟩
    · simp only [List.mem_cons, List.not_mem_nil, or_false] at hc
      rcases hc with rfl | rfl
      · show g ≤ 0 + 1
        omega
      · show 0 ≤ g + -1
        omega
    · rw [List.mem_singleton.mp hf]
      exact (hD.1 172 (by decide) _ _ _).mpr ⟨zd_ty hD (by decide) p0, u, v, by simp, by omega⟩
  · refine ⟨_, List.mem_cons_of_mem _ (List.mem_cons_of_mem _ List.mem_cons_self), fun c hc => ?_, fun f hf => ?_⟩
    · simp only [List.mem_cons, List.not_mem_nil, or_false] at hc
      rcases hc with rfl
      · show 0 ≤ g + -2
        omega
    · rw [List.mem_singleton.mp hf]
      exact (hD.1 173 (by decide) _ _ _).mpr ⟨zd_ty hD (by decide) p0, u, v, by simp, by omega⟩
theorem rU99_ok (hD : zk_d2 D ua) : zr_okU D rU99 := by
  intro ty H Ls hT hp hc
  obtain ⟨l0, Ls', rfl, p0, hp⟩ := zr_cons hp
  obtain ⟨l1, Ls', rfl, p1, hp⟩ := zr_cons hp
  cases zr_nil hp
  obtain ⟨u, v, rfl, h0⟩ := zd_op hD (by decide) p0
  obtain ⟨w, y, rfl, h1⟩ := zd_op hD (by decide) p1
  obtain ⟨qc0, hc⟩ := zc1 hc
  have qc0 : u ≤ w + 0 := qc0
  obtain ⟨qc1, hc⟩ := zc1 hc
  have qc1 : w ≤ u + 0 := qc1
  obtain ⟨qc2, hc⟩ := zc1 hc
  have qc2 : v ≤ y + 0 := qc2
  obtain ⟨qc3, hc⟩ := zc1 hc
  have qc3 : y ≤ v + 0 := qc3
  exfalso
  rw [show u = w by omega, show v = y by omega] at h0
  exact h1 h0
theorem rU110_ok (hD : zk_d2 D ua) : zr_okU D rU110 := by
  intro ty H Ls hT hp hc
  obtain ⟨l0, Ls', rfl, p0, hp⟩ := zr_cons hp
  obtain ⟨l1, Ls', rfl, p1, hp⟩ := zr_cons hp
  obtain ⟨l2, Ls', rfl, p2, hp⟩ := zr_cons hp
  cases zr_nil hp
  obtain ⟨rfl, -⟩ := zd_op hD (by decide) p0
  obtain ⟨n, rfl⟩ := zd_loc p1
  obtain ⟨w, rfl⟩ := zd_loc p2
  obtain ⟨qc0, hc⟩ := zc1 hc
  have qc0 : (0 : Int) ≤ n + 0 := qc0
  obtain ⟨qc1, hc⟩ := zc1 hc
  have qc1 : n ≤ (0 : Int) + 40 := qc1
  obtain ⟨qc2, hc⟩ := zc1 hc
  have qc2 : w ≤ (0 : Int) + 1 := qc2
  obtain ⟨qc3, hc⟩ := zc1 hc
  have qc3 : (0 : Int) ≤ w + -1 := qc3
  refine ⟨_, List.mem_singleton.mpr rfl, fun c hc => (by cases hc), fun f hf => ?_⟩
  rw [List.mem_singleton.mp hf]
  exact (hD.1 181 (by decide) _ _ _).mpr ⟨zd_ty hD (by decide) p0, n, 0, w, by simp, by omega, by show w = 1; omega⟩
theorem rU111_ok (hD : zk_d2 D ua) : zr_okU D rU111 := by
  intro ty H Ls hT hp hc
  obtain ⟨l0, Ls', rfl, p0, hp⟩ := zr_cons hp
  obtain ⟨l1, Ls', rfl, p1, hp⟩ := zr_cons hp
  obtain ⟨l2, Ls', rfl, p2, hp⟩ := zr_cons hp
  obtain ⟨l3, Ls', rfl, p3, hp⟩ := zr_cons hp
  obtain ⟨l4, Ls', rfl, p4, hp⟩ := zr_cons hp
  cases zr_nil hp
  obtain ⟨n, i, w, rfl, k0, k1⟩ := zd_op hD (by decide) p0
  obtain ⟨n1, i1, d, rfl, hd⟩ := zd_rec hD (by decide) p1
  obtain ⟨w1, d1, z, rfl, hz⟩ := zd_rec hD (by decide) p2
  obtain ⟨z1, e, w2, rfl, hq⟩ := zd_rec hD (by decide) p3
  obtain ⟨c, rfl⟩ := zd_loc p4
  obtain ⟨qc0, hc⟩ := zc1 hc
  have qc0 : n1 ≤ n + 0 := qc0
  obtain ⟨qc1, hc⟩ := zc1 hc
  have qc1 : n ≤ n1 + 0 := qc1
  obtain ⟨qc2, hc⟩ := zc1 hc
  have qc2 : i1 ≤ (i : Int) + 0 := qc2
  obtain ⟨qc3, hc⟩ := zc1 hc
  have qc3 : (i : Int) ≤ i1 + 0 := qc3
  obtain ⟨qc4, hc⟩ := zc1 hc
  have qc4 : w1 ≤ w + 0 := qc4
  obtain ⟨qc5, hc⟩ := zc1 hc
  have qc5 : w ≤ w1 + 0 := qc5
  obtain ⟨qc6, hc⟩ := zc1 hc
  have qc6 : d1 ≤ d + 0 := qc6
  obtain ⟨qc7, hc⟩ := zc1 hc
  have qc7 : d ≤ d1 + 0 := qc7
  obtain ⟨qc8, hc⟩ := zc1 hc
  have qc8 : z1 ≤ z + 0 := qc8
  obtain ⟨qc9, hc⟩ := zc1 hc
  have qc9 : z ≤ z1 + 0 := qc9
  obtain ⟨qc10, hc⟩ := zc1 hc
  have qc10 : e ≤ (i : Int) + 1 := qc10
  obtain ⟨qc11, hc⟩ := zc1 hc
  have qc11 : (i : Int) ≤ e + -1 := qc11
  obtain ⟨qc12, hc⟩ := zc1 hc
  have qc12 : (i : Int) ≤ c + -1 := qc12
  obtain ⟨qc13, hc⟩ := zc1 hc
  have qc13 : c ≤ n + 0 := qc13
  obtain ⟨qc14, hc⟩ := zc1 hc
  have qc14 : (0 : Int) ≤ (i : Int) + 0 := qc14
  obtain ⟨qc15, hc⟩ := zc1 hc
  have qc15 : (0 : Int) ≤ n + 0 := qc15
  obtain ⟨qc16, hc⟩ := zc1 hc
  have qc16 : n ≤ (0 : Int) + 40 := qc16
  obtain ⟨qc17, hc⟩ := zc1 hc
  have qc17 : d ≤ (0 : Int) + 2147483647 := qc17
  obtain ⟨qc18, hc⟩ := zc1 hc
  have qc18 : (0 : Int) ≤ d + 2147483648 := qc18
  obtain ⟨qc19, hc⟩ := zc1 hc
  have qc19 : z ≤ (0 : Int) + 9223372036854775807 := qc19
  obtain ⟨qc20, hc⟩ := zc1 hc
  have qc20 : (0 : Int) ≤ z + 9223372036854775808 := qc20
  obtain ⟨qc21, hc⟩ := zc1 hc
  have qc21 : w2 ≤ (0 : Int) + 9223372036854775807 := qc21
  obtain ⟨qc22, hc⟩ := zc1 hc
  have qc22 : (0 : Int) ≤ w2 + 9223372036854775808 := qc22
  refine ⟨_, List.mem_singleton.mpr rfl, fun c hc => (by cases hc), fun f hf => ?_⟩
  rw [List.mem_singleton.mp hf]
  have e1 := zm_25 hd (by omega) (by omega) (by omega) (by omega)
  have tb := (zb_tab n.toNat (by omega) i.toNat (by omega)).2
  have hp1 := Int.mul_le_mul (show w ≤ 1099511627776 by omega) (show d ≤ 40 by omega) (by omega) (by omega)
  have hp2 := Int.mul_nonneg (show 0 ≤ w by omega) (show 0 ≤ d by omega)
  rw [show w1 = w by omega, show d1 = d by omega] at hz
  have e2 := zm_22 hz (by omega) (by omega) (by omega) (by omega)
  have e3 := zm_23 hq (by omega) (by omega) (by omega) (by omega) (by omega) (by omega)
  refine (hD.1 181 (by decide) _ _ _).mpr ⟨zd_ty hD (by decide) p0, n, i + 1, w2, by simp, by omega, ?_⟩
  rw [show (i + 1).toNat = i.toNat + 1 by omega]
  show w2 = ((zb n.toNat i.toNat * (n.toNat - i.toNat) / (i.toNat + 1) : Nat) : Int)
  rw [Int.natCast_ediv, Int.natCast_mul, ← k1, show ((n.toNat - i.toNat : Nat) : Int) = d by omega, show ((i.toNat + 1 : Nat) : Int) = e by omega, e3, show z1 = w * d by omega]
theorem rU112_ok (hD : zk_d2 D ua) : zr_okU D rU112 := by
  intro ty H Ls hT hp hc
  obtain ⟨l0, Ls', rfl, p0, hp⟩ := zr_cons hp
  obtain ⟨l1, Ls', rfl, p1, hp⟩ := zr_cons hp
  cases zr_nil hp
  obtain ⟨n, i, w, rfl, k0, k1⟩ := zd_op hD (by decide) p0
  obtain ⟨c, rfl⟩ := zd_loc p1
  obtain ⟨qc0, hc⟩ := zc1 hc
  have qc0 : (i : Int) ≤ c + 0 := qc0
  obtain ⟨qc1, hc⟩ := zc1 hc
  have qc1 : c ≤ (i : Int) + 0 := qc1
  obtain ⟨qc2, hc⟩ := zc1 hc
  have qc2 : (0 : Int) ≤ n + 0 := qc2
  obtain ⟨qc3, hc⟩ := zc1 hc
  have qc3 : n ≤ (0 : Int) + 40 := qc3
  obtain ⟨qc4, hc⟩ := zc1 hc
  have qc4 : c ≤ n + 0 := qc4
  have tb := (zb_tab n.toNat (by omega) i.toNat (by omega)).2
  refine ⟨_, List.mem_singleton.mpr rfl, fun cc hc => ?_, fun f hf => ?_⟩
  · simp only [List.mem_cons, List.not_mem_nil, or_false] at hc
    rcases hc with rfl | rfl
    · show 0 ≤ w + -1
      omega
    · show w ≤ 0 + 1099511627776
      omega
  · rw [List.mem_singleton.mp hf]
    refine (hD.1 180 (by decide) _ _ _).mpr ⟨zd_ty hD (by decide) p0, n, c, w, by simp, by omega, ?_⟩
    unfold zch
    rw [if_pos (by omega), show c.toNat = i.toNat by omega]
    exact k1
theorem rU113_ok (hD : zk_d2 D ua) : zr_okU D rU113 := by
  intro ty H Ls hT hp hc
  obtain ⟨l0, Ls', rfl, p0, hp⟩ := zr_cons hp
  obtain ⟨l1, Ls', rfl, p1, hp⟩ := zr_cons hp
  obtain ⟨l2, Ls', rfl, p2, hp⟩ := zr_cons hp
  cases zr_nil hp
  obtain ⟨rfl, -⟩ := zd_op hD (by decide) p0
  obtain ⟨n, rfl⟩ := zd_loc p1
  obtain ⟨c, rfl⟩ := zd_loc p2
  obtain ⟨qc0, hc⟩ := zc1 hc
  have qc0 : n ≤ c + -1 := qc0
  obtain ⟨qc1, hc⟩ := zc1 hc
  have qc1 : (0 : Int) ≤ n + 0 := qc1
  obtain ⟨qc2, hc⟩ := zc1 hc
  have qc2 : n ≤ (0 : Int) + 40 := qc2
  refine ⟨_, List.mem_singleton.mpr rfl, fun cc hc => (by cases hc), fun f hf => ?_⟩
  rw [List.mem_singleton.mp hf]
  refine (hD.1 180 (by decide) _ _ _).mpr ⟨zd_ty hD (by decide) p0, n, c, 0, by simp, by omega, ?_⟩
  unfold zch
  rw [if_neg (by omega)]
  rfl
theorem rU114_ok (hD : zk_d2 D ua) : zr_okU D rU114 := by
  intro ty H Ls hT hp hc
  obtain ⟨l0, Ls', rfl, p0, hp⟩ := zr_cons hp
  obtain ⟨l1, Ls', rfl, p1, hp⟩ := zr_cons hp
  obtain ⟨l2, Ls', rfl, p2, hp⟩ := zr_cons hp
  obtain ⟨l3, Ls', rfl, p3, hp⟩ := zr_cons hp
  cases zr_nil hp
  obtain ⟨rfl, -⟩ := zd_op hD (by decide) p0
  obtain ⟨n, rfl⟩ := zd_loc p1
  obtain ⟨k, rfl⟩ := zd_loc p2
  obtain ⟨w, rfl⟩ := zd_loc p3
  obtain ⟨qc0, hc⟩ := zc1 hc
  have qc0 : (0 : Int) ≤ n + 0 := qc0
  obtain ⟨qc1, hc⟩ := zc1 hc
  have qc1 : n ≤ (0 : Int) + 40 := qc1
  obtain ⟨qc2, hc⟩ := zc1 hc
  have qc2 : (0 : Int) ≤ k + 0 := qc2
  obtain ⟨qc3, hc⟩ := zc1 hc
  have qc3 : k ≤ n + 0 := qc3
  obtain ⟨qc4, hc⟩ := zc1 hc
  have qc4 : w ≤ (0 : Int) + 1 := qc4
  obtain ⟨qc5, hc⟩ := zc1 hc
  have qc5 : (0 : Int) ≤ w + -1 := qc5
  refine ⟨_, List.mem_singleton.mpr rfl, fun c hc => (by cases hc), fun f hf => ?_⟩
  rw [List.mem_singleton.mp hf]
  exact (hD.1 182 (by decide) _ _ _).mpr ⟨zd_ty hD (by decide) p0, n, k, 1, w, by simp, by omega, by show w = 1; omega⟩
theorem rU115_ok (hD : zk_d2 D ua) : zr_okU D rU115 := by
  intro ty H Ls hT hp hc
  obtain ⟨l0, Ls', rfl, p0, hp⟩ := zr_cons hp
  obtain ⟨l1, Ls', rfl, p1, hp⟩ := zr_cons hp
  obtain ⟨l2, Ls', rfl, p2, hp⟩ := zr_cons hp
  obtain ⟨l3, Ls', rfl, p3, hp⟩ := zr_cons hp
  obtain ⟨l4, Ls', rfl, p4, hp⟩ := zr_cons hp
  cases zr_nil hp
  obtain ⟨n, k, i, w, rfl, k0_, k1_⟩ := zd_op hD (by decide) p0
  obtain ⟨n1, k1, d, rfl, hd⟩ := zd_rec hD (by decide) p1
  obtain ⟨d1, i1, e, rfl, he⟩ := zd_26 hD p2
  obtain ⟨w1, e1_, z, rfl, hz⟩ := zd_rec hD (by decide) p3
  obtain ⟨z1, i2, w2, rfl, hq⟩ := zd_rec hD (by decide) p4
  obtain ⟨qc0, hc⟩ := zc1 hc
  have qc0 : n1 ≤ n + 0 := qc0
  obtain ⟨qc1, hc⟩ := zc1 hc
  have qc1 : n ≤ n1 + 0 := qc1
  obtain ⟨qc2, hc⟩ := zc1 hc
  have qc2 : k1 ≤ k + 0 := qc2
  obtain ⟨qc3, hc⟩ := zc1 hc
  have qc3 : k ≤ k1 + 0 := qc3
  obtain ⟨qc4, hc⟩ := zc1 hc
  have qc4 : d1 ≤ d + 0 := qc4
  obtain ⟨qc5, hc⟩ := zc1 hc
  have qc5 : d ≤ d1 + 0 := qc5
  obtain ⟨qc6, hc⟩ := zc1 hc
  have qc6 : i1 ≤ (i : Int) + 0 := qc6
  obtain ⟨qc7, hc⟩ := zc1 hc
  have qc7 : (i : Int) ≤ i1 + 0 := qc7
  obtain ⟨qc8, hc⟩ := zc1 hc
  have qc8 : w1 ≤ w + 0 := qc8
  obtain ⟨qc9, hc⟩ := zc1 hc
  have qc9 : w ≤ w1 + 0 := qc9
  obtain ⟨qc10, hc⟩ := zc1 hc
  have qc10 : e1_ ≤ e + 0 := qc10
  obtain ⟨qc11, hc⟩ := zc1 hc
  have qc11 : e ≤ e1_ + 0 := qc11
  obtain ⟨qc12, hc⟩ := zc1 hc
  have qc12 : z1 ≤ z + 0 := qc12
  obtain ⟨qc13, hc⟩ := zc1 hc
  have qc13 : z ≤ z1 + 0 := qc13
  obtain ⟨qc14, hc⟩ := zc1 hc
  have qc14 : i2 ≤ (i : Int) + 0 := qc14
  obtain ⟨qc15, hc⟩ := zc1 hc
  have qc15 : (i : Int) ≤ i2 + 0 := qc15
  obtain ⟨qc16, hc⟩ := zc1 hc
  have qc16 : (0 : Int) ≤ n + 0 := qc16
  obtain ⟨qc17, hc⟩ := zc1 hc
  have qc17 : n ≤ (0 : Int) + 40 := qc17
  obtain ⟨qc18, hc⟩ := zc1 hc
  have qc18 : (0 : Int) ≤ k + 0 := qc18
  obtain ⟨qc19, hc⟩ := zc1 hc
  have qc19 : k ≤ n + 0 := qc19
  obtain ⟨qc20, hc⟩ := zc1 hc
  have qc20 : (i : Int) ≤ k + 0 := qc20
  obtain ⟨qc21, hc⟩ := zc1 hc
  have qc21 : (0 : Int) ≤ (i : Int) + -1 := qc21
  obtain ⟨qc22, hc⟩ := zc1 hc
  have qc22 : d ≤ (0 : Int) + 2147483647 := qc22
  obtain ⟨qc23, hc⟩ := zc1 hc
  have qc23 : (0 : Int) ≤ d + 2147483648 := qc23
  obtain ⟨qc24, hc⟩ := zc1 hc
  have qc24 : e ≤ (0 : Int) + 2147483647 := qc24
  obtain ⟨qc25, hc⟩ := zc1 hc
  have qc25 : (0 : Int) ≤ e + 2147483648 := qc25
  obtain ⟨qc26, hc⟩ := zc1 hc
  have qc26 : z ≤ (0 : Int) + 9223372036854775807 := qc26
  obtain ⟨qc27, hc⟩ := zc1 hc
  have qc27 : (0 : Int) ≤ z + 9223372036854775808 := qc27
  obtain ⟨qc28, hc⟩ := zc1 hc
  have qc28 : w2 ≤ (0 : Int) + 9223372036854775807 := qc28
  obtain ⟨qc29, hc⟩ := zc1 hc
  have qc29 : (0 : Int) ≤ w2 + 9223372036854775808 := qc29
  refine ⟨_, List.mem_singleton.mpr rfl, fun c hc => (by cases hc), fun f hf => ?_⟩
  rw [List.mem_singleton.mp hf]
  have e1 := zm_25 hd (by omega) (by omega) (by omega) (by omega)
  have e4 := zd_sum he (by omega) (by omega) (by omega) (by omega)
  have tb := zb_tab ((n - k).toNat + (i - 1).toNat) (by omega) (i - 1).toNat (by omega)
  rw [show (n - k).toNat + (i - 1).toNat - (i - 1).toNat = (n - k).toNat by omega] at tb
  obtain ⟨tb0, tb1, tb2⟩ := tb
  rw [← tb0] at tb1 tb2
  have hp1 := Int.mul_le_mul (show w ≤ 1099511627776 by omega) (show e ≤ 80 by omega) (by omega) (by omega)
  have hp2 := Int.mul_nonneg (show 0 ≤ w by omega) (show 0 ≤ e by omega)
  rw [show w1 = w by omega, show e1_ = e by omega] at hz
  have e2 := zm_22 hz (by omega) (by omega) (by omega) (by omega)
  have e3 := zm_23 hq (by omega) (by omega) (by omega) (by omega) (by omega) (by omega)
  refine (hD.1 182 (by decide) _ _ _).mpr ⟨zd_ty hD (by decide) p0, n, k, i + 1, w2, by simp, by omega, ?_⟩
  rw [show (i + 1 - 1).toNat = (i - 1).toNat + 1 by omega]
  show w2 = ((zrw (n - k).toNat (i - 1).toNat * ((n - k).toNat + (i - 1).toNat + 1) / ((i - 1).toNat + 1) : Nat) : Int)
  rw [Int.natCast_ediv, Int.natCast_mul, ← k1_, show (((n - k).toNat + (i - 1).toNat + 1 : Nat) : Int) = e by omega, show (((i - 1).toNat + 1 : Nat) : Int) = i2 by omega, e3, show z1 = w * e by omega]
theorem rU116_ok (hD : zk_d2 D ua) : zr_okU D rU116 := by
  intro ty H Ls hT hp hc
  obtain ⟨l0, Ls', rfl, p0, hp⟩ := zr_cons hp
  cases zr_nil hp
  obtain ⟨n, k, i, w, rfl, k0_, k1_⟩ := zd_op hD (by decide) p0
  obtain ⟨qc0, hc⟩ := zc1 hc
  have qc0 : (i : Int) ≤ k + 1 := qc0
  obtain ⟨qc1, hc⟩ := zc1 hc
  have qc1 : k ≤ (i : Int) + -1 := qc1
  obtain ⟨qc2, hc⟩ := zc1 hc
  have qc2 : (0 : Int) ≤ n + 0 := qc2
  obtain ⟨qc3, hc⟩ := zc1 hc
  have qc3 : n ≤ (0 : Int) + 40 := qc3
  obtain ⟨qc4, hc⟩ := zc1 hc
  have qc4 : (0 : Int) ≤ k + 0 := qc4
  obtain ⟨qc5, hc⟩ := zc1 hc
  have qc5 : k ≤ n + 0 := qc5
  have tb := zb_tab n.toNat (by omega) k.toNat (by omega)
  rw [show n.toNat - k.toNat = (n - k).toNat by omega, show k.toNat = (i - 1).toNat by omega] at tb
  rw [tb.1] at k1_
  have tb2 := tb.2
  refine ⟨_, List.mem_singleton.mpr rfl, fun c hc => ?_, fun f hf => ?_⟩
  · simp only [List.mem_cons, List.not_mem_nil, or_false] at hc
    rcases hc with rfl | rfl
    · show 0 ≤ w + -1
      omega
    · show w ≤ 0 + 1099511627776
      omega
  · rw [List.mem_singleton.mp hf]
    refine (hD.1 180 (by decide) _ _ _).mpr ⟨zd_ty hD (by decide) p0, n, k, w, by simp, by omega, ?_⟩
    unfold zch
    rw [if_pos (by omega), show k.toNat = (i - 1).toNat by omega]
    exact k1_
theorem rU117_ok (hD : zk_d2 D ua) : zr_okU D rU117 := by
  intro ty H Ls hT hp hc
  obtain ⟨l0, Ls', rfl, p0, hp⟩ := zr_cons hp
  obtain ⟨l1, Ls', rfl, p1, hp⟩ := zr_cons hp
  obtain ⟨l2, Ls', rfl, p2, hp⟩ := zr_cons hp
  obtain ⟨l3, Ls', rfl, p3, hp⟩ := zr_cons hp
  cases zr_nil hp
  obtain ⟨n, c, w, rfl, h0⟩ := zd_op hD (by decide) p0
  obtain ⟨d, c1, w1, rfl, h1⟩ := zd_op hD (by decide) p1
  obtain ⟨n1, f, d1, rfl, hd⟩ := zd_rec hD (by decide) p2
  obtain ⟨w2, w3, h, rfl, hh⟩ := zd_rec hD (by decide) p3
  obtain ⟨qc0, hc⟩ := zc1 hc
  have qc0 : c1 ≤ c + 0 := qc0
  obtain ⟨qc1, hc⟩ := zc1 hc
  have qc1 : c ≤ c1 + 0 := qc1
  obtain ⟨qc2, hc⟩ := zc1 hc
  have qc2 : n1 ≤ n + 0 := qc2
  obtain ⟨qc3, hc⟩ := zc1 hc
  have qc3 : n ≤ n1 + 0 := qc3
  obtain ⟨qc4, hc⟩ := zc1 hc
  have qc4 : d1 ≤ d + 0 := qc4
  obtain ⟨qc5, hc⟩ := zc1 hc
  have qc5 : d ≤ d1 + 0 := qc5
  obtain ⟨qc6, hc⟩ := zc1 hc
  have qc6 : w2 ≤ w + 0 := qc6
  obtain ⟨qc7, hc⟩ := zc1 hc
  have qc7 : w ≤ w2 + 0 := qc7
  obtain ⟨qc8, hc⟩ := zc1 hc
  have qc8 : w3 ≤ w1 + 0 := qc8
  obtain ⟨qc9, hc⟩ := zc1 hc
  have qc9 : w1 ≤ w3 + 0 := qc9
  obtain ⟨qc10, hc⟩ := zc1 hc
  have qc10 : (0 : Int) ≤ n + 0 := qc10
  obtain ⟨qc11, hc⟩ := zc1 hc
  have qc11 : n ≤ (0 : Int) + 40 := qc11
  obtain ⟨qc12, hc⟩ := zc1 hc
  have qc12 : (0 : Int) ≤ f + 0 := qc12
  obtain ⟨qc13, hc⟩ := zc1 hc
  have qc13 : f ≤ n + 0 := qc13
  obtain ⟨qc14, hc⟩ := zc1 hc
  have qc14 : (0 : Int) ≤ c + 0 := qc14
  obtain ⟨qc15, hc⟩ := zc1 hc
  have qc15 : c ≤ n + 0 := qc15
  obtain ⟨qc16, hc⟩ := zc1 hc
  have qc16 : d ≤ (0 : Int) + 2147483647 := qc16
  obtain ⟨qc17, hc⟩ := zc1 hc
  have qc17 : (0 : Int) ≤ d + 2147483648 := qc17
  obtain ⟨qc18, hc⟩ := zc1 hc
  have qc18 : h ≤ (0 : Int) + 9223372036854775807 := qc18
  obtain ⟨qc19, hc⟩ := zc1 hc
  have qc19 : (0 : Int) ≤ h + 9223372036854775808 := qc19
  have e1 := zm_25 hd (by omega) (by omega) (by omega) (by omega)
  have lo := zch_low (n := n.toNat) (f := f.toNat) (c := c.toNat) (by omega) (by omega) (by omega)
  have up := zch_le (n := n.toNat) (c := c.toNat) (by omega)
  have h0_ := h0.2
  have h1_ := h1.2
  rw [show d.toNat = n.toNat - f.toNat by omega, show c1.toNat = c.toNat by omega] at h1_
  have e2 := zm_21 hh (by omega) (by omega) (by omega) (by omega)
  have e3 : h = (zht n.toNat f.toNat c.toNat : Int) := by
    unfold zht
    omega
  refine ⟨_, List.mem_singleton.mpr rfl, fun cc hc => ?_, fun ff hg => ?_⟩
  · simp only [List.mem_cons, List.not_mem_nil, or_false] at hc
    rcases hc with rfl | rfl | rfl
    · show 0 ≤ h + 0
      omega
    · show h ≤ 0 + 1099511627776
      omega
    · show h ≤ w + 0
      omega
  · rw [List.mem_singleton.mp hg]
    exact (hD.1 183 (by decide) _ _ _).mpr ⟨zd_ty hD (by decide) p0, n, f, c, h, by simp, e3⟩
theorem rU118_ok (hD : zk_d2 D ua) : zr_okU D rU118 := by
  intro ty H Ls hT hp hc
  obtain ⟨l0, Ls', rfl, p0, hp⟩ := zr_cons hp
  obtain ⟨l1, Ls', rfl, p1, hp⟩ := zr_cons hp
  cases zr_nil hp
  obtain ⟨n, c, w, rfl, h0⟩ := zd_op hD (by decide) p0
  obtain ⟨n1, f, d, rfl, hd⟩ := zd_rec hD (by decide) p1
  obtain ⟨qc0, hc⟩ := zc1 hc
  have qc0 : n1 ≤ n + 0 := qc0
  obtain ⟨qc1, hc⟩ := zc1 hc
  have qc1 : n ≤ n1 + 0 := qc1
  obtain ⟨qc2, hc⟩ := zc1 hc
  have qc2 : d ≤ c + -1 := qc2
  obtain ⟨qc3, hc⟩ := zc1 hc
  have qc3 : (0 : Int) ≤ n + 0 := qc3
  obtain ⟨qc4, hc⟩ := zc1 hc
  have qc4 : n ≤ (0 : Int) + 40 := qc4
  obtain ⟨qc5, hc⟩ := zc1 hc
  have qc5 : (0 : Int) ≤ f + 0 := qc5
  obtain ⟨qc6, hc⟩ := zc1 hc
  have qc6 : f ≤ n + 0 := qc6
  obtain ⟨qc7, hc⟩ := zc1 hc
  have qc7 : (0 : Int) ≤ c + 0 := qc7
  obtain ⟨qc8, hc⟩ := zc1 hc
  have qc8 : c ≤ n + 0 := qc8
  obtain ⟨qc9, hc⟩ := zc1 hc
  have qc9 : d ≤ (0 : Int) + 2147483647 := qc9
  obtain ⟨qc10, hc⟩ := zc1 hc
  have qc10 : (0 : Int) ≤ d + 2147483648 := qc10
  refine ⟨_, List.mem_singleton.mpr rfl, fun cc hc => (by cases hc), fun ff hg => ?_⟩
  rw [List.mem_singleton.mp hg]
  have e1 := zm_25 hd (by omega) (by omega) (by omega) (by omega)
  refine (hD.1 183 (by decide) _ _ _).mpr ⟨zd_ty hD (by decide) p0, n, f, c, w, by simp, ?_⟩
  have e2 : zch (n.toNat - f.toNat) c.toNat = 0 := by
    unfold zch
    rw [if_neg (by omega)]
  unfold zht
  rw [e2]
  have := h0.2
  omega
theorem rU119_ok (hD : zk_d2 D ua) : zr_okU D rU119 := by
  intro ty H Ls hT hp hc
  obtain ⟨l0, Ls', rfl, p0, hp⟩ := zr_cons hp
  obtain ⟨l1, Ls', rfl, p1, hp⟩ := zr_cons hp
  obtain ⟨l2, Ls', rfl, p2, hp⟩ := zr_cons hp
  obtain ⟨l3, Ls', rfl, p3, hp⟩ := zr_cons hp
  cases zr_nil hp
  obtain ⟨n, f, c, h, rfl, h0⟩ := zd_op hD (by decide) p0
  obtain ⟨n2, c2, w, rfl, h1_⟩ := zd_op hD (by decide) p1
  obtain ⟨h1, w1, g, rfl, g0, g1⟩ := zd_op hD (by decide) p2
  obtain ⟨x, y, q, rfl, hq⟩ := zd_rec hD (by decide) p3
  obtain ⟨qc0, hc⟩ := zc1 hc
  have qc0 : h1 ≤ h + 0 := qc0
  obtain ⟨qc1, hc⟩ := zc1 hc
  have qc1 : h ≤ h1 + 0 := qc1
  obtain ⟨qc2, hc⟩ := zc1 hc
  have qc2 : w1 ≤ w + 0 := qc2
  obtain ⟨qc3, hc⟩ := zc1 hc
  have qc3 : w ≤ w1 + 0 := qc3
  obtain ⟨qc4, hc⟩ := zc1 hc
  have qc4 : n2 ≤ n + 0 := qc4
  obtain ⟨qc5, hc⟩ := zc1 hc
  have qc5 : n ≤ n2 + 0 := qc5
  obtain ⟨qc6, hc⟩ := zc1 hc
  have qc6 : c2 ≤ c + 0 := qc6
  obtain ⟨qc7, hc⟩ := zc1 hc
  have qc7 : c ≤ c2 + 0 := qc7
  obtain ⟨qc8, hc⟩ := zc1 hc
  have qc8 : (0 : Int) ≤ n + 0 := qc8
  obtain ⟨qc9, hc⟩ := zc1 hc
  have qc9 : n ≤ (0 : Int) + 40 := qc9
  obtain ⟨qc10, hc⟩ := zc1 hc
  have qc10 : (0 : Int) ≤ f + 0 := qc10
  obtain ⟨qc11, hc⟩ := zc1 hc
  have qc11 : f ≤ n + 0 := qc11
  obtain ⟨qc12, hc⟩ := zc1 hc
  have qc12 : (0 : Int) ≤ c + 0 := qc12
  obtain ⟨qc13, hc⟩ := zc1 hc
  have qc13 : c ≤ n + 0 := qc13
  obtain ⟨qc14, hc⟩ := zc1 hc
  have qc14 : x ≤ h + 0 := qc14
  obtain ⟨qc15, hc⟩ := zc1 hc
  have qc15 : h ≤ x + 0 := qc15
  obtain ⟨qc16, hc⟩ := zc1 hc
  have qc16 : y ≤ g + 0 := qc16
  obtain ⟨qc17, hc⟩ := zc1 hc
  have qc17 : g ≤ y + 0 := qc17
  obtain ⟨qc18, hc⟩ := zc1 hc
  have qc18 : q ≤ (0 : Int) + 9223372036854775807 := qc18
  obtain ⟨qc19, hc⟩ := zc1 hc
  have qc19 : (0 : Int) ≤ q + 9223372036854775808 := qc19
  refine ⟨_, List.mem_singleton.mpr rfl, fun cc hc => (by cases hc), fun ff hg => ?_⟩
  rw [List.mem_singleton.mp hg]
  have lo := zch_low (n := n.toNat) (f := f.toNat) (c := c.toNat) (by omega) (by omega) (by omega)
  have up := zch_le (n := n.toNat) (c := c.toNat) (by omega)
  have hw := h1_.2
  rw [show n2.toNat = n.toNat by omega, show c2.toNat = c.toNat by omega] at hw
  have hh : (zht n.toNat f.toNat c.toNat : Int) ≤ (zch n.toNat c.toNat : Int) := by
    unfold zht
    omega
  have eg : g = (zgq n.toNat f.toNat c.toNat : Int) := by
    have : zg h1 w1 = zgq n.toNat f.toNat c.toNat := by
      unfold zg zgq
      rw [show h1.toNat = zht n.toNat f.toNat c.toNat by omega, show w1.toNat = zch n.toNat c.toNat by omega]
      exact Nat.gcd_comm _ _
    omega
  have gp := zgq_pos (n := n.toNat) (f := f.toNat) (c := c.toNat) (by omega) (by omega)
  have gl : zgq n.toNat f.toNat c.toNat ≤ zch n.toNat c.toNat := Nat.le_of_dvd (zch_pos (by omega) (by omega)) (Nat.gcd_dvd_right _ _)
  have e3 := zm_23 hq (by omega) (by omega) (by omega) (by omega) (by omega) (by omega)
  refine (hD.1 191 (by decide) _ _ _).mpr ⟨zd_ty hD (by decide) p0, n, f, c, q, by simp, ?_⟩
  rw [Int.natCast_ediv, e3, show y = (zgq n.toNat f.toNat c.toNat : Int) by omega, show x = (zht n.toNat f.toNat c.toNat : Int) by omega]
theorem rU120_ok (hD : zk_d2 D ua) : zr_okU D rU120 := by
  intro ty H Ls hT hp hc
  obtain ⟨l0, Ls', rfl, p0, hp⟩ := zr_cons hp
  obtain ⟨l1, Ls', rfl, p1, hp⟩ := zr_cons hp
  obtain ⟨l2, Ls', rfl, p2, hp⟩ := zr_cons hp
  obtain ⟨l3, Ls', rfl, p3, hp⟩ := zr_cons hp
  cases zr_nil hp
  obtain ⟨n, f, c, h, rfl, h0⟩ := zd_op hD (by decide) p0
  obtain ⟨n2, c2, w, rfl, h1_⟩ := zd_op hD (by decide) p1
  obtain ⟨h1, w1, g, rfl, g0, g1⟩ := zd_op hD (by decide) p2
  obtain ⟨x, y, q, rfl, hq⟩ := zd_rec hD (by decide) p3
  obtain ⟨qc0, hc⟩ := zc1 hc
  have qc0 : h1 ≤ h + 0 := qc0
  obtain ⟨qc1, hc⟩ := zc1 hc
  have qc1 : h ≤ h1 + 0 := qc1
  obtain ⟨qc2, hc⟩ := zc1 hc
  have qc2 : w1 ≤ w + 0 := qc2
  obtain ⟨qc3, hc⟩ := zc1 hc
  have qc3 : w ≤ w1 + 0 := qc3
  obtain ⟨qc4, hc⟩ := zc1 hc
  have qc4 : n2 ≤ n + 0 := qc4
  obtain ⟨qc5, hc⟩ := zc1 hc
  have qc5 : n ≤ n2 + 0 := qc5
  obtain ⟨qc6, hc⟩ := zc1 hc
  have qc6 : c2 ≤ c + 0 := qc6
  obtain ⟨qc7, hc⟩ := zc1 hc
  have qc7 : c ≤ c2 + 0 := qc7
  obtain ⟨qc8, hc⟩ := zc1 hc
  have qc8 : (0 : Int) ≤ n + 0 := qc8
  obtain ⟨qc9, hc⟩ := zc1 hc
  have qc9 : n ≤ (0 : Int) + 40 := qc9
  obtain ⟨qc10, hc⟩ := zc1 hc
  have qc10 : (0 : Int) ≤ f + 0 := qc10
  obtain ⟨qc11, hc⟩ := zc1 hc
  have qc11 : f ≤ n + 0 := qc11
  obtain ⟨qc12, hc⟩ := zc1 hc
  have qc12 : (0 : Int) ≤ c + 0 := qc12
  obtain ⟨qc13, hc⟩ := zc1 hc
  have qc13 : c ≤ n + 0 := qc13
  obtain ⟨qc14, hc⟩ := zc1 hc
  have qc14 : x ≤ w + 0 := qc14
  obtain ⟨qc15, hc⟩ := zc1 hc
  have qc15 : w ≤ x + 0 := qc15
  obtain ⟨qc16, hc⟩ := zc1 hc
  have qc16 : y ≤ g + 0 := qc16
  obtain ⟨qc17, hc⟩ := zc1 hc
  have qc17 : g ≤ y + 0 := qc17
  obtain ⟨qc18, hc⟩ := zc1 hc
  have qc18 : q ≤ (0 : Int) + 9223372036854775807 := qc18
  obtain ⟨qc19, hc⟩ := zc1 hc
  have qc19 : (0 : Int) ≤ q + 9223372036854775808 := qc19
  refine ⟨_, List.mem_singleton.mpr rfl, fun cc hc => (by cases hc), fun ff hg => ?_⟩
  rw [List.mem_singleton.mp hg]
  have lo := zch_low (n := n.toNat) (f := f.toNat) (c := c.toNat) (by omega) (by omega) (by omega)
  have up := zch_le (n := n.toNat) (c := c.toNat) (by omega)
  have hw := h1_.2
  rw [show n2.toNat = n.toNat by omega, show c2.toNat = c.toNat by omega] at hw
  have hh : (zht n.toNat f.toNat c.toNat : Int) ≤ (zch n.toNat c.toNat : Int) := by
    unfold zht
    omega
  have eg : g = (zgq n.toNat f.toNat c.toNat : Int) := by
    have : zg h1 w1 = zgq n.toNat f.toNat c.toNat := by
      unfold zg zgq
      rw [show h1.toNat = zht n.toNat f.toNat c.toNat by omega, show w1.toNat = zch n.toNat c.toNat by omega]
      exact Nat.gcd_comm _ _
    omega
  have gp := zgq_pos (n := n.toNat) (f := f.toNat) (c := c.toNat) (by omega) (by omega)
  have gl : zgq n.toNat f.toNat c.toNat ≤ zch n.toNat c.toNat := Nat.le_of_dvd (zch_pos (by omega) (by omega)) (Nat.gcd_dvd_right _ _)
  have e3 := zm_23 hq (by omega) (by omega) (by omega) (by omega) (by omega) (by omega)
  refine (hD.1 192 (by decide) _ _ _).mpr ⟨zd_ty hD (by decide) p0, n, f, c, q, by simp, ?_⟩
  rw [Int.natCast_ediv, e3, show y = (zgq n.toNat f.toNat c.toNat : Int) by omega, show x = (zch n.toNat c.toNat : Int) by omega]
theorem rU121_ok (hD : zk_d2 D ua) : zr_okU D rU121 := by
  intro ty H Ls hT hp hc
  obtain ⟨l0, Ls', rfl, p0, hp⟩ := zr_cons hp
  obtain ⟨l1, Ls', rfl, p1, hp⟩ := zr_cons hp
  obtain ⟨l2, Ls', rfl, p2, hp⟩ := zr_cons hp
  obtain ⟨l3, Ls', rfl, p3, hp⟩ := zr_cons hp
  cases zr_nil hp
  obtain ⟨n, f, c, h, rfl, h0⟩ := zd_op hD (by decide) p0
  obtain ⟨n2, c2, w, rfl, h1_⟩ := zd_op hD (by decide) p1
  obtain ⟨w1, h1, g, rfl, g0, g1⟩ := zd_op hD (by decide) p2
  obtain ⟨x, y, q, rfl, hq⟩ := zd_rec hD (by decide) p3
  obtain ⟨qc0, hc⟩ := zc1 hc
  have qc0 : h1 ≤ h + 0 := qc0
  obtain ⟨qc1, hc⟩ := zc1 hc
  have qc1 : h ≤ h1 + 0 := qc1
  obtain ⟨qc2, hc⟩ := zc1 hc
  have qc2 : w1 ≤ w + 0 := qc2
  obtain ⟨qc3, hc⟩ := zc1 hc
  have qc3 : w ≤ w1 + 0 := qc3
  obtain ⟨qc4, hc⟩ := zc1 hc
  have qc4 : n2 ≤ n + 0 := qc4
  obtain ⟨qc5, hc⟩ := zc1 hc
  have qc5 : n ≤ n2 + 0 := qc5
  obtain ⟨qc6, hc⟩ := zc1 hc
  have qc6 : c2 ≤ c + 0 := qc6
  obtain ⟨qc7, hc⟩ := zc1 hc
  have qc7 : c ≤ c2 + 0 := qc7
  obtain ⟨qc8, hc⟩ := zc1 hc
  have qc8 : (0 : Int) ≤ n + 0 := qc8
  obtain ⟨qc9, hc⟩ := zc1 hc
  have qc9 : n ≤ (0 : Int) + 40 := qc9
  obtain ⟨qc10, hc⟩ := zc1 hc
  have qc10 : (0 : Int) ≤ f + 0 := qc10
  obtain ⟨qc11, hc⟩ := zc1 hc
  have qc11 : f ≤ n + 0 := qc11
  obtain ⟨qc12, hc⟩ := zc1 hc
  have qc12 : (0 : Int) ≤ c + 0 := qc12
  obtain ⟨qc13, hc⟩ := zc1 hc
  have qc13 : c ≤ n + 0 := qc13
  obtain ⟨qc14, hc⟩ := zc1 hc
  have qc14 : x ≤ h + 0 := qc14
  obtain ⟨qc15, hc⟩ := zc1 hc
  have qc15 : h ≤ x + 0 := qc15
  obtain ⟨qc16, hc⟩ := zc1 hc
  have qc16 : y ≤ g + 0 := qc16
  obtain ⟨qc17, hc⟩ := zc1 hc
  have qc17 : g ≤ y + 0 := qc17
  obtain ⟨qc18, hc⟩ := zc1 hc
  have qc18 : q ≤ (0 : Int) + 9223372036854775807 := qc18
  obtain ⟨qc19, hc⟩ := zc1 hc
  have qc19 : (0 : Int) ≤ q + 9223372036854775808 := qc19
  refine ⟨_, List.mem_singleton.mpr rfl, fun cc hc => (by cases hc), fun ff hg => ?_⟩
  rw [List.mem_singleton.mp hg]
  have lo := zch_low (n := n.toNat) (f := f.toNat) (c := c.toNat) (by omega) (by omega) (by omega)
  have up := zch_le (n := n.toNat) (c := c.toNat) (by omega)
  have hw := h1_.2
  rw [show n2.toNat = n.toNat by omega, show c2.toNat = c.toNat by omega] at hw
  have hh : (zht n.toNat f.toNat c.toNat : Int) ≤ (zch n.toNat c.toNat : Int) := by
    unfold zht
    omega
  have eg : g = (zgq n.toNat f.toNat c.toNat : Int) := by
    have : zg w1 h1 = zgq n.toNat f.toNat c.toNat := by
      unfold zg zgq
      rw [show h1.toNat = zht n.toNat f.toNat c.toNat by omega, show w1.toNat = zch n.toNat c.toNat by omega]
    omega
  have gp := zgq_pos (n := n.toNat) (f := f.toNat) (c := c.toNat) (by omega) (by omega)
  have gl : zgq n.toNat f.toNat c.toNat ≤ zch n.toNat c.toNat := Nat.le_of_dvd (zch_pos (by omega) (by omega)) (Nat.gcd_dvd_right _ _)
  have e3 := zm_23 hq (by omega) (by omega) (by omega) (by omega) (by omega) (by omega)
  refine (hD.1 195 (by decide) _ _ _).mpr ⟨zd_ty hD (by decide) p0, n, f, c, q, by simp, ?_⟩
  rw [Int.natCast_ediv, e3, show y = (zgq n.toNat f.toNat c.toNat : Int) by omega, show x = (zht n.toNat f.toNat c.toNat : Int) by omega]
theorem rU122_ok (hD : zk_d2 D ua) : zr_okU D rU122 := by
  intro ty H Ls hT hp hc
  obtain ⟨l0, Ls', rfl, p0, hp⟩ := zr_cons hp
  obtain ⟨l1, Ls', rfl, p1, hp⟩ := zr_cons hp
  obtain ⟨l2, Ls', rfl, p2, hp⟩ := zr_cons hp
  obtain ⟨l3, Ls', rfl, p3, hp⟩ := zr_cons hp
  cases zr_nil hp
  obtain ⟨n, f, c, h, rfl, h0⟩ := zd_op hD (by decide) p0
  obtain ⟨n2, c2, w, rfl, h1_⟩ := zd_op hD (by decide) p1
  obtain ⟨w1, h1, g, rfl, g0, g1⟩ := zd_op hD (by decide) p2
  obtain ⟨x, y, q, rfl, hq⟩ := zd_rec hD (by decide) p3
  obtain ⟨qc0, hc⟩ := zc1 hc
  have qc0 : h1 ≤ h + 0 := qc0
  obtain ⟨qc1, hc⟩ := zc1 hc
  have qc1 : h ≤ h1 + 0 := qc1
  obtain ⟨qc2, hc⟩ := zc1 hc
  have qc2 : w1 ≤ w + 0 := qc2
  obtain ⟨qc3, hc⟩ := zc1 hc
  have qc3 : w ≤ w1 + 0 := qc3
  obtain ⟨qc4, hc⟩ := zc1 hc
  have qc4 : n2 ≤ n + 0 := qc4
  obtain ⟨qc5, hc⟩ := zc1 hc
  have qc5 : n ≤ n2 + 0 := qc5
  obtain ⟨qc6, hc⟩ := zc1 hc
  have qc6 : c2 ≤ c + 0 := qc6
  obtain ⟨qc7, hc⟩ := zc1 hc
  have qc7 : c ≤ c2 + 0 := qc7
  obtain ⟨qc8, hc⟩ := zc1 hc
  have qc8 : (0 : Int) ≤ n + 0 := qc8
  obtain ⟨qc9, hc⟩ := zc1 hc
  have qc9 : n ≤ (0 : Int) + 40 := qc9
  obtain ⟨qc10, hc⟩ := zc1 hc
  have qc10 : (0 : Int) ≤ f + 0 := qc10
  obtain ⟨qc11, hc⟩ := zc1 hc
  have qc11 : f ≤ n + 0 := qc11
  obtain ⟨qc12, hc⟩ := zc1 hc
  have qc12 : (0 : Int) ≤ c + 0 := qc12
  obtain ⟨qc13, hc⟩ := zc1 hc
  have qc13 : c ≤ n + 0 := qc13
  obtain ⟨qc14, hc⟩ := zc1 hc
  have qc14 : x ≤ w + 0 := qc14
  obtain ⟨qc15, hc⟩ := zc1 hc
  have qc15 : w ≤ x + 0 := qc15
  obtain ⟨qc16, hc⟩ := zc1 hc
  have qc16 : y ≤ g + 0 := qc16
  obtain ⟨qc17, hc⟩ := zc1 hc
  have qc17 : g ≤ y + 0 := qc17
  obtain ⟨qc18, hc⟩ := zc1 hc
  have qc18 : q ≤ (0 : Int) + 9223372036854775807 := qc18
  obtain ⟨qc19, hc⟩ := zc1 hc
  have qc19 : (0 : Int) ≤ q + 9223372036854775808 := qc19
  refine ⟨_, List.mem_singleton.mpr rfl, fun cc hc => (by cases hc), fun ff hg => ?_⟩
  rw [List.mem_singleton.mp hg]
  have lo := zch_low (n := n.toNat) (f := f.toNat) (c := c.toNat) (by omega) (by omega) (by omega)
  have up := zch_le (n := n.toNat) (c := c.toNat) (by omega)
  have hw := h1_.2
  rw [show n2.toNat = n.toNat by omega, show c2.toNat = c.toNat by omega] at hw
  have hh : (zht n.toNat f.toNat c.toNat : Int) ≤ (zch n.toNat c.toNat : Int) := by
    unfold zht
    omega
  have eg : g = (zgq n.toNat f.toNat c.toNat : Int) := by
    have : zg w1 h1 = zgq n.toNat f.toNat c.toNat := by
      unfold zg zgq
      rw [show h1.toNat = zht n.toNat f.toNat c.toNat by omega, show w1.toNat = zch n.toNat c.toNat by omega]
    omega
  have gp := zgq_pos (n := n.toNat) (f := f.toNat) (c := c.toNat) (by omega) (by omega)
  have gl : zgq n.toNat f.toNat c.toNat ≤ zch n.toNat c.toNat := Nat.le_of_dvd (zch_pos (by omega) (by omega)) (Nat.gcd_dvd_right _ _)
  have e3 := zm_23 hq (by omega) (by omega) (by omega) (by omega) (by omega) (by omega)
  refine (hD.1 196 (by decide) _ _ _).mpr ⟨zd_ty hD (by decide) p0, n, f, c, q, by simp, ?_⟩
  rw [Int.natCast_ediv, e3, show y = (zgq n.toNat f.toNat c.toNat : Int) by omega, show x = (zch n.toNat c.toNat : Int) by omega]
theorem rU125_ok (hD : zk_d2 D ua) : zr_okU D rU125 := by
  intro ty H Ls hT hp hc
  obtain ⟨l0, Ls', rfl, p0, hp⟩ := zr_cons hp
  cases zr_nil hp
  obtain ⟨u, v, g, rfl, g0, g1⟩ := zd_op hD (by decide) p0
  obtain ⟨qc0, hc⟩ := zc1 hc
  have qc0 : (0 : Int) ≤ v + -1 := qc0
  refine ⟨_, List.mem_singleton.mpr rfl, fun c hc => ?_, fun f hf => (by cases hf)⟩
  rw [List.mem_singleton.mp hc]
  show 0 ≤ g + -1
  have : 0 < zg u v := Nat.gcd_pos_of_pos_left _ (by omega)
  omega
theorem rU123_ok (hD : zk_d2 D ua) : zr_okU D rU123 := by
  intro ty H Ls hT hp hc
  obtain ⟨l0, Ls', rfl, p0, hp⟩ := zr_cons hp
  obtain ⟨l1, Ls', rfl, p1, hp⟩ := zr_cons hp
  cases zr_nil hp
  obtain ⟨n, f, c, q, rfl, h0⟩ := zd_op hD (by decide) p0
  obtain ⟨n1, f1, c1, q1, rfl, h1⟩ := zd_op hD (by decide) p1
  obtain ⟨qc0, hc⟩ := zc1 hc
  have qc0 : n1 ≤ n + 0 := qc0
  obtain ⟨qc1, hc⟩ := zc1 hc
  have qc1 : n ≤ n1 + 0 := qc1
  obtain ⟨qc2, hc⟩ := zc1 hc
  have qc2 : f1 ≤ f + 0 := qc2
  obtain ⟨qc3, hc⟩ := zc1 hc
  have qc3 : f ≤ f1 + 0 := qc3
  obtain ⟨qc4, hc⟩ := zc1 hc
  have qc4 : c1 ≤ c + 0 := qc4
  obtain ⟨qc5, hc⟩ := zc1 hc
  have qc5 : c ≤ c1 + 0 := qc5
  refine ⟨_, List.mem_singleton.mpr rfl, fun cc hc => ?_, fun ff hg => (by cases hg)⟩
  rw [show n1 = n by omega, show f1 = f by omega, show c1 = c by omega] at h1
  simp only [List.mem_cons, List.not_mem_nil, or_false] at hc
  rcases hc with rfl | rfl
  · show q ≤ q1 + 0
    omega
  · show q1 ≤ q + 0
    omega
theorem rU124_ok (hD : zk_d2 D ua) : zr_okU D rU124 := by
  intro ty H Ls hT hp hc
  obtain ⟨l0, Ls', rfl, p0, hp⟩ := zr_cons hp
  obtain ⟨l1, Ls', rfl, p1, hp⟩ := zr_cons hp
  cases zr_nil hp
  obtain ⟨n, f, c, q, rfl, h0⟩ := zd_op hD (by decide) p0
  obtain ⟨n1, f1, c1, q1, rfl, h1⟩ := zd_op hD (by decide) p1
  obtain ⟨qc0, hc⟩ := zc1 hc
  have qc0 : n1 ≤ n + 0 := qc0
  obtain ⟨qc1, hc⟩ := zc1 hc
  have qc1 : n ≤ n1 + 0 := qc1
  obtain ⟨qc2, hc⟩ := zc1 hc
  have qc2 : f1 ≤ f + 0 := qc2
  obtain ⟨qc3, hc⟩ := zc1 hc
  have qc3 : f ≤ f1 + 0 := qc3
  obtain ⟨qc4, hc⟩ := zc1 hc
  have qc4 : c1 ≤ c + 0 := qc4
  obtain ⟨qc5, hc⟩ := zc1 hc
  have qc5 : c ≤ c1 + 0 := qc5
  refine ⟨_, List.mem_singleton.mpr rfl, fun cc hc => ?_, fun ff hg => (by cases hg)⟩
  rw [show n1 = n by omega, show f1 = f by omega, show c1 = c by omega] at h1
  simp only [List.mem_cons, List.not_mem_nil, or_false] at hc
  rcases hc with rfl | rfl
  · show q ≤ q1 + 0
    omega
  · show q1 ≤ q + 0
    omega
theorem rU126_ok (hD : zk_d2 D ua) : zr_okU D rU126 := by
  intro ty H Ls hT hp hc
  obtain ⟨l0, Ls', rfl, p0, hp⟩ := zr_cons hp
  obtain ⟨l1, Ls', rfl, p1, hp⟩ := zr_cons hp
  obtain ⟨l2, Ls', rfl, p2, hp⟩ := zr_cons hp
  obtain ⟨l3, Ls', rfl, p3, hp⟩ := zr_cons hp
  obtain ⟨l4, Ls', rfl, p4, hp⟩ := zr_cons hp
  cases zr_nil hp
  obtain ⟨rfl, -⟩ := zd_op hD (by decide) p0
  obtain ⟨n, rfl⟩ := zd_loc p1
  obtain ⟨f, rfl⟩ := zd_loc p2
  obtain ⟨a, rfl⟩ := zd_loc p3
  obtain ⟨b, rfl⟩ := zd_loc p4
  refine ⟨_, List.mem_singleton.mpr rfl, fun cc hc => (by cases hc), fun ff hg => ?_⟩
  rw [List.mem_singleton.mp hg]
  exact (hD.1 193 (by decide) _ _ _).mpr ⟨zd_ty hD (by decide) p0, n, f, a, b, 0, by simp, fun x hx => by omega⟩
theorem rU127_ok (hD : zk_d2 D ua) : zr_okU D rU127 := by
  intro ty H Ls hT hp hc
  obtain ⟨l0, Ls', rfl, p0, hp⟩ := zr_cons hp
  obtain ⟨l1, Ls', rfl, p1, hp⟩ := zr_cons hp
  obtain ⟨l2, Ls', rfl, p2, hp⟩ := zr_cons hp
  obtain ⟨l3, Ls', rfl, p3, hp⟩ := zr_cons hp
  obtain ⟨l4, Ls', rfl, p4, hp⟩ := zr_cons hp
  cases zr_nil hp
  obtain ⟨n, f, a, b, c, rfl, h0⟩ := zd_op hD (by decide) p0
  obtain ⟨n1, f1, c1, h, rfl, h1⟩ := zd_op hD (by decide) p1
  obtain ⟨n2, c2, w, rfl, h2⟩ := zd_op hD (by decide) p2
  obtain ⟨x1, x2, z1, rfl, hz1⟩ := zd_rec hD (by decide) p3
  obtain ⟨y1, y2, z2, rfl, hz2⟩ := zd_rec hD (by decide) p4
  obtain ⟨qc0, hc⟩ := zc1 hc
  have qc0 : n1 ≤ n + 0 := qc0
  obtain ⟨qc1, hc⟩ := zc1 hc
  have qc1 : n ≤ n1 + 0 := qc1
  obtain ⟨qc2, hc⟩ := zc1 hc
  have qc2 : f1 ≤ f + 0 := qc2
  obtain ⟨qc3, hc⟩ := zc1 hc
  have qc3 : f ≤ f1 + 0 := qc3
  obtain ⟨qc4, hc⟩ := zc1 hc
  have qc4 : c1 ≤ c + 0 := qc4
  obtain ⟨qc5, hc⟩ := zc1 hc
  have qc5 : c ≤ c1 + 0 := qc5
  obtain ⟨qc6, hc⟩ := zc1 hc
  have qc6 : n2 ≤ n + 0 := qc6
  obtain ⟨qc7, hc⟩ := zc1 hc
  have qc7 : n ≤ n2 + 0 := qc7
  obtain ⟨qc8, hc⟩ := zc1 hc
  have qc8 : c2 ≤ c + 0 := qc8
  obtain ⟨qc9, hc⟩ := zc1 hc
  have qc9 : c ≤ c2 + 0 := qc9
  obtain ⟨qc10, hc⟩ := zc1 hc
  have qc10 : x1 ≤ h + 0 := qc10
  obtain ⟨qc11, hc⟩ := zc1 hc
  have qc11 : h ≤ x1 + 0 := qc11
  obtain ⟨qc12, hc⟩ := zc1 hc
  have qc12 : x2 ≤ b + 0 := qc12
  obtain ⟨qc13, hc⟩ := zc1 hc
  have qc13 : b ≤ x2 + 0 := qc13
  obtain ⟨qc14, hc⟩ := zc1 hc
  have qc14 : y1 ≤ w + 0 := qc14
  obtain ⟨qc15, hc⟩ := zc1 hc
  have qc15 : w ≤ y1 + 0 := qc15
  obtain ⟨qc16, hc⟩ := zc1 hc
  have qc16 : y2 ≤ a + 0 := qc16
  obtain ⟨qc17, hc⟩ := zc1 hc
  have qc17 : a ≤ y2 + 0 := qc17
  obtain ⟨qc18, hc⟩ := zc1 hc
  have qc18 : (0 : Int) ≤ n + 0 := qc18
  obtain ⟨qc19, hc⟩ := zc1 hc
  have qc19 : n ≤ (0 : Int) + 40 := qc19
  obtain ⟨qc20, hc⟩ := zc1 hc
  have qc20 : (0 : Int) ≤ f + 0 := qc20
  obtain ⟨qc21, hc⟩ := zc1 hc
  have qc21 : f ≤ n + 0 := qc21
  obtain ⟨qc22, hc⟩ := zc1 hc
  have qc22 : (0 : Int) ≤ c + 0 := qc22
  obtain ⟨qc23, hc⟩ := zc1 hc
  have qc23 : c ≤ n + 0 := qc23
  obtain ⟨qc24, hc⟩ := zc1 hc
  have qc24 : (0 : Int) ≤ b + -1 := qc24
  obtain ⟨qc25, hc⟩ := zc1 hc
  have qc25 : b ≤ (0 : Int) + 10000 := qc25
  obtain ⟨qc26, hc⟩ := zc1 hc
  have qc26 : (0 : Int) ≤ a + 0 := qc26
  obtain ⟨qc27, hc⟩ := zc1 hc
  have qc27 : a ≤ b + 0 := qc27
  obtain ⟨qc28, hc⟩ := zc1 hc
  have qc28 : z1 ≤ (0 : Int) + 9223372036854775807 := qc28
  obtain ⟨qc29, hc⟩ := zc1 hc
  have qc29 : (0 : Int) ≤ z1 + 9223372036854775808 := qc29
  obtain ⟨qc30, hc⟩ := zc1 hc
  have qc30 : z2 ≤ (0 : Int) + 9223372036854775807 := qc30
  obtain ⟨qc31, hc⟩ := zc1 hc
  have qc31 : (0 : Int) ≤ z2 + 9223372036854775808 := qc31
  obtain ⟨qc32, hc⟩ := zc1 hc
  have qc32 : z1 ≤ z2 + -1 := qc32
  refine ⟨_, List.mem_singleton.mpr rfl, fun cc hc => (by cases hc), fun ff hg => ?_⟩
  rw [List.mem_singleton.mp hg]
  have lo := zch_low (n := n.toNat) (f := f.toNat) (c := c.toNat) (by omega) (by omega) (by omega)
  have up := zch_le (n := n.toNat) (c := c.toNat) (by omega)
  rw [show n1 = n by omega, show f1 = f by omega, show c1 = c by omega] at h1
  have hw := h2.2
  rw [show n2 = n by omega, show c2 = c by omega] at hw
  have hh : (zht n.toNat f.toNat c.toNat : Int) ≤ (zch n.toNat c.toNat : Int) := by
    unfold zht
    omega
  have p1 := Int.mul_le_mul (show h ≤ 1099511627776 by omega) (show b ≤ 10000 by omega) (by omega) (by omega)
  have p2 := Int.mul_nonneg (show 0 ≤ h by omega) (show 0 ≤ b by omega)
  have p3 := Int.mul_le_mul (show w ≤ 1099511627776 by omega) (show a ≤ 10000 by omega) (by omega) (by omega)
  have p4 := Int.mul_nonneg (show 0 ≤ w by omega) (show 0 ≤ a by omega)
  rw [show x1 = h by omega, show x2 = b by omega] at hz1
  rw [show y1 = w by omega, show y2 = a by omega] at hz2
  have e1 := zm_22 hz1 (by omega) (by omega) (by omega) (by omega)
  have e2 := zm_22 hz2 (by omega) (by omega) (by omega) (by omega)
  have hs : zsat n f a b c.toNat ↔ w * a ≤ h * b := by
    unfold zsat
    rw [← h1, ← hw]
  refine (hD.1 193 (by decide) _ _ _).mpr ⟨zd_ty hD (by decide) p0, n, f, a, b, c + 1, by simp, fun x hx => ?_⟩
  by_cases e : (x : Int) < c
  · exact h0 x e
  · rw [show x = c.toNat by omega, hs]
    omega
theorem rU128_ok (hD : zk_d2 D ua) : zr_okU D rU128 := by
  intro ty H Ls hT hp hc
  obtain ⟨l0, Ls', rfl, p0, hp⟩ := zr_cons hp
  obtain ⟨l1, Ls', rfl, p1, hp⟩ := zr_cons hp
  obtain ⟨l2, Ls', rfl, p2, hp⟩ := zr_cons hp
  obtain ⟨l3, Ls', rfl, p3, hp⟩ := zr_cons hp
  obtain ⟨l4, Ls', rfl, p4, hp⟩ := zr_cons hp
  cases zr_nil hp
  obtain ⟨n, f, a, b, c, rfl, h0⟩ := zd_op hD (by decide) p0
  obtain ⟨n1, f1, c1, h, rfl, h1⟩ := zd_op hD (by decide) p1
  obtain ⟨n2, c2, w, rfl, h2⟩ := zd_op hD (by decide) p2
  obtain ⟨x1, x2, z1, rfl, hz1⟩ := zd_rec hD (by decide) p3
  obtain ⟨y1, y2, z2, rfl, hz2⟩ := zd_rec hD (by decide) p4
  obtain ⟨qc0, hc⟩ := zc1 hc
  have qc0 : n1 ≤ n + 0 := qc0
  obtain ⟨qc1, hc⟩ := zc1 hc
  have qc1 : n ≤ n1 + 0 := qc1
  obtain ⟨qc2, hc⟩ := zc1 hc
  have qc2 : f1 ≤ f + 0 := qc2
  obtain ⟨qc3, hc⟩ := zc1 hc
  have qc3 : f ≤ f1 + 0 := qc3
  obtain ⟨qc4, hc⟩ := zc1 hc
  have qc4 : c1 ≤ c + 0 := qc4
  obtain ⟨qc5, hc⟩ := zc1 hc
  have qc5 : c ≤ c1 + 0 := qc5
  obtain ⟨qc6, hc⟩ := zc1 hc
  have qc6 : n2 ≤ n + 0 := qc6
  obtain ⟨qc7, hc⟩ := zc1 hc
  have qc7 : n ≤ n2 + 0 := qc7
  obtain ⟨qc8, hc⟩ := zc1 hc
  have qc8 : c2 ≤ c + 0 := qc8
  obtain ⟨qc9, hc⟩ := zc1 hc
  have qc9 : c ≤ c2 + 0 := qc9
  obtain ⟨qc10, hc⟩ := zc1 hc
  have qc10 : x1 ≤ h + 0 := qc10
  obtain ⟨qc11, hc⟩ := zc1 hc
  have qc11 : h ≤ x1 + 0 := qc11
  obtain ⟨qc12, hc⟩ := zc1 hc
  have qc12 : x2 ≤ b + 0 := qc12
  obtain ⟨qc13, hc⟩ := zc1 hc
  have qc13 : b ≤ x2 + 0 := qc13
  obtain ⟨qc14, hc⟩ := zc1 hc
  have qc14 : y1 ≤ w + 0 := qc14
  obtain ⟨qc15, hc⟩ := zc1 hc
  have qc15 : w ≤ y1 + 0 := qc15
  obtain ⟨qc16, hc⟩ := zc1 hc
  have qc16 : y2 ≤ a + 0 := qc16
  obtain ⟨qc17, hc⟩ := zc1 hc
  have qc17 : a ≤ y2 + 0 := qc17
  obtain ⟨qc18, hc⟩ := zc1 hc
  have qc18 : (0 : Int) ≤ n + 0 := qc18
  obtain ⟨qc19, hc⟩ := zc1 hc
  have qc19 : n ≤ (0 : Int) + 40 := qc19
  obtain ⟨qc20, hc⟩ := zc1 hc
  have qc20 : (0 : Int) ≤ f + 0 := qc20
  obtain ⟨qc21, hc⟩ := zc1 hc
  have qc21 : f ≤ n + 0 := qc21
  obtain ⟨qc22, hc⟩ := zc1 hc
  have qc22 : (0 : Int) ≤ c + 0 := qc22
  obtain ⟨qc23, hc⟩ := zc1 hc
  have qc23 : c ≤ n + 0 := qc23
  obtain ⟨qc24, hc⟩ := zc1 hc
  have qc24 : (0 : Int) ≤ b + -1 := qc24
  obtain ⟨qc25, hc⟩ := zc1 hc
  have qc25 : b ≤ (0 : Int) + 10000 := qc25
  obtain ⟨qc26, hc⟩ := zc1 hc
  have qc26 : (0 : Int) ≤ a + 0 := qc26
  obtain ⟨qc27, hc⟩ := zc1 hc
  have qc27 : a ≤ b + 0 := qc27
  obtain ⟨qc28, hc⟩ := zc1 hc
  have qc28 : z1 ≤ (0 : Int) + 9223372036854775807 := qc28
  obtain ⟨qc29, hc⟩ := zc1 hc
  have qc29 : (0 : Int) ≤ z1 + 9223372036854775808 := qc29
  obtain ⟨qc30, hc⟩ := zc1 hc
  have qc30 : z2 ≤ (0 : Int) + 9223372036854775807 := qc30
  obtain ⟨qc31, hc⟩ := zc1 hc
  have qc31 : (0 : Int) ≤ z2 + 9223372036854775808 := qc31
  obtain ⟨qc32, hc⟩ := zc1 hc
  have qc32 : z2 ≤ z1 + 0 := qc32
  refine ⟨_, List.mem_singleton.mpr rfl, fun cc hc => (by cases hc), fun ff hg => ?_⟩
  rw [List.mem_singleton.mp hg]
  have lo := zch_low (n := n.toNat) (f := f.toNat) (c := c.toNat) (by omega) (by omega) (by omega)
  have up := zch_le (n := n.toNat) (c := c.toNat) (by omega)
  rw [show n1 = n by omega, show f1 = f by omega, show c1 = c by omega] at h1
  have hw := h2.2
  rw [show n2 = n by omega, show c2 = c by omega] at hw
  have hh : (zht n.toNat f.toNat c.toNat : Int) ≤ (zch n.toNat c.toNat : Int) := by
    unfold zht
    omega
  have p1 := Int.mul_le_mul (show h ≤ 1099511627776 by omega) (show b ≤ 10000 by omega) (by omega) (by omega)
  have p2 := Int.mul_nonneg (show 0 ≤ h by omega) (show 0 ≤ b by omega)
  have p3 := Int.mul_le_mul (show w ≤ 1099511627776 by omega) (show a ≤ 10000 by omega) (by omega) (by omega)
  have p4 := Int.mul_nonneg (show 0 ≤ w by omega) (show 0 ≤ a by omega)
  rw [show x1 = h by omega, show x2 = b by omega] at hz1
  rw [show y1 = w by omega, show y2 = a by omega] at hz2
  have e1 := zm_22 hz1 (by omega) (by omega) (by omega) (by omega)
  have e2 := zm_22 hz2 (by omega) (by omega) (by omega) (by omega)
  have hs : zsat n f a b c.toNat ↔ w * a ≤ h * b := by
    unfold zsat
    rw [← h1, ← hw]
  exact (hD.1 194 (by decide) _ _ _).mpr ⟨zd_ty hD (by decide) p0, n, f, a, b, c, by simp, ⟨by omega, by omega⟩, hs.mpr (by omega), h0⟩
theorem rU129_ok (hD : zk_d2 D ua) : zr_okU D rU129 := by
  intro ty H Ls hT hp hc
  obtain ⟨l0, Ls', rfl, p0, hp⟩ := zr_cons hp
  cases zr_nil hp
  obtain ⟨n, f, a, b, c, rfl, h0⟩ := zd_op hD (by decide) p0
  obtain ⟨qc0, hc⟩ := zc1 hc
  have qc0 : n ≤ c + -1 := qc0
  refine ⟨_, List.mem_singleton.mpr rfl, fun cc hc => (by cases hc), fun ff hg => ?_⟩
  rw [List.mem_singleton.mp hg]
  exact (hD.1 199 (by decide) _ _ _).mpr ⟨zd_ty hD (by decide) p0, n, f, a, b, by simp, fun x hx => h0 x (by omega)⟩
theorem rU130_ok (hD : zk_d2 D ua) : zr_okU D rU130 := by
  intro ty H Ls hT hp hc
  obtain ⟨l0, Ls', rfl, p0, hp⟩ := zr_cons hp
  obtain ⟨l1, Ls', rfl, p1, hp⟩ := zr_cons hp
  obtain ⟨l2, Ls', rfl, p2, hp⟩ := zr_cons hp
  obtain ⟨l3, Ls', rfl, p3, hp⟩ := zr_cons hp
  obtain ⟨l4, Ls', rfl, p4, hp⟩ := zr_cons hp
  cases zr_nil hp
  obtain ⟨n, f, a, b, c, rfl, h0⟩ := zd_op hD (by decide) p0
  obtain ⟨n1, f1, c1, h, rfl, h1⟩ := zd_op hD (by decide) p1
  obtain ⟨n2, f2, c2, w, rfl, h2⟩ := zd_op hD (by decide) p2
  obtain ⟨x1, x2, z1, rfl, hz1⟩ := zd_rec hD (by decide) p3
  obtain ⟨y1, y2, z2, rfl, hz2⟩ := zd_rec hD (by decide) p4
  obtain ⟨qc0, hc⟩ := zc1 hc
  have qc0 : n1 ≤ n + 0 := qc0
  obtain ⟨qc1, hc⟩ := zc1 hc
  have qc1 : n ≤ n1 + 0 := qc1
  obtain ⟨qc2, hc⟩ := zc1 hc
  have qc2 : f1 ≤ f + 0 := qc2
  obtain ⟨qc3, hc⟩ := zc1 hc
  have qc3 : f ≤ f1 + 0 := qc3
  obtain ⟨qc4, hc⟩ := zc1 hc
  have qc4 : c1 ≤ c + 0 := qc4
  obtain ⟨qc5, hc⟩ := zc1 hc
  have qc5 : c ≤ c1 + 0 := qc5
  obtain ⟨qc6, hc⟩ := zc1 hc
  have qc6 : n2 ≤ n + 0 := qc6
  obtain ⟨qc7, hc⟩ := zc1 hc
  have qc7 : n ≤ n2 + 0 := qc7
  obtain ⟨qc8, hc⟩ := zc1 hc
  have qc8 : f2 ≤ f + 0 := qc8
  obtain ⟨qc9, hc⟩ := zc1 hc
  have qc9 : f ≤ f2 + 0 := qc9
  obtain ⟨qc10, hc⟩ := zc1 hc
  have qc10 : c2 ≤ c + 0 := qc10
  obtain ⟨qc11, hc⟩ := zc1 hc
  have qc11 : c ≤ c2 + 0 := qc11
  obtain ⟨qc12, hc⟩ := zc1 hc
  have qc12 : x1 ≤ h + 0 := qc12
  obtain ⟨qc13, hc⟩ := zc1 hc
  have qc13 : h ≤ x1 + 0 := qc13
  obtain ⟨qc14, hc⟩ := zc1 hc
  have qc14 : x2 ≤ b + 0 := qc14
  obtain ⟨qc15, hc⟩ := zc1 hc
  have qc15 : b ≤ x2 + 0 := qc15
  obtain ⟨qc16, hc⟩ := zc1 hc
  have qc16 : y1 ≤ a + 0 := qc16
  obtain ⟨qc17, hc⟩ := zc1 hc
  have qc17 : a ≤ y1 + 0 := qc17
  obtain ⟨qc18, hc⟩ := zc1 hc
  have qc18 : y2 ≤ w + 0 := qc18
  obtain ⟨qc19, hc⟩ := zc1 hc
  have qc19 : w ≤ y2 + 0 := qc19
  obtain ⟨qc20, hc⟩ := zc1 hc
  have qc20 : (0 : Int) ≤ n + 0 := qc20
  obtain ⟨qc21, hc⟩ := zc1 hc
  have qc21 : n ≤ (0 : Int) + 40 := qc21
  obtain ⟨qc22, hc⟩ := zc1 hc
  have qc22 : (0 : Int) ≤ f + 0 := qc22
  obtain ⟨qc23, hc⟩ := zc1 hc
  have qc23 : f ≤ n + 0 := qc23
  obtain ⟨qc24, hc⟩ := zc1 hc
  have qc24 : (0 : Int) ≤ c + 0 := qc24
  obtain ⟨qc25, hc⟩ := zc1 hc
  have qc25 : c ≤ n + 0 := qc25
  obtain ⟨qc26, hc⟩ := zc1 hc
  have qc26 : (0 : Int) ≤ b + -1 := qc26
  obtain ⟨qc27, hc⟩ := zc1 hc
  have qc27 : b ≤ (0 : Int) + 10000 := qc27
  obtain ⟨qc28, hc⟩ := zc1 hc
  have qc28 : (0 : Int) ≤ a + 0 := qc28
  obtain ⟨qc29, hc⟩ := zc1 hc
  have qc29 : a ≤ b + 0 := qc29
  obtain ⟨qc30, hc⟩ := zc1 hc
  have qc30 : z1 ≤ (0 : Int) + 9223372036854775807 := qc30
  obtain ⟨qc31, hc⟩ := zc1 hc
  have qc31 : (0 : Int) ≤ z1 + 9223372036854775808 := qc31
  obtain ⟨qc32, hc⟩ := zc1 hc
  have qc32 : z2 ≤ (0 : Int) + 9223372036854775807 := qc32
  obtain ⟨qc33, hc⟩ := zc1 hc
  have qc33 : (0 : Int) ≤ z2 + 9223372036854775808 := qc33
  obtain ⟨qc34, hc⟩ := zc1 hc
  have qc34 : z1 ≤ z2 + -1 := qc34
  refine ⟨_, List.mem_singleton.mpr rfl, fun cc hc => (by cases hc), fun ff hg => ?_⟩
  rw [List.mem_singleton.mp hg]
  have lo := zch_low (n := n.toNat) (f := f.toNat) (c := c.toNat) (by omega) (by omega) (by omega)
  have up := zch_le (n := n.toNat) (c := c.toNat) (by omega)
  rw [show n1 = n by omega, show f1 = f by omega, show c1 = c by omega] at h1
  rw [show n2 = n by omega, show f2 = f by omega, show c2 = c by omega] at h2
  have hh : zht n.toNat f.toNat c.toNat ≤ zch n.toNat c.toNat := by
    unfold zht
    omega
  have d1 := Nat.div_le_self (zht n.toNat f.toNat c.toNat) (zgq n.toNat f.toNat c.toNat)
  have d2 := Nat.div_le_self (zch n.toNat c.toNat) (zgq n.toNat f.toNat c.toNat)
  have hh0 : 0 ≤ h := by
    rw [h1]
    exact Int.natCast_nonneg _
  have hw0 : 0 ≤ w := by
    rw [h2]
    exact Int.natCast_nonneg _
  have p1 := Int.mul_le_mul (show h ≤ 1099511627776 by omega) (show b ≤ 10000 by omega) (by omega) (by omega)
  have p2 := Int.mul_nonneg (show 0 ≤ h by omega) (show 0 ≤ b by omega)
  have p3 := Int.mul_le_mul (show a ≤ 10000 by omega) (show w ≤ 1099511627776 by omega) (by omega) (by omega)
  have p4 := Int.mul_nonneg (show 0 ≤ a by omega) (show 0 ≤ w by omega)
  rw [show x1 = h by omega, show x2 = b by omega] at hz1
  rw [show y1 = a by omega, show y2 = w by omega] at hz2
  have e1 := zm_22 hz1 (by omega) (by omega) (by omega) (by omega)
  have e2 := zm_22 hz2 (by omega) (by omega) (by omega) (by omega)
  have hs : zsat n f a b c.toNat ↔ a * w ≤ h * b := by
    unfold zsat
    rw [zsat_q (zgq_pos (by omega) (by omega)), ← h1, ← h2]
  refine (hD.1 193 (by decide) _ _ _).mpr ⟨zd_ty hD (by decide) p0, n, f, a, b, c + 1, by simp, fun x hx => ?_⟩
  by_cases e : (x : Int) < c
  · exact h0 x e
  · rw [show x = c.toNat by omega, hs]
    omega
theorem rU131_ok (hD : zk_d2 D ua) : zr_okU D rU131 := by
  intro ty H Ls hT hp hc
  obtain ⟨l0, Ls', rfl, p0, hp⟩ := zr_cons hp
  obtain ⟨l1, Ls', rfl, p1, hp⟩ := zr_cons hp
  obtain ⟨l2, Ls', rfl, p2, hp⟩ := zr_cons hp
  obtain ⟨l3, Ls', rfl, p3, hp⟩ := zr_cons hp
  obtain ⟨l4, Ls', rfl, p4, hp⟩ := zr_cons hp
  cases zr_nil hp
  obtain ⟨n, f, a, b, c, rfl, h0⟩ := zd_op hD (by decide) p0
  obtain ⟨n1, f1, c1, h, rfl, h1⟩ := zd_op hD (by decide) p1
  obtain ⟨n2, f2, c2, w, rfl, h2⟩ := zd_op hD (by decide) p2
  obtain ⟨x1, x2, z1, rfl, hz1⟩ := zd_rec hD (by decide) p3
  obtain ⟨y1, y2, z2, rfl, hz2⟩ := zd_rec hD (by decide) p4
  obtain ⟨qc0, hc⟩ := zc1 hc
  have qc0 : n1 ≤ n + 0 := qc0
  obtain ⟨qc1, hc⟩ := zc1 hc
  have qc1 : n ≤ n1 + 0 := qc1
  obtain ⟨qc2, hc⟩ := zc1 hc
  have qc2 : f1 ≤ f + 0 := qc2
  obtain ⟨qc3, hc⟩ := zc1 hc
  have qc3 : f ≤ f1 + 0 := qc3
  obtain ⟨qc4, hc⟩ := zc1 hc
  have qc4 : c1 ≤ c + 0 := qc4
  obtain ⟨qc5, hc⟩ := zc1 hc
  have qc5 : c ≤ c1 + 0 := qc5
  obtain ⟨qc6, hc⟩ := zc1 hc
  have qc6 : n2 ≤ n + 0 := qc6
  obtain ⟨qc7, hc⟩ := zc1 hc
  have qc7 : n ≤ n2 + 0 := qc7
  obtain ⟨qc8, hc⟩ := zc1 hc
  have qc8 : f2 ≤ f + 0 := qc8
  obtain ⟨qc9, hc⟩ := zc1 hc
  have qc9 : f ≤ f2 + 0 := qc9
  obtain ⟨qc10, hc⟩ := zc1 hc
  have qc10 : c2 ≤ c + 0 := qc10
  obtain ⟨qc11, hc⟩ := zc1 hc
  have qc11 : c ≤ c2 + 0 := qc11
  obtain ⟨qc12, hc⟩ := zc1 hc
  have qc12 : x1 ≤ h + 0 := qc12
  obtain ⟨qc13, hc⟩ := zc1 hc
  have qc13 : h ≤ x1 + 0 := qc13
  obtain ⟨qc14, hc⟩ := zc1 hc
  have qc14 : x2 ≤ b + 0 := qc14
  obtain ⟨qc15, hc⟩ := zc1 hc
  have qc15 : b ≤ x2 + 0 := qc15
  obtain ⟨qc16, hc⟩ := zc1 hc
  have qc16 : y1 ≤ a + 0 := qc16
  obtain ⟨qc17, hc⟩ := zc1 hc
  have qc17 : a ≤ y1 + 0 := qc17
  obtain ⟨qc18, hc⟩ := zc1 hc
  have qc18 : y2 ≤ w + 0 := qc18
  obtain ⟨qc19, hc⟩ := zc1 hc
  have qc19 : w ≤ y2 + 0 := qc19
  obtain ⟨qc20, hc⟩ := zc1 hc
  have qc20 : (0 : Int) ≤ n + 0 := qc20
  obtain ⟨qc21, hc⟩ := zc1 hc
  have qc21 : n ≤ (0 : Int) + 40 := qc21
  obtain ⟨qc22, hc⟩ := zc1 hc
  have qc22 : (0 : Int) ≤ f + 0 := qc22
  obtain ⟨qc23, hc⟩ := zc1 hc
  have qc23 : f ≤ n + 0 := qc23
  obtain ⟨qc24, hc⟩ := zc1 hc
  have qc24 : (0 : Int) ≤ c + 0 := qc24
  obtain ⟨qc25, hc⟩ := zc1 hc
  have qc25 : c ≤ n + 0 := qc25
  obtain ⟨qc26, hc⟩ := zc1 hc
  have qc26 : (0 : Int) ≤ b + -1 := qc26
  obtain ⟨qc27, hc⟩ := zc1 hc
  have qc27 : b ≤ (0 : Int) + 10000 := qc27
  obtain ⟨qc28, hc⟩ := zc1 hc
  have qc28 : (0 : Int) ≤ a + 0 := qc28
  obtain ⟨qc29, hc⟩ := zc1 hc
  have qc29 : a ≤ b + 0 := qc29
  obtain ⟨qc30, hc⟩ := zc1 hc
  have qc30 : z1 ≤ (0 : Int) + 9223372036854775807 := qc30
  obtain ⟨qc31, hc⟩ := zc1 hc
  have qc31 : (0 : Int) ≤ z1 + 9223372036854775808 := qc31
  obtain ⟨qc32, hc⟩ := zc1 hc
  have qc32 : z2 ≤ (0 : Int) + 9223372036854775807 := qc32
  obtain ⟨qc33, hc⟩ := zc1 hc
  have qc33 : (0 : Int) ≤ z2 + 9223372036854775808 := qc33
  obtain ⟨qc34, hc⟩ := zc1 hc
  have qc34 : z2 ≤ z1 + 0 := qc34
  refine ⟨_, List.mem_singleton.mpr rfl, fun cc hc => (by cases hc), fun ff hg => ?_⟩
  rw [List.mem_singleton.mp hg]
  have lo := zch_low (n := n.toNat) (f := f.toNat) (c := c.toNat) (by omega) (by omega) (by omega)
  have up := zch_le (n := n.toNat) (c := c.toNat) (by omega)
  rw [show n1 = n by omega, show f1 = f by omega, show c1 = c by omega] at h1
  rw [show n2 = n by omega, show f2 = f by omega, show c2 = c by omega] at h2
  have hh : zht n.toNat f.toNat c.toNat ≤ zch n.toNat c.toNat := by
    unfold zht
    omega
  have d1 := Nat.div_le_self (zht n.toNat f.toNat c.toNat) (zgq n.toNat f.toNat c.toNat)
  have d2 := Nat.div_le_self (zch n.toNat c.toNat) (zgq n.toNat f.toNat c.toNat)
  have hh0 : 0 ≤ h := by
    rw [h1]
    exact Int.natCast_nonneg _
  have hw0 : 0 ≤ w := by
    rw [h2]
    exact Int.natCast_nonneg _
  have p1 := Int.mul_le_mul (show h ≤ 1099511627776 by omega) (show b ≤ 10000 by omega) (by omega) (by omega)
  have p2 := Int.mul_nonneg (show 0 ≤ h by omega) (show 0 ≤ b by omega)
  have p3 := Int.mul_le_mul (show a ≤ 10000 by omega) (show w ≤ 1099511627776 by omega) (by omega) (by omega)
  have p4 := Int.mul_nonneg (show 0 ≤ a by omega) (show 0 ≤ w by omega)
  rw [show x1 = h by omega, show x2 = b by omega] at hz1
  rw [show y1 = a by omega, show y2 = w by omega] at hz2
  have e1 := zm_22 hz1 (by omega) (by omega) (by omega) (by omega)
  have e2 := zm_22 hz2 (by omega) (by omega) (by omega) (by omega)
  have hs : zsat n f a b c.toNat ↔ a * w ≤ h * b := by
    unfold zsat
    rw [zsat_q (zgq_pos (by omega) (by omega)), ← h1, ← h2]
  exact (hD.1 198 (by decide) _ _ _).mpr ⟨zd_ty hD (by decide) p0, n, f, a, b, c, by simp, ⟨by omega, by omega⟩, hs.mpr (by omega), h0⟩
theorem rU132_ok (hD : zk_d2 D ua) : zr_okU D rU132 := by
  intro ty H Ls hT hp hc
  obtain ⟨l0, Ls', rfl, p0, hp⟩ := zr_cons hp
  cases zr_nil hp
  obtain ⟨n, f, a, b, c, rfl, h0⟩ := zd_op hD (by decide) p0
  obtain ⟨qc0, hc⟩ := zc1 hc
  have qc0 : n ≤ c + -1 := qc0
  refine ⟨_, List.mem_singleton.mpr rfl, fun cc hc => (by cases hc), fun ff hg => ?_⟩
  rw [List.mem_singleton.mp hg]
  exact (hD.1 200 (by decide) _ _ _).mpr ⟨zd_ty hD (by decide) p0, n, f, a, b, by simp, fun x hx => h0 x (by omega)⟩
theorem rU133_ok (hD : zk_d2 D ua) : zr_okU D rU133 := by
  intro ty H Ls hT hp hc
  obtain ⟨l0, Ls', rfl, p0, hp⟩ := zr_cons hp
  obtain ⟨l1, Ls', rfl, p1, hp⟩ := zr_cons hp
  cases zr_nil hp
  obtain ⟨n, f, a, b, c, rfl, h0⟩ := zd_op hD (by decide) p0
  obtain ⟨n1, f1, a1, b1, c1, rfl, h1⟩ := zd_op hD (by decide) p1
  obtain ⟨qc0, hc⟩ := zc1 hc
  have qc0 : n1 ≤ n + 0 := qc0
  obtain ⟨qc1, hc⟩ := zc1 hc
  have qc1 : n ≤ n1 + 0 := qc1
  obtain ⟨qc2, hc⟩ := zc1 hc
  have qc2 : f1 ≤ f + 0 := qc2
  obtain ⟨qc3, hc⟩ := zc1 hc
  have qc3 : f ≤ f1 + 0 := qc3
  obtain ⟨qc4, hc⟩ := zc1 hc
  have qc4 : a1 ≤ a + 0 := qc4
  obtain ⟨qc5, hc⟩ := zc1 hc
  have qc5 : a ≤ a1 + 0 := qc5
  obtain ⟨qc6, hc⟩ := zc1 hc
  have qc6 : b1 ≤ b + 0 := qc6
  obtain ⟨qc7, hc⟩ := zc1 hc
  have qc7 : b ≤ b1 + 0 := qc7
  refine ⟨_, List.mem_singleton.mpr rfl, fun cc hc => ?_, fun ff hg => (by cases hg)⟩
  rw [show n1 = n by omega, show f1 = f by omega, show a1 = a by omega, show b1 = b by omega] at h1
  obtain ⟨⟨g1, g2⟩, g3, g4⟩ := h0
  obtain ⟨⟨k1, k2⟩, k3, k4⟩ := h1
  have e : c = c1 := by
    rcases Int.lt_trichotomy c c1 with h | h | h
    · exact absurd g3 (k4 c.toNat (by omega))
    · exact h
    · exact absurd k3 (g4 c1.toNat (by omega))
  simp only [List.mem_cons, List.not_mem_nil, or_false] at hc
  rcases hc with rfl | rfl
  · show c ≤ c1 + 0
    omega
  · show c1 ≤ c + 0
    omega
theorem rU134_ok (hD : zk_d2 D ua) : zr_okU D rU134 := by
  intro ty H Ls hT hp hc
  obtain ⟨l0, Ls', rfl, p0, hp⟩ := zr_cons hp
  obtain ⟨l1, Ls', rfl, p1, hp⟩ := zr_cons hp
  cases zr_nil hp
  obtain ⟨n, f, a, b, c, rfl, h0⟩ := zd_op hD (by decide) p0
  obtain ⟨n1, f1, a1, b1, rfl, h1⟩ := zd_op hD (by decide) p1
  obtain ⟨qc0, hc⟩ := zc1 hc
  have qc0 : n1 ≤ n + 0 := qc0
  obtain ⟨qc1, hc⟩ := zc1 hc
  have qc1 : n ≤ n1 + 0 := qc1
  obtain ⟨qc2, hc⟩ := zc1 hc
  have qc2 : f1 ≤ f + 0 := qc2
  obtain ⟨qc3, hc⟩ := zc1 hc
  have qc3 : f ≤ f1 + 0 := qc3
  obtain ⟨qc4, hc⟩ := zc1 hc
  have qc4 : a1 ≤ a + 0 := qc4
  obtain ⟨qc5, hc⟩ := zc1 hc
  have qc5 : a ≤ a1 + 0 := qc5
  obtain ⟨qc6, hc⟩ := zc1 hc
  have qc6 : b1 ≤ b + 0 := qc6
  obtain ⟨qc7, hc⟩ := zc1 hc
  have qc7 : b ≤ b1 + 0 := qc7
  exfalso
  rw [show n1 = n by omega, show f1 = f by omega, show a1 = a by omega, show b1 = b by omega] at h1
  exact h1 c.toNat (by omega) h0.2.1
theorem rU135_ok (hD : zk_d2 D ua) : zr_okU D rU135 := by
  intro ty H Ls hT hp hc
  obtain ⟨l0, Ls', rfl, p0, hp⟩ := zr_cons hp
  obtain ⟨l1, Ls', rfl, p1, hp⟩ := zr_cons hp
  cases zr_nil hp
  obtain ⟨n, f, a, b, rfl, h0⟩ := zd_op hD (by decide) p0
  obtain ⟨n1, f1, a1, b1, c1, rfl, h1⟩ := zd_op hD (by decide) p1
  obtain ⟨qc0, hc⟩ := zc1 hc
  have qc0 : n1 ≤ n + 0 := qc0
  obtain ⟨qc1, hc⟩ := zc1 hc
  have qc1 : n ≤ n1 + 0 := qc1
  obtain ⟨qc2, hc⟩ := zc1 hc
  have qc2 : f1 ≤ f + 0 := qc2
  obtain ⟨qc3, hc⟩ := zc1 hc
  have qc3 : f ≤ f1 + 0 := qc3
  obtain ⟨qc4, hc⟩ := zc1 hc
  have qc4 : a1 ≤ a + 0 := qc4
  obtain ⟨qc5, hc⟩ := zc1 hc
  have qc5 : a ≤ a1 + 0 := qc5
  obtain ⟨qc6, hc⟩ := zc1 hc
  have qc6 : b1 ≤ b + 0 := qc6
  obtain ⟨qc7, hc⟩ := zc1 hc
  have qc7 : b ≤ b1 + 0 := qc7
  exfalso
  rw [show n1 = n by omega, show f1 = f by omega, show a1 = a by omega, show b1 = b by omega] at h1
  exact h0 c1.toNat (by omega) h1.2.1
theorem zRS_ok (hD : zk_d2 D ua) : ∀ R ∈ zRSl, zr_okS D R := zr_c (rS1_86_ok hD) (zr_c (rS5_86_ok hD) (zr_c (rS7_86_ok hD) (zr_c (rS12_86_ok hD) (zr_c (rS1_88_ok hD) (zr_c (rS5_88_ok hD) (zr_c (rS7_88_ok hD) (zr_c (rS12_88_ok hD) (zr_c (rS3_ok hD) (zr_c (rS4_ok hD) (zr_c (rS9_ok hD) (zr_c (rS10_ok hD) (zr_c (rS11_ok hD) (zr_c (rW1_ok hD) (zr_c (rW2_ok hD) (zr_c (rW3_ok hD) (zr_c (rH1_0_ok hD) (zr_c (rH2_0_ok hD) (zr_c (rH3_0_ok hD) (zr_c (rH4_0_ok hD) (zr_c (rH1_1_ok hD) (zr_c (rH2_1_ok hD) (zr_c (rH3_1_ok hD) (zr_c (rH4_1_ok hD) (zr_c (rT1_0_ok hD) (zr_c (rT2_0_ok hD) (zr_c (rT3_0_ok hD) (zr_c (rT1_1_ok hD) (zr_c (rT2_1_ok hD) (zr_c (rT3_1_ok hD) (zr_c (rZ1_ok hD) (zr_c (rZ2_ok hD) (zr_c (rZ3_ok hD) (zr_c (rZ4_ok hD) (zr_c (rZ5_ok hD) (zr_c (rD1_ok hD) (zr_c (rD2_ok hD) (zr_c (rD3_114_ok hD) (zr_c (rD4_114_ok hD) (zr_c (rD3_115_ok hD) (zr_c (rD4_115_ok hD) (zr_c (rD3_116_ok hD) (zr_c (rD4_116_ok hD) (zr_c (rD3_118_ok hD) (zr_c (rD4_118_ok hD) (zr_c (rD5_ok hD) (zr_c (rD6_ok hD) (zr_c (rD7_ok hD) (zr_c (rD8_ok hD) (zr_c (rD9_ok hD) (zr_c (rD10_ok hD) (zr_c (rD11_ok hD) (zr_c (rD12_ok hD) (zr_c (rD13_ok hD) (zr_c (rD14_ok hD) ((fun _ h => (by cases h)))))))))))))))))))))))))))))))))))))))))))))))))))))))))
theorem zRU_ok (hD : zk_d2 D ua) : ∀ R ∈ zRUl, zr_okU D R := zr_c (rU10_ok hD) (zr_c (rU11_ok hD) (zr_c (rU12_ok hD) (zr_c (rU13_ok hD) (zr_c (rU14_ok hD) (zr_c (rU20_ok hD) (zr_c (rU30_ok hD) (zr_c (rU32_ok hD) (zr_c (rU34_ok hD) (zr_c (rU36_ok hD) (zr_c (rU31_ok hD) (zr_c (rU33_ok hD) (zr_c (rU35_ok hD) (zr_c (rU37_ok hD) (zr_c (rU38_ok hD) (zr_c (rU29_ok hD) (zr_c (rU39_ok hD) (zr_c (rU40_ok hD) (zr_c (rU42_ok hD) (zr_c (rU44_ok hD) (zr_c (rU46_ok hD) (zr_c (rU41_ok hD) (zr_c (rU43_ok hD) (zr_c (rU45_ok hD) (zr_c (rU47_ok hD) (zr_c (rU48_ok hD) (zr_c (rU49_ok hD) (zr_c (rU50_ok hD) (zr_c (rU51_ok hD) (zr_c (rU52_ok hD) (zr_c (rU53_ok hD) (zr_c (rU54_ok hD) (zr_c (rU55_ok hD) (zr_c (rU56_ok hD) (zr_c (rU57_ok hD) (zr_c (rU60_ok hD) (zr_c (rU61_ok hD) (zr_c (rU62_ok hD) (zr_c (rU63_ok hD) (zr_c (rU64_ok hD) (zr_c (rU65_ok hD) (zr_c (rU66_ok hD) (zr_c (rU67_ok hD) (zr_c (rU68_ok hD) (zr_c (rU70_ok hD) (zr_c (rU71_ok hD) (zr_c (rU72_ok hD) (zr_c (rU80_ok hD) (zr_c (rU81_ok hD) (zr_c (rU82_ok hD) (zr_c (rU83_ok hD) (zr_c (rU84_ok hD) (zr_c (rU85_ok hD) (zr_c (rU86_ok hD) (zr_c (rU87_ok hD) (zr_c (rU88_ok hD) (zr_c (rU89_ok hD) (zr_c (rU90_ok hD) (zr_c (rU91_ok hD) (zr_c (rU92_ok hD) (zr_c (rU93_ok hD) (zr_c (rU94_ok hD) (zr_c (rU95_ok hD) (zr_c (rU96_ok hD) (zr_c (rU97_ok hD) (zr_c (rU98_ok hD) (zr_c (rU99_ok hD) (zr_c (rU110_ok hD) (zr_c (rU111_ok hD) (zr_c (rU112_ok hD) (zr_c (rU113_ok hD) (zr_c (rU114_ok hD) (zr_c (rU115_ok hD) (zr_c (rU116_ok hD) (zr_c (rU117_ok hD) (zr_c (rU118_ok hD) (zr_c (rU119_ok hD) (zr_c (rU120_ok hD) (zr_c (rU121_ok hD) (zr_c (rU122_ok hD) (zr_c (rU125_ok hD) (zr_c (rU123_ok hD) (zr_c (rU124_ok hD) (zr_c (rU126_ok hD) (zr_c (rU127_ok hD) (zr_c (rU128_ok hD) (zr_c (rU129_ok hD) (zr_c (rU130_ok hD) (zr_c (rU131_ok hD) (zr_c (rU132_ok hD) (zr_c (rU133_ok hD) (zr_c (rU134_ok hD) (zr_c (rU135_ok hD) ((fun _ h => (by cases h)))))))))))))))))))))))))))))))))))))))))))))))))))))))))))))))))))))))))))))))))))))))))))))))
end
/-- what the facts hang on -/
def zPF : Nat → List (Nat × Nat) := fun j => if Nat.beq j 100 then [(33, 1), (33, 3)] else if Nat.beq j 101 then [(33, 1), (33, 3)] else if Nat.beq j 108 then [(43, 60)] else if Nat.beq j 110 then [(43, 60), (43, 61)] else if Nat.beq j 111 then [(43, 67)] else if Nat.beq j 114 then [(43, 67)] else if Nat.beq j 115 then [(43, 60)] else if Nat.beq j 116 then [(43, 60)] else if Nat.beq j 117 then [(43, 67)] else if Nat.beq j 118 then [(43, 67)] else if Nat.beq j 119 then [(43, 67), (43, 60)] else if Nat.beq j 150 then [(37, 3), (37, 10)] else if Nat.beq j 151 then [(37, 3), (37, 10)] else if Nat.beq j 152 then [(37, 3), (37, 10)] else if Nat.beq j 153 then [(37, 3), (37, 10)] else if Nat.beq j 154 then [(37, 3), (37, 10)] else []
def zPB : Nat → List Nat := fun j => if Nat.beq j 0 then [0, 1, 2, 3, 4, 5, 6, 7, 8, 9, 10, 11, 12, 13, 14, 15, 16, 17, 18, 19, 20, 21, 22, 23, 24, 25, 26, 27, 28, 29] else if Nat.beq j 100 then [53, 55] else if Nat.beq j 101 then [53, 55] else if Nat.beq j 102 then [84, 86, 88] else if Nat.beq j 103 then [84, 86, 88] else if Nat.beq j 104 then [86, 88] else if Nat.beq j 110 then [77, 79, 114, 115, 116, 118] else if Nat.beq j 111 then [77, 79, 114, 115, 116, 118, 119] else if Nat.beq j 112 then [79, 119] else if Nat.beq j 113 then [119] else if Nat.beq j 114 then [77, 79, 114, 115, 116, 118, 119] else if Nat.beq j 115 then [77, 79, 114, 115, 116, 118] else if Nat.beq j 116 then [77, 79, 114, 115, 116, 118] else if Nat.beq j 117 then [119] else if Nat.beq j 118 then [119] else if Nat.beq j 119 then [77, 79, 114, 115, 116, 118, 119] else if Nat.beq j 120 then [105, 106] else if Nat.beq j 121 then [105, 106] else if Nat.beq j 122 then [105, 106] else if Nat.beq j 123 then [105, 106] else if Nat.beq j 124 then [105, 106] else if Nat.beq j 132 then [111, 112] else if Nat.beq j 133 then [111, 112] else if Nat.beq j 134 then [105, 111] else if Nat.beq j 135 then [105, 111] else if Nat.beq j 136 then [111, 112] else if Nat.beq j 137 then [111, 112] else if Nat.beq j 138 then [111, 112] else if Nat.beq j 139 then [111, 112] else if Nat.beq j 150 then [63] else if Nat.beq j 151 then [63] else if Nat.beq j 152 then [63] else if Nat.beq j 153 then [63] else if Nat.beq j 154 then [63] else []
def zPF1 : Nat → List (Nat × Nat) := fun _ => []
def zPB1 : Nat → List Nat := fun j => if Nat.beq j 0 then [0, 1, 2, 3, 4, 5, 6, 7, 8, 9, 10, 11, 12, 13, 14, 15, 16, 17, 18, 19, 20, 21, 22, 23, 24, 25, 26, 27, 28, 29] else []
section
variable {D : zD} {ua : Nat → Nat} {ty ty' : Nat → Nat} {H H' : Heap} {j : Nat}
theorem zst_ar (hTT : D.TT = zTT) (hz : zty ua ty) (hst : zk_st D (zPF j) (zPB j) ty H ty' H') {q : Nat × Nat} (hq : q ∈ zUt) (h1 : q.2 ∈ zPB j) (h2 : (zTT q.2).1 ≠ 0) (k : Nat) : zi H' (ua q.1) k = zi H (ua q.1) k := by
  have := hst.2.1 _ _ (hz q hq) (by rw [hTT]; exact h2) h1
  unfold zi
  rw [this]
theorem zst_fd (hTT : D.TT = zTT) (hz : zty ua ty) (hst : zk_st D (zPF j) (zPB j) ty H ty' H') (hT : zk_T D ty H) (hT' : zk_T D ty' H') {q : Nat × Nat} (hq : q ∈ zUt) {k : Nat} (h1 : (q.2, k) ∈ zPF j) (h2 : (zTT q.2).1 = 0) (h3 : k < (zTT q.2).2.2.length) {c : Nat} (h4 : (zTT q.2).2.1 = c) : zi H' (ua q.1) (D.dI c k) = zi H (ua q.1) (D.dI c k) := by
  subst h4
  have a1 := zk_T_lt hT (a := ua q.1) (by rw [hz q hq]; omega)
  have a2 := zk_T_lt hT' (a := ua q.1) (by rw [hst.1 _ _ (hz q hq)]; omega)
  have e0 : H[ua q.1]? = some H[ua q.1] := Array.getElem?_eq_getElem a1
  have e1 : H'[ua q.1]? = some H'[ua q.1] := Array.getElem?_eq_getElem a2
  have := hst.2.2 _ _ (hz q hq) (by rw [hTT]; exact h2) k (by rw [hTT]; exact h3) h1 _ _ e0 e1
  rw [hTT] at this
  unfold zi
  rw [e0, e1]
  dsimp only
  rw [this]
theorem zPP_st (hD : zk_d2 D ua) (hTT : D.TT = zTT) (hj : 100 ≤ j) {vs : List Int} (hst : zk_st D (zPF j) (zPB j) ty H ty' H') (hT : zk_T D ty H) (hT' : zk_T D ty' H') (h : D.OP j ty H vs) : D.OP j ty' H' vs := by
  obtain ⟨hz, hp⟩ := (hD.1 j hj _ _ _).mp h
  refine (hD.1 j hj _ _ _).mpr ⟨fun q hq => hst.1 _ _ (hz q hq), ?_⟩
  unfold zPP at hp ⊢
  split at hp
  · rename_i e
    subst e
    rw [if_pos rfl]
    obtain ⟨h1, h2, h3⟩ := hp
    have e0 := zst_ar hTT hz hst (q := (84, 84)) (by decide) (by decide) (by decide) 0
    refine ⟨h1, by rw [e0]; exact h2, fun i hi h => ?_⟩
    rw [e0] at hi
    rw [zst_ar hTT hz hst (q := (86, 86)) (by decide) (by decide) (by decide)] at h
    rw [zst_ar hTT hz hst (q := (88, 88)) (by decide) (by decide) (by decide)]
    exact h3 i hi h
  rename_i n1
  rw [if_neg n1]
  split at hp
  · rename_i e
    subst e
    rw [if_pos rfl]
    obtain ⟨h1, h2, h3⟩ := hp
    have e0 := zst_ar hTT hz hst (q := (84, 84)) (by decide) (by decide) (by decide) 1
    refine ⟨h1, by rw [e0]; exact h2, fun i hi h => ?_⟩
    rw [e0] at hi
    rw [zst_ar hTT hz hst (q := (86, 86)) (by decide) (by decide) (by decide)] at h
    rw [zst_ar hTT hz hst (q := (88, 88)) (by decide) (by decide) (by decide)]
    exact h3 i hi h
  rename_i n2
  rw [if_neg n2]
  split at hp
  · rename_i e
    subst e
    rw [if_pos rfl]
    obtain ⟨k, h1, h3⟩ := hp
    refine ⟨k, h1, fun i hi h => ?_⟩
    rw [zst_ar hTT hz hst (q := (86, 86)) (by decide) (by decide) (by decide)] at h
    rw [zst_ar hTT hz hst (q := (88, 88)) (by decide) (by decide) (by decide)]
    exact h3 i hi h
  rename_i n3
  rw [if_neg n3]
  have hw : (j = 100 ∨ j = 101) → ∀ e, zf_wy ua D.dI (zi H) e → zf_wy ua D.dI (zi H') e := by
    intro hj e h p hp
    obtain ⟨g1, g2, g3⟩ := h p hp
    have m1 : 53 ∈ zPB j ∧ 55 ∈ zPB j ∧ (33, 1) ∈ zPF j ∧ (33, 3) ∈ zPF j := by rcases hj with rfl | rfl <;> decide
    have q0 : (1000 + p, 33) ∈ zUt ∧ (1010 + p, 53) ∈ zUt ∧ (1020 + p, 55) ∈ zUt := by rcases hp with rfl | rfl <;> decide
    refine ⟨by rw [zst_fd hTT hz hst hT hT' q0.1 m1.2.2.1 (show (zTT 33).1 = 0 by decide) (show 1 < (zTT 33).2.2.length by decide) (show (zTT 33).2.1 = 10 by decide)]; exact g1, by rw [zst_fd hTT hz hst hT hT' q0.1 m1.2.2.2 (show (zTT 33).1 = 0 by decide) (show 3 < (zTT 33).2.2.length by decide) (show (zTT 33).2.1 = 10 by decide)]; exact g2, fun i hi h => ?_⟩
    rw [zst_ar hTT hz hst q0.2.1 m1.1 (show (zTT 53).1 ≠ 0 by decide)] at h
    rw [zst_ar hTT hz hst q0.2.2 m1.2.1 (show (zTT 55).1 ≠ 0 by decide)]
    exact g3 i hi h
  split at hp
  · rename_i e
    subst e
    rw [if_pos rfl]
    exact ⟨hp.1, hw (Or.inl rfl) _ hp.2⟩
  rename_i n4
  rw [if_neg n4]
  split at hp
  · rename_i e
    subst e
    rw [if_pos rfl]
    obtain ⟨x, i, h1, h2⟩ := hp
    exact ⟨x, i, h1, hw (Or.inr rfl) _ h2⟩
  rename_i n5
  rw [if_neg n5]
  have fe : ∀ t, (t, t) ∈ zUt → t ∈ zPB j → (zTT t).1 ≠ 0 → zi H' (ua t) = zi H (ua t) := fun t h1 h2 h3 => funext (zst_ar hTT hz hst (q := (t, t)) h1 h2 h3)
  have fh : ∀ k, (43, k) ∈ zPF j → k < 73 → zi H' (ua 43) (D.dI 12 k) = zi H (ua 43) (D.dI 12 k) := fun k h1 h2 => zst_fd hTT hz hst hT hT' (q := (43, 43)) (by decide) h1 (by decide) h2 (by decide)
  by_cases e150 : 150 ≤ j
  · rw [if_pos e150] at hp ⊢
    have hr : 63 ∈ zPB j → (37, 3) ∈ zPF j → (37, 10) ∈ zPF j → ∀ P, zf_hd ua D.dI (zi H) P → zf_hd ua D.dI (zi H') P := by
      intro m1 m2 m3 P h p hp
      obtain ⟨g1, g2⟩ := h p hp
      have q0 : (1030 + p, 37) ∈ zUt ∧ (1040 + p, 63) ∈ zUt := by rcases hp with rfl | rfl <;> decide
      have f1 : zi H' (ua (1040 + p)) = zi H (ua (1040 + p)) := funext (zst_ar hTT hz hst q0.2 m1 (show (zTT 63).1 ≠ 0 by decide))
      rw [zst_fd hTT hz hst hT hT' q0.1 m2 (show (zTT 37).1 = 0 by decide) (show 3 < (zTT 37).2.2.length by decide) (show (zTT 37).2.1 = 3 by decide), zst_fd hTT hz hst hT hT' q0.1 m3 (show (zTT 37).1 = 0 by decide) (show 10 < (zTT 37).2.2.length by decide) (show (zTT 37).2.1 = 3 by decide), f1]
      exact ⟨g1, g2⟩
    unfold zPR at hp ⊢
    by_cases e : j = 150
    · subst e
      rw [if_pos rfl] at hp ⊢
      obtain ⟨h1, h2⟩ := hp
      exact ⟨h1, hr (by decide) (by decide) (by decide) _ h2⟩
    rw [if_neg e] at hp ⊢
    clear e
    by_cases e : j = 151
    · subst e
      rw [if_pos rfl] at hp ⊢
      obtain ⟨x, c, v, h1, h2⟩ := hp
      exact ⟨x, c, v, h1, hr (by decide) (by decide) (by decide) _ h2⟩
    rw [if_neg e] at hp ⊢
    clear e
    by_cases e : j = 152
    · subst e
      rw [if_pos rfl] at hp ⊢
      obtain ⟨x, v, h1, h2⟩ := hp
      exact ⟨x, v, h1, hr (by decide) (by decide) (by decide) _ h2⟩
    rw [if_neg e] at hp ⊢
    clear e
    by_cases e : j = 153
    · subst e
      rw [if_pos rfl] at hp ⊢
      obtain ⟨x, i, h1, h3, h2⟩ := hp
      exact ⟨x, i, h1, h3, hr (by decide) (by decide) (by decide) _ h2⟩
    rw [if_neg e] at hp ⊢
    clear e
    by_cases e : j = 154
    · subst e
      rw [if_pos rfl] at hp ⊢
      obtain ⟨x, i, n, h1, h3, h4, h5, h2⟩ := hp
      exact ⟨x, i, n, h1, h3, h4, h5, hr (by decide) (by decide) (by decide) _ h2⟩
    rw [if_neg e] at hp ⊢
    clear e
    by_cases e : j = 160
    · subst e
      rw [if_pos rfl] at hp ⊢
      exact hp
    rw [if_neg e] at hp ⊢
    clear e
    by_cases e : j = 161
    · subst e
      rw [if_pos rfl] at hp ⊢
      exact hp
    rw [if_neg e] at hp ⊢
    clear e
    by_cases e : j = 162
    · subst e
      rw [if_pos rfl] at hp ⊢
      exact hp
    rw [if_neg e] at hp ⊢
    clear e
    by_cases e : j = 164
    · subst e
      rw [if_pos rfl] at hp ⊢
      exact hp
    rw [if_neg e] at hp ⊢
    clear e
    by_cases e : j = 170
    · subst e
      rw [if_pos rfl] at hp ⊢
      exact hp
    rw [if_neg e] at hp ⊢
    clear e
    by_cases e : j = 171
    · subst e
      rw [if_pos rfl] at hp ⊢
      exact hp
    rw [if_neg e] at hp ⊢
    clear e
    by_cases e : j = 172
    · subst e
      rw [if_pos rfl] at hp ⊢
      exact hp
    rw [if_neg e] at hp ⊢
    clear e
    by_cases e : j = 173
    · subst e
      rw [if_pos rfl] at hp ⊢
      exact hp
    rw [if_neg e] at hp ⊢
    clear e
    by_cases e : j = 174
    · subst e
      rw [if_pos rfl] at hp ⊢
      exact hp
    rw [if_neg e] at hp ⊢
    clear e
    exact hp
  rw [if_neg e150] at hp ⊢
  by_cases e108 : 108 ≤ j ∧ j ≤ 119
  · rw [if_pos e108] at hp ⊢
    unfold zPS at hp ⊢
    by_cases e : j = 108
    · subst e
      rw [if_pos rfl] at hp ⊢
      rw [fh 60 (by decide) (by decide)]
      exact hp
    rw [if_neg e] at hp ⊢
    clear e
    by_cases e : j = 109
    · subst e
      rw [if_pos rfl] at hp ⊢
      exact hp
    rw [if_neg e] at hp ⊢
    clear e
    by_cases e : j = 110
    · subst e
      rw [if_pos rfl] at hp ⊢
      have f6 : ∀ t ∈ [77, 79, 114, 115, 116, 118], zi H' (ua t) = zi H (ua t) := by
        intro t ht
        simp only [List.mem_cons, List.not_mem_nil, or_false] at ht
        rcases ht with rfl | rfl | rfl | rfl | rfl | rfl
        · exact fe 77 (by decide) (by decide) (by decide)
        · exact fe 79 (by decide) (by decide) (by decide)
        · exact fe 114 (by decide) (by decide) (by decide)
        · exact fe 115 (by decide) (by decide) (by decide)
        · exact fe 116 (by decide) (by decide) (by decide)
        · exact fe 118 (by decide) (by decide) (by decide)
      rw [fh 60 (by decide) (by decide), fh 61 (by decide) (by decide), zf_ch_fun f6]
      exact hp
    rw [if_neg e] at hp ⊢
    clear e
    by_cases e : j = 111
    · subst e
      rw [if_pos rfl] at hp ⊢
      have f6 : ∀ t ∈ [77, 79, 114, 115, 116, 118], zi H' (ua t) = zi H (ua t) := by
        intro t ht
        simp only [List.mem_cons, List.not_mem_nil, or_false] at ht
        rcases ht with rfl | rfl | rfl | rfl | rfl | rfl
        · exact fe 77 (by decide) (by decide) (by decide)
        · exact fe 79 (by decide) (by decide) (by decide)
        · exact fe 114 (by decide) (by decide) (by decide)
        · exact fe 115 (by decide) (by decide) (by decide)
        · exact fe 116 (by decide) (by decide) (by decide)
        · exact fe 118 (by decide) (by decide) (by decide)
      simp only [fh 67 (by decide) (by decide), fe 119 (by decide) (by decide) (by decide), zc_t_fun f6]
      exact hp
    rw [if_neg e] at hp ⊢
    clear e
    by_cases e : j = 112
    · subst e
      rw [if_pos rfl] at hp ⊢
      rw [fe 119 (by decide) (by decide) (by decide), fe 79 (by decide) (by decide) (by decide)]
      exact hp
    rw [if_neg e] at hp ⊢
    clear e
    by_cases e : j = 113
    · subst e
      rw [if_pos rfl] at hp ⊢
      rw [fe 119 (by decide) (by decide) (by decide)]
      exact hp
    rw [if_neg e] at hp ⊢
    clear e
    by_cases e : j = 114
    · subst e
      rw [if_pos rfl] at hp ⊢
      have f6 : ∀ t ∈ [77, 79, 114, 115, 116, 118], zi H' (ua t) = zi H (ua t) := by
        intro t ht
        simp only [List.mem_cons, List.not_mem_nil, or_false] at ht
        rcases ht with rfl | rfl | rfl | rfl | rfl | rfl
        · exact fe 77 (by decide) (by decide) (by decide)
        · exact fe 79 (by decide) (by decide) (by decide)
        · exact fe 114 (by decide) (by decide) (by decide)
        · exact fe 115 (by decide) (by decide) (by decide)
        · exact fe 116 (by decide) (by decide) (by decide)
        · exact fe 118 (by decide) (by decide) (by decide)
      simp only [fh 67 (by decide) (by decide), fe 119 (by decide) (by decide) (by decide), zc_t_fun f6]
      exact hp
    rw [if_neg e] at hp ⊢
    clear e
    by_cases e : j = 115
    · subst e
      rw [if_pos rfl] at hp ⊢
      have f6 : ∀ t ∈ [77, 79, 114, 115, 116, 118], zi H' (ua t) = zi H (ua t) := by
        intro t ht
        simp only [List.mem_cons, List.not_mem_nil, or_false] at ht
        rcases ht with rfl | rfl | rfl | rfl | rfl | rfl
        · exact fe 77 (by decide) (by decide) (by decide)
        · exact fe 79 (by decide) (by decide) (by decide)
        · exact fe 114 (by decide) (by decide) (by decide)
        · exact fe 115 (by decide) (by decide) (by decide)
        · exact fe 116 (by decide) (by decide) (by decide)
        · exact fe 118 (by decide) (by decide) (by decide)
      simp only [fh 60 (by decide) (by decide), zc_t_fun f6]
      exact hp
    rw [if_neg e] at hp ⊢
    clear e
    by_cases e : j = 116
    · subst e
      rw [if_pos rfl] at hp ⊢
      have f6 : ∀ t ∈ [77, 79, 114, 115, 116, 118], zi H' (ua t) = zi H (ua t) := by
        intro t ht
        simp only [List.mem_cons, List.not_mem_nil, or_false] at ht
        rcases ht with rfl | rfl | rfl | rfl | rfl | rfl
        · exact fe 77 (by decide) (by decide) (by decide)
        · exact fe 79 (by decide) (by decide) (by decide)
        · exact fe 114 (by decide) (by decide) (by decide)
        · exact fe 115 (by decide) (by decide) (by decide)
        · exact fe 116 (by decide) (by decide) (by decide)
        · exact fe 118 (by decide) (by decide) (by decide)
      simp only [fh 60 (by decide) (by decide), zf_ch_fun f6]
      exact hp
    rw [if_neg e] at hp ⊢
    clear e
    by_cases e : j = 117
    · subst e
      rw [if_pos rfl] at hp ⊢
      rw [fh 67 (by decide) (by decide), fe 119 (by decide) (by decide) (by decide)]
      exact hp
    rw [if_neg e] at hp ⊢
    clear e
    by_cases e : j = 118
    · subst e
      rw [if_pos rfl] at hp ⊢
      rw [fh 67 (by decide) (by decide), fe 119 (by decide) (by decide) (by decide)]
      exact hp
    rw [if_neg e] at hp ⊢
    clear e
    by_cases e : j = 119
    · subst e
      rw [if_pos rfl] at hp ⊢
      have f6 : ∀ t ∈ [77, 79, 114, 115, 116, 118], zi H' (ua t) = zi H (ua t) := by
        intro t ht
        simp only [List.mem_cons, List.not_mem_nil, or_false] at ht
        rcases ht with rfl | rfl | rfl | rfl | rfl | rfl
        · exact fe 77 (by decide) (by decide) (by decide)
        · exact fe 79 (by decide) (by decide) (by decide)
        · exact fe 114 (by decide) (by decide) (by decide)
        · exact fe 115 (by decide) (by decide) (by decide)
        · exact fe 116 (by decide) (by decide) (by decide)
        · exact fe 118 (by decide) (by decide) (by decide)
      simp only [fh 67 (by decide) (by decide), fh 60 (by decide) (by decide), fe 119 (by decide) (by decide) (by decide), zc_t_fun f6]
      exact hp
    rw [if_neg e] at hp ⊢
    clear e
    exact absurd hp (fun z => z)
  rw [if_neg e108] at hp ⊢
  unfold zPQ at hp ⊢
  by_cases e : j = 120
  · subst e
    rw [if_pos rfl] at hp ⊢
    simp only [zf_sw] at hp ⊢
    rw [fe 105 (by decide) (by decide) (by decide), fe 106 (by decide) (by decide) (by decide)]
    exact hp
  rw [if_neg e] at hp ⊢
  clear e
  by_cases e : j = 121
  · subst e
    rw [if_pos rfl] at hp ⊢
    simp only [zf_in, zf_sw] at hp ⊢
    rw [fe 105 (by decide) (by decide) (by decide), fe 106 (by decide) (by decide) (by decide)]
    exact hp
  rw [if_neg e] at hp ⊢
  clear e
  by_cases e : j = 122
  · subst e
    rw [if_pos rfl] at hp ⊢
    simp only [zf_in, zf_sw] at hp ⊢
    rw [fe 105 (by decide) (by decide) (by decide), fe 106 (by decide) (by decide) (by decide)]
    exact hp
  rw [if_neg e] at hp ⊢
  clear e
  by_cases e : j = 123
  · subst e
    rw [if_pos rfl] at hp ⊢
    simp only [zf_in, zf_sw] at hp ⊢
    rw [fe 105 (by decide) (by decide) (by decide), fe 106 (by decide) (by decide) (by decide)]
    exact hp
  rw [if_neg e] at hp ⊢
  clear e
  by_cases e : j = 124
  · subst e
    rw [if_pos rfl] at hp ⊢
    simp only [zf_in, zf_sw] at hp ⊢
    rw [fe 105 (by decide) (by decide) (by decide), fe 106 (by decide) (by decide) (by decide)]
    exact hp
  rw [if_neg e] at hp ⊢
  clear e
  by_cases e : j = 132
  · subst e
    rw [if_pos rfl] at hp ⊢
    simp only [zf_td] at hp ⊢
    rw [fe 111 (by decide) (by decide) (by decide), fe 112 (by decide) (by decide) (by decide)]
    exact hp
  rw [if_neg e] at hp ⊢
  clear e
  by_cases e : j = 133
  · subst e
    rw [if_pos rfl] at hp ⊢
    simp only [zf_td] at hp ⊢
    rw [fe 111 (by decide) (by decide) (by decide), fe 112 (by decide) (by decide) (by decide)]
    exact hp
  rw [if_neg e] at hp ⊢
  clear e
  by_cases e : j = 134
  · subst e
    rw [if_pos rfl] at hp ⊢
    rw [fe 105 (by decide) (by decide) (by decide), fe 111 (by decide) (by decide) (by decide)]
    exact hp
  rw [if_neg e] at hp ⊢
  clear e
  by_cases e : j = 135
  · subst e
    rw [if_pos rfl] at hp ⊢
    rw [fe 105 (by decide) (by decide) (by decide), fe 111 (by decide) (by decide) (by decide)]
    exact hp
  rw [if_neg e] at hp ⊢
  clear e
  by_cases e : j = 136
  · subst e
    rw [if_pos rfl] at hp ⊢
    simp only [zf_wk] at hp ⊢
    rw [fe 111 (by decide) (by decide) (by decide), fe 112 (by decide) (by decide) (by decide)]
    exact hp
  rw [if_neg e] at hp ⊢
  clear e
  by_cases e : j = 137
  · subst e
    rw [if_pos rfl] at hp ⊢
    simp only [zf_wk] at hp ⊢
    rw [fe 111 (by decide) (by decide) (by decide), fe 112 (by decide) (by decide) (by decide)]
    exact hp
  rw [if_neg e] at hp ⊢
  clear e
  by_cases e : j = 138
  · subst e
    rw [if_pos rfl] at hp ⊢
    simp only [zf_wk] at hp ⊢
    rw [fe 111 (by decide) (by decide) (by decide), fe 112 (by decide) (by decide) (by decide)]
    exact hp
  rw [if_neg e] at hp ⊢
  clear e
  by_cases e : j = 139
  · subst e
    rw [if_pos rfl] at hp ⊢
    simp only [zf_wk] at hp ⊢
    rw [fe 111 (by decide) (by decide) (by decide), fe 112 (by decide) (by decide) (by decide)]
    exact hp
  rw [if_neg e] at hp ⊢
  clear e
  exact absurd hp (fun z => z)
end
end
section
/-! FURTHER FACTS: 0 the texts, 21 to 24 recorded arithmetic, 60 absolute values. The method's own lemmas. -/
def zSUf : zSU := zr_SU zTT zRSl
/-- a new symbol with an interval, a difference and a fact -/
def ul_new (lo hi : Int) (ds : List (Nat × Nat × Int)) (op : Nat × List zV) (A : zA) : zA := (A.1, A.2.1, ((A.2.2.2.2.1, lo, hi) :: A.2.2.1.1, ds ++ A.2.2.1.2.1, A.2.2.1.2.2), (A.2.2.2.1.1, A.2.2.2.1.2.1, A.2.2.2.1.2.2.1, A.2.2.2.1.2.2.2.1, A.2.2.2.1.2.2.2.2.1, op :: A.2.2.2.1.2.2.2.2.2), (A.2.2.2.2.1 + 1, A.2.2.2.2.2))
def ul_i64 (P : zP) (v : zV) : Bool := decide (v.1 = 1) && zk_inb P v (-9223372036854775808) 9223372036854775807
/-- 2: behind a rest, its absolute value -/
def ul_rem (n0 : Nat) (A : zA) : List zA := match A.2.1, zk_opf A.2.2.2.1.2.2.2.2.2 24, zk_opf A.2.2.2.1.2.2.2.2.2 60 with
  | q :: _, some [x, y, q'], some [y', a] => if q' = q ∧ y' = y ∧ zk_nz A.2.2.1 y = true ∧ zk_ok n0 A = true ∧ ul_i64 A.2.2.1 x = true ∧ ul_i64 A.2.2.1 y = true ∧ ul_i64 A.2.2.1 q = true ∧ zk_fL A.2.2.2.2.1 [a, q] = true then [ul_new 0 9223372036854775808 [(A.2.2.2.2.1, a.2.1, a.2.2 - 1)] (60, [q, (1, A.2.2.2.2.1, 0)]) A] else [A]
  | _, _, _ => [A]
/-- 4: behind a - a / b * b -/
def ul_sub (A : zA) : List zA := match A.2.1, zk_opf A.2.2.2.1.2.2.2.2.2 23, zk_opf A.2.2.2.1.2.2.2.2.2 22, zk_opf A.2.2.2.1.2.2.2.2.2 21 with
  | z :: _, some [a, b, q], some [q', b', m], some [a', m', z'] => if q' = q ∧ b' = b ∧ a' = a ∧ m' = m ∧ z' = z ∧ zk_inb A.2.2.1 a 0 2147483648 = true ∧ zk_inb A.2.2.1 b 1 2147483648 = true ∧ ul_i64 A.2.2.1 q = true ∧ ul_i64 A.2.2.1 m = true ∧ ul_i64 A.2.2.1 z = true then
      (match zk_le A.2.2.1 (0, 0, 0) z 0 with | none => [] | some P1 => zk_spA (zk_le P1 z b (-1)) A) else [A]
  | _, _, _, _ => [A]
/-- 5: a difference that was taken before -/
def ul_cse (A : zA) : List zA := match A.2.1, zk_opf A.2.2.2.1.2.2.2.2.2 25 with
  | z :: S, some [v, w, z'] => (match A.2.2.2.1.2.2.2.2.2.find? (fun q => Nat.beq q.1 25 && (match q.2 with | [v', w', u] => decide (v' = v ∧ w' = w ∧ u ≠ z) | _ => false)) with
    | some q => (match q.2 with
      | [_, _, u] => if z' = z ∧ z.1 = 0 ∧ u.1 = 0 ∧ zk_inb A.2.2.1 z (-2147483648) 2147483647 = true ∧ zk_inb A.2.2.1 u (-2147483648) 2147483647 = true then [zk_ss (u :: S) A] else [A]
      | _ => [A])
    | none => [A])
  | _, _ => [A]
/-- 1000 + i: the absolute value of local i -/
def ul_abs (n0 i : Nat) (A : zA) : List zA := match zk_find A.1 i with
  | some v => if zk_ok n0 A = true ∧ ul_i64 A.2.2.1 v = true ∧ zk_fL A.2.2.2.2.1 [v] = true then [ul_new 0 9223372036854775808 [] (60, [v, (1, A.2.2.2.2.1, 0)]) A] else [A]
  | none => [A]
def zULf0 : Nat → Nat → zA → List zA := fun n0 j A => if Nat.beq j 2 then ul_rem n0 A else if Nat.beq j 4 then ul_sub A else if Nat.beq j 5 then ul_cse A else if Nat.ble 1000 j then ul_abs n0 (j - 1000) A else [A]
theorem zk_m64tmod {a b : Int} (ha : -9223372036854775808 ≤ a ∧ a ≤ 9223372036854775807) (hb : -9223372036854775808 ≤ b ∧ b ≤ 9223372036854775807) : Int64.ofInt a - Int64.ofInt a / Int64.ofInt b * Int64.ofInt b = Int64.ofInt (a.tmod b) := by
  have e1 : Int64.minValue.toInt = -9223372036854775808 := by decide
  have e2 : Int64.maxValue.toInt = 9223372036854775807 := by decide
  rw [← Int64.ofInt_tdiv (by omega) (by omega) (by omega) (by omega), ← Int64.ofInt_mul, ← Int64.ofInt_sub]
  congr 1
  have := Int.tdiv_mul_add_tmod a b
  omega
theorem ul_eq64 {a b : Int} (ha : -9223372036854775808 ≤ a ∧ a ≤ 9223372036854775807) (hb : -9223372036854775808 ≤ b ∧ b ≤ 9223372036854775807) (h : Int64.ofInt a = Int64.ofInt b) : a = b := by
  have := congrArg Int64.toInt h
  rwa [zk_i64 ha.1 ha.2, zk_i64 hb.1 hb.2] at this
theorem zk_opf_mem : ∀ {l : List (Nat × List zV)} {j : Nat} {vs : List zV}, zk_opf l j = some vs → (j, vs) ∈ l
  | [], _, _, h => by simp [zk_opf] at h
  | q :: l, j, vs, h => by
    unfold zk_opf at h
    split at h
    · rename_i e
      cases h
      rw [← e]
      exact List.mem_cons_self
    · exact List.mem_cons_of_mem _ (zk_opf_mem h)
section
variable {D : zD} {E : zE} {A : zA} {r : Nat → Int} {ty : Nat → Nat} {H : Heap} {locs : List Loc} {ls : Array Slot} {st : List Value}
theorem ul_new_ok (hok : zk_ok E.2.1.1 A = true) (I : zk_I D E A r ty H locs ls st) {lo hi z : Int} {ds : List (Nat × Nat × Int)} {op : Nat × List zV} (hz : lo ≤ z ∧ z ≤ hi) (hd : ∀ q ∈ ds, zk_u r A.2.2.2.2.1 z q.1 ≤ zk_u r A.2.2.2.2.1 z q.2.1 + q.2.2) (ho : D.OP op.1 ty H (op.2.map (zk_n (zk_u r A.2.2.2.2.1 z)))) : zk_I D E (ul_new lo hi ds op A) (zk_u r A.2.2.2.2.1 z) ty H locs ls st := by
  have g := zk_fresh (zk_okP hok) I.2.2.1 hz hd 1
  have hn := zk_I_new (r' := zk_u r A.2.2.2.2.1 z) hok (fun y hy => zk_u_ne hy) I
  obtain ⟨a1, a2, a3, ⟨b1, b2, b3, b4, b5, b6, b7⟩, a5, a6, a7, a8, a9, a10⟩ := hn
  refine ⟨a1, a2, g, ⟨b1, b2, b3, b4, b5, b6, fun q hq => ?_⟩, a5, a6, a7, a8, a9, a10⟩
  rcases List.mem_cons.mp hq with rfl | hq
  · exact ho
  · exact b7 q hq
theorem ul_i64_ok {P : zP} {v : zV} (hP : zk_P r P) (h : ul_i64 P v = true) : v.1 = 1 ∧ -9223372036854775808 ≤ zk_n r v ∧ zk_n r v ≤ 9223372036854775807 := by
  simp only [ul_i64, Bool.and_eq_true, decide_eq_true_eq] at h
  exact ⟨h.1, zk_inb_ok hP h.2⟩
theorem zUL0_ok (hD : zk_rc D) : zk_ULok D E zULf0 := by
  intro j A r ty H locs ls st I
  have hself : ∃ A' ∈ [A], ∃ r', zk_I D E A' r' ty H locs ls st ∧ A'.2.2.2.2.2.2 = A.2.2.2.2.2.2 := ⟨A, List.mem_singleton.mpr rfl, r, I, rfl⟩
  have hP := I.2.2.1
  have hO := I.2.2.2.1.2.2.2.2.2.2
  have h0 := I.2.2.2.2.2.2.1
  unfold zULf0
  split
  · unfold ul_rem
    split
    · rename_i q S x y q' y' a hS h24 h60
      split
      · rename_i hc
        obtain ⟨rfl, rfl, hnz, hok, hx, hy, hq, hf⟩ := hc
        have o1 := (hD.1 24 (by decide) _ _ _ _ _).mp (hO _ (zk_opf_mem h24))
        have o2 := (hD.2.1 _ _ _ _).mp (hO _ (zk_opf_mem h60))
        have bx := ul_i64_ok hP hx
        have bY := ul_i64_ok hP hy
        have bq := ul_i64_ok hP hq
        have nz := zk_nz_ok hP hnz
        have o1 : Int64.ofInt (zk_n r x) - Int64.ofInt (zk_n r x) / Int64.ofInt (zk_n r y') * Int64.ofInt (zk_n r y') = Int64.ofInt (zk_n r q') := by
          have := Option.some.inj o1
          exact Value.long.inj this
        rw [zk_m64tmod bx.2 bY.2] at o1
        have ht : (zk_n r x).tmod (zk_n r y') = zk_n r q' := by
          refine ul_eq64 ?_ bq.2 o1
          have k := Int.natAbs_tmod (zk_n r x) (zk_n r y')
          have k2 : (zk_n r x).natAbs % (zk_n r y').natAbs < (zk_n r y').natAbs := Nat.mod_lt _ (by omega)
          omega
        have hlt : (zk_n r q').natAbs < (zk_n r y').natAbs := by
          rw [← ht, Int.natAbs_tmod]
          exact Nat.mod_lt _ (by omega)
        simp only [zk_fL, List.all_cons, List.all_nil, Bool.and_true, Bool.and_eq_true] at hf
        have fa := zk_blt hf.1
        have fq := zk_blt hf.2
        refine ⟨_, List.mem_singleton.mpr rfl, zk_u r A.2.2.2.2.1 ((zk_n r q').natAbs : Int), ul_new_ok hok I ⟨by omega, by omega⟩ (fun d hd => ?_) ?_, rfl⟩
        · rw [List.mem_singleton.mp hd]
          dsimp only
          rw [zk_u_n, zk_u_ne fa]
          have e : zk_n r a = r a.2.1 + a.2.2 := rfl
          omega
        · show D.OP 60 ty H [zk_n _ q', zk_n _ (1, A.2.2.2.2.1, 0)]
          rw [hD.2.1, zk_n_new fq, zk_n_n]
      · exact hself
    · exact hself
  split
  · unfold ul_sub
    split
    · rename_i z S a b q q' b' m a' m' z' hS h23 h22 h21
      split
      · rename_i hc
        obtain ⟨rfl, rfl, rfl, rfl, rfl, ha, hb, hq, hm, hz⟩ := hc
        have o1 := (hD.1 23 (by decide) _ _ _ _ _).mp (hO _ (zk_opf_mem h23))
        have o2 := (hD.1 22 (by decide) _ _ _ _ _).mp (hO _ (zk_opf_mem h22))
        have o3 := (hD.1 21 (by decide) _ _ _ _ _).mp (hO _ (zk_opf_mem h21))
        have bA := zk_inb_ok hP ha
        have bB := zk_inb_ok hP hb
        have bq := ul_i64_ok hP hq
        have bm := ul_i64_ok hP hm
        have bz := ul_i64_ok hP hz
        have o1 : Int64.ofInt (zk_n r a') / Int64.ofInt (zk_n r b') = Int64.ofInt (zk_n r q') := Value.long.inj (Option.some.inj o1)
        have o2 : Int64.ofInt (zk_n r q') * Int64.ofInt (zk_n r b') = Int64.ofInt (zk_n r m') := Value.long.inj (Option.some.inj o2)
        have o3 : Int64.ofInt (zk_n r a') - Int64.ofInt (zk_n r m') = Int64.ofInt (zk_n r z') := Value.long.inj (Option.some.inj o3)
        rw [zk_m64div (by omega) (by omega) (by omega) (by omega)] at o1
        have d1 : 0 ≤ zk_n r a' / zk_n r b' := Int.ediv_nonneg (by omega) (by omega)
        have d2 : zk_n r a' / zk_n r b' ≤ zk_n r a' := Int.ediv_le_self _ (by omega)
        have e1 := ul_eq64 ⟨by omega, by omega⟩ bq.2 o1
        rw [← Int64.ofInt_mul] at o2
        have d3 : zk_n r q' * zk_n r b' ≤ zk_n r a' := by rw [← e1]; exact Int.ediv_mul_le _ (by omega)
        have d4 : 0 ≤ zk_n r q' * zk_n r b' := Int.mul_nonneg (by omega) (by omega)
        have e2 := ul_eq64 ⟨by omega, by omega⟩ bm.2 o2
        rw [← Int64.ofInt_sub] at o3
        have e3 := ul_eq64 ⟨by omega, by omega⟩ bz.2 o3
        have d5 := Int.ediv_mul_add_emod (zk_n r a') (zk_n r b')
        have d6 := Int.emod_lt_of_pos (zk_n r a') (b := zk_n r b') (by omega)
        have d7 := Int.emod_nonneg (zk_n r a') (b := zk_n r b') (by omega)
        rw [e1] at d5
        obtain ⟨P1, f1, g1⟩ := zk_le_ok hP (v := (0, 0, 0)) (w := z') (c := 0) (by
          have : zk_n r (0, 0, 0) = 0 := by unfold zk_n; dsimp only; omega
          omega)
        obtain ⟨P2, f2, g2⟩ := zk_le_ok g1 (v := z') (w := b') (c := -1) (by omega)
        rw [f1]
        dsimp only
        rw [f2]
        refine ⟨zk_sp P2 A.2.1 A, List.mem_singleton.mpr rfl, r, ?_, rfl⟩
        have := zk_I_sp (S := A.2.1) I g2
        rw [← I.2.1] at this
        exact this
      · exact hself
    · exact hself
  split
  · unfold ul_cse
    split
    · rename_i z S v w z' hS h25
      split
      · rename_i q hq
        split
        · rename_i v' w' u hq2
          split
          · rename_i hc
            obtain ⟨rfl, hz1, hu1, hz, hu⟩ := hc
            have m1 := List.mem_of_find?_eq_some hq
            have m2 := List.find?_some hq
            simp only [hq2, Bool.and_eq_true, decide_eq_true_eq] at m2
            obtain ⟨m3, rfl, rfl, -⟩ := m2
            have m3 := Nat.eq_of_beq_eq_true m3
            have m1' : (25, [v', w', u]) ∈ A.2.2.2.1.2.2.2.2.2 := by
              have : q = (25, [v', w', u]) := Prod.ext m3 hq2
              rw [← this]; exact m1
            have o1 := (hD.2.2 25 (by decide) _ _ _ _ _).mp (hO _ (zk_opf_mem h25))
            have o2 := (hD.2.2 25 (by decide) _ _ _ _ _).mp (hO _ m1')
            have e1 := o1.symm.trans o2
            have e1 : Int32.ofInt (zk_n r z') = Int32.ofInt (zk_n r u) := Value.int.inj (Option.some.inj e1)
            refine ⟨_, List.mem_singleton.mpr rfl, r, ?_, rfl⟩
            have g := zk_I_ss (S := u :: S) I
            have hst := I.2.1
            rw [hS] at hst
            have : st = (u :: S).map (zk_c r) := by
              rw [hst, List.map_cons, List.map_cons, zk_e0 hz1, zk_e0 hu1, e1]
            rw [this]
            exact g
          · exact hself
        · exact hself
      · exact hself
    · exact hself
  split
  · unfold ul_abs
    split
    · rename_i v hv
      split
      · rename_i hc
        obtain ⟨hok, hi, hf⟩ := hc
        have bv := ul_i64_ok hP hi
        simp only [zk_fL, List.all_cons, List.all_nil, Bool.and_true] at hf
        refine ⟨_, List.mem_singleton.mpr rfl, zk_u r A.2.2.2.2.1 ((zk_n r v).natAbs : Int), ul_new_ok hok I ⟨by omega, by omega⟩ (fun d hd => by cases hd) ?_, rfl⟩
        show D.OP 60 ty H [zk_n _ v, zk_n _ (1, A.2.2.2.2.1, 0)]
        rw [hD.2.1, zk_n_new (zk_blt hf), zk_n_n]
      · exact hself
    · exact hself
  · exact hself
end
/-- 10 to 999: rules -/
def zULf : Nat → Nat → zA → List zA := fun n0 j A => if Nat.ble 10 j && Nat.blt j 1000 then zr_UL zTT zRUl j A else zULf0 n0 j A
theorem zUL_ok {D : zD} {E : zE} {ua : Nat → Nat} (hrc : zk_rc D) (hTT : D.TT = zTT) (hD : zk_d2 D ua) : zk_ULok D E zULf := by
  intro j A r ty H locs ls st I
  unfold zULf
  split
  · rw [← hTT]
    exact zr_UL_ok (zRU_ok hD) I
  · exact zUL0_ok hrc j A r ty H locs ls st I
/-- the world of the methods, and that of the constructors -/
def zWD (D : zD) : Prop := zk_wd D zcl zft zTT zPF zPB zSUf zULf
def zWD1 (D : zD) : Prop := zk_wd D zcl zft zTT1 zPF1 zPB1 zk_noSU zULf0 ∧ zk_fr D
def zC (D : zD) (l : Launch) (M : zM) : Prop := zk_con D zcl l M.y (zk_ws M) M.rm M.cs
def zCs (D : zD) (l : Launch) : List zX → Prop
  | [] => True
  | x :: t => zC D l x.2.2.2 ∧ zCs D l t
theorem zCs_ok {D : zD} {l : Launch} : ∀ {HX : List zX}, zCs D l HX → ∀ x ∈ HX, zk_con D zcl l x.2.2.2.y (zk_ws x.2.2.2) x.2.2.2.rm x.2.2.2.cs
  | [], _, x, hx => by cases hx
  | y :: t, h, x, hx => by
    rcases List.mem_cons.mp hx with e | e
    · subst e; exact h.1
    · exact zCs_ok h.2 x e
theorem zk_methC {D : zD} {l : Launch} {L : zL} {own : String} {oc : Nat} {ini : Bool} {M : zM} {FTl : List (Nat × List (Nat × Instr × Nat))} {h : zH} {HX : List zX} {fuel : Nat} {ps : List (Nat × Nat × Nat × Nat × Nat)}
    (hQ : h.2.1 = [] ∧ h.2.2.2.1 = []) (hD : zWD D) (hL : zk_pool zcl own L) (hid : zk_idb zcl own oc ini M = true) (hTX : zk_txok own h.2.2.2.2.1) (hFT : zk_ftb M.b FTl = true) (hC : zCs D l HX) (hw : zk_hwsb zcl own M.rm HX ps = true) (hrun : zk_run zcl zft zTT zPF zPB zSUf L oc ini M FTl h zULf HX fuel = true) : zC D l M :=
  zk_meth (Or.inr hQ) hD hL hid hTX hFT (zk_hcs (zCs_ok hC) hw) hrun
theorem zk_methC1 {D : zD} {l : Launch} {L : zL} {own : String} {oc : Nat} {ini : Bool} {M : zM} {FTl : List (Nat × List (Nat × Instr × Nat))} {h : zH} {HX : List zX} {fuel : Nat} {ps : List (Nat × Nat × Nat × Nat × Nat)}
    (hD : zWD1 D) (hL : zk_pool zcl own L) (hid : zk_idb zcl own oc ini M = true) (hTX : zk_txok own h.2.2.2.2.1) (hFT : zk_ftb M.b FTl = true) (hC : zCs D l HX) (hw : zk_hwsb zcl own M.rm HX ps = true) (hrun : zk_run zcl zft zTT1 zPF1 zPB1 zk_noSU L oc ini M FTl h zULf0 HX fuel = true) : zC D l M :=
  zk_meth (Or.inl hD.2) hD.1 hL hid hTX hFT (zk_hcs (zCs_ok hC) hw) hrun
end
