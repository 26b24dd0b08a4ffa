section
-- ===== PART A: goes FIRST, ahead of the names: the tables' words, and 'selects' of the private methods out of them =====
/-- a private method of a class that the tables say can be made, by its rows of tables_1 -/
def lw_okq (q : MethodName × Nat) : Prop := (q.1.cls ≠ "java/lang/invoke/MethodHandle" ∧ q.1.cls ≠ "java/lang/invoke/VarHandle") ∧ Cond.instantiable q.1.cls q.2 ∈ tables_1 ∧ Cond.privateMethod q.1 ∈ tables_1 ∧ Cond.instanceMethod q.1 ∈ tables_1
theorem lw_p0 : lw_okq (⟨"DefaultReasoner$Priorities", "pairs", "()I"⟩, 2) := ⟨⟨by decide +kernel, by decide +kernel⟩, List.mem_of_getElem? (i := 20) (by decide +kernel), List.mem_of_getElem? (i := 100) (by decide +kernel), List.mem_of_getElem? (i := 101) (by decide +kernel)⟩
theorem lw_p1 : lw_okq (⟨"DefaultReasoner$Priorities", "clear", "()V"⟩, 2) := ⟨⟨by decide +kernel, by decide +kernel⟩, List.mem_of_getElem? (i := 20) (by decide +kernel), List.mem_of_getElem? (i := 110) (by decide +kernel), List.mem_of_getElem? (i := 111) (by decide +kernel)⟩
theorem lw_p2 : lw_okq (⟨"DefaultReasoner", "findExtensions", "()V"⟩, 20) := ⟨⟨by decide +kernel, by decide +kernel⟩, List.mem_of_getElem? (i := 12) (by decide +kernel), List.mem_of_getElem? (i := 126) (by decide +kernel), List.mem_of_getElem? (i := 127) (by decide +kernel)⟩
theorem lw_p3 : lw_okq (⟨"DefaultReasoner", "conclusionsOf", "(I)I"⟩, 20) := ⟨⟨by decide +kernel, by decide +kernel⟩, List.mem_of_getElem? (i := 12) (by decide +kernel), List.mem_of_getElem? (i := 130) (by decide +kernel), List.mem_of_getElem? (i := 131) (by decide +kernel)⟩
theorem lw_p4 : lw_okq (⟨"DefaultReasoner", "closeUp", "(I)I"⟩, 20) := ⟨⟨by decide +kernel, by decide +kernel⟩, List.mem_of_getElem? (i := 12) (by decide +kernel), List.mem_of_getElem? (i := 137) (by decide +kernel), List.mem_of_getElem? (i := 138) (by decide +kernel)⟩
theorem lw_p5 : lw_okq (⟨"DefaultReasoner", "usableFor", "(I)I"⟩, 20) := ⟨⟨by decide +kernel, by decide +kernel⟩, List.mem_of_getElem? (i := 12) (by decide +kernel), List.mem_of_getElem? (i := 148) (by decide +kernel), List.mem_of_getElem? (i := 149) (by decide +kernel)⟩
theorem lw_p6 : lw_okq (⟨"DefaultReasoner", "opens", "(II)Z"⟩, 20) := ⟨⟨by decide +kernel, by decide +kernel⟩, List.mem_of_getElem? (i := 12) (by decide +kernel), List.mem_of_getElem? (i := 152) (by decide +kernel), List.mem_of_getElem? (i := 153) (by decide +kernel)⟩
theorem lw_p7 : lw_okq (⟨"DefaultReasoner", "generatorsFor", "(I)I"⟩, 20) := ⟨⟨by decide +kernel, by decide +kernel⟩, List.mem_of_getElem? (i := 12) (by decide +kernel), List.mem_of_getElem? (i := 156) (by decide +kernel), List.mem_of_getElem? (i := 157) (by decide +kernel)⟩
theorem lw_p8 : lw_okq (⟨"DefaultReasoner", "insertExtension", "(I)V"⟩, 20) := ⟨⟨by decide +kernel, by decide +kernel⟩, List.mem_of_getElem? (i := 12) (by decide +kernel), List.mem_of_getElem? (i := 160) (by decide +kernel), List.mem_of_getElem? (i := 161) (by decide +kernel)⟩
theorem lw_p9 : lw_okq (⟨"DefaultReasoner", "findPreferred", "()V"⟩, 20) := ⟨⟨by decide +kernel, by decide +kernel⟩, List.mem_of_getElem? (i := 12) (by decide +kernel), List.mem_of_getElem? (i := 168) (by decide +kernel), List.mem_of_getElem? (i := 169) (by decide +kernel)⟩
theorem lw_p10 : lw_okq (⟨"DefaultReasoner", "layOut", "(I)V"⟩, 20) := ⟨⟨by decide +kernel, by decide +kernel⟩, List.mem_of_getElem? (i := 12) (by decide +kernel), List.mem_of_getElem? (i := 174) (by decide +kernel), List.mem_of_getElem? (i := 175) (by decide +kernel)⟩
theorem lw_p11 : lw_okq (⟨"DefaultReasoner", "keepsPriorities", "()Z"⟩, 20) := ⟨⟨by decide +kernel, by decide +kernel⟩, List.mem_of_getElem? (i := 12) (by decide +kernel), List.mem_of_getElem? (i := 178) (by decide +kernel), List.mem_of_getElem? (i := 179) (by decide +kernel)⟩
theorem lw_p12 : lw_okq (⟨"DefaultReasoner$Priorities", "comesBeforeOneOf", "(II)Z"⟩, 2) := ⟨⟨by decide +kernel, by decide +kernel⟩, List.mem_of_getElem? (i := 20) (by decide +kernel), List.mem_of_getElem? (i := 182) (by decide +kernel), List.mem_of_getElem? (i := 183) (by decide +kernel)⟩
theorem lw_p13 : lw_okq (⟨"DefaultReasoner", "endOfWalk", "()I"⟩, 20) := ⟨⟨by decide +kernel, by decide +kernel⟩, List.mem_of_getElem? (i := 12) (by decide +kernel), List.mem_of_getElem? (i := 186) (by decide +kernel), List.mem_of_getElem? (i := 187) (by decide +kernel)⟩
theorem lw_p14 : lw_okq (⟨"DefaultReasoner", "firstUsable", "(I)I"⟩, 20) := ⟨⟨by decide +kernel, by decide +kernel⟩, List.mem_of_getElem? (i := 12) (by decide +kernel), List.mem_of_getElem? (i := 190) (by decide +kernel), List.mem_of_getElem? (i := 191) (by decide +kernel)⟩
theorem lw_p15 : lw_okq (⟨"DefaultReasoner", "markPreferred", "(I)V"⟩, 20) := ⟨⟨by decide +kernel, by decide +kernel⟩, List.mem_of_getElem? (i := 12) (by decide +kernel), List.mem_of_getElem? (i := 194) (by decide +kernel), List.mem_of_getElem? (i := 195) (by decide +kernel)⟩
def lw_privs_1 : List (MethodName × Nat) := [(⟨"DefaultReasoner$Priorities", "pairs", "()I"⟩, 2), (⟨"DefaultReasoner$Priorities", "clear", "()V"⟩, 2), (⟨"DefaultReasoner", "findExtensions", "()V"⟩, 20), (⟨"DefaultReasoner", "conclusionsOf", "(I)I"⟩, 20), (⟨"DefaultReasoner", "closeUp", "(I)I"⟩, 20), (⟨"DefaultReasoner", "usableFor", "(I)I"⟩, 20), (⟨"DefaultReasoner", "opens", "(II)Z"⟩, 20), (⟨"DefaultReasoner", "generatorsFor", "(I)I"⟩, 20), (⟨"DefaultReasoner", "insertExtension", "(I)V"⟩, 20), (⟨"DefaultReasoner", "findPreferred", "()V"⟩, 20), (⟨"DefaultReasoner", "layOut", "(I)V"⟩, 20), (⟨"DefaultReasoner", "keepsPriorities", "()Z"⟩, 20), (⟨"DefaultReasoner$Priorities", "comesBeforeOneOf", "(II)Z"⟩, 2), (⟨"DefaultReasoner", "endOfWalk", "()I"⟩, 20), (⟨"DefaultReasoner", "firstUsable", "(I)I"⟩, 20), (⟨"DefaultReasoner", "markPreferred", "(I)V"⟩, 20)]
theorem lw_r1 : ∀ q ∈ lw_privs_1, lw_okq q := List.forall_mem_cons.mpr ⟨lw_p0, List.forall_mem_cons.mpr ⟨lw_p1, List.forall_mem_cons.mpr ⟨lw_p2, List.forall_mem_cons.mpr ⟨lw_p3, List.forall_mem_cons.mpr ⟨lw_p4, List.forall_mem_cons.mpr ⟨lw_p5, List.forall_mem_cons.mpr ⟨lw_p6, List.forall_mem_cons.mpr ⟨lw_p7, List.forall_mem_cons.mpr ⟨lw_p8, List.forall_mem_cons.mpr ⟨lw_p9, List.forall_mem_cons.mpr ⟨lw_p10, List.forall_mem_cons.mpr ⟨lw_p11, List.forall_mem_cons.mpr ⟨lw_p12, List.forall_mem_cons.mpr ⟨lw_p13, List.forall_mem_cons.mpr ⟨lw_p14, List.forall_mem_cons.mpr ⟨lw_p15, fun _ h => absurd h List.not_mem_nil⟩⟩⟩⟩⟩⟩⟩⟩⟩⟩⟩⟩⟩⟩⟩⟩
theorem lw_p16 : lw_okq (⟨"DefaultReasoner$Priorities", "comesBefore", "(II)Z"⟩, 2) := ⟨⟨by decide +kernel, by decide +kernel⟩, List.mem_of_getElem? (i := 20) (by decide +kernel), List.mem_of_getElem? (i := 215) (by decide +kernel), List.mem_of_getElem? (i := 216) (by decide +kernel)⟩
theorem lw_p17 : lw_okq (⟨"java/lang/Throwable", "fillInStackTrace", "(I)Ljava/lang/Throwable;"⟩, 6) := ⟨⟨by decide +kernel, by decide +kernel⟩, List.mem_of_getElem? (i := 269) (by decide +kernel), List.mem_of_getElem? (i := 267) (by decide +kernel), List.mem_of_getElem? (i := 268) (by decide +kernel)⟩
theorem lw_p18 : lw_okq (⟨"DefaultReasoner", "forgetFindings", "()V"⟩, 20) := ⟨⟨by decide +kernel, by decide +kernel⟩, List.mem_of_getElem? (i := 12) (by decide +kernel), List.mem_of_getElem? (i := 299) (by decide +kernel), List.mem_of_getElem? (i := 300) (by decide +kernel)⟩
theorem lw_p19 : lw_okq (⟨"DefaultReasoner$Priorities", "removeAllWith", "(I)V"⟩, 2) := ⟨⟨by decide +kernel, by decide +kernel⟩, List.mem_of_getElem? (i := 20) (by decide +kernel), List.mem_of_getElem? (i := 371) (by decide +kernel), List.mem_of_getElem? (i := 372) (by decide +kernel)⟩
theorem lw_p20 : lw_okq (⟨"DefaultReasoner$Priorities", "followChains", "()V"⟩, 2) := ⟨⟨by decide +kernel, by decide +kernel⟩, List.mem_of_getElem? (i := 20) (by decide +kernel), List.mem_of_getElem? (i := 375) (by decide +kernel), List.mem_of_getElem? (i := 376) (by decide +kernel)⟩
theorem lw_p21 : lw_okq (⟨"DefaultReasoner", "checkDefault", "(I)V"⟩, 20) := ⟨⟨by decide +kernel, by decide +kernel⟩, List.mem_of_getElem? (i := 12) (by decide +kernel), List.mem_of_getElem? (i := 386) (by decide +kernel), List.mem_of_getElem? (i := 387) (by decide +kernel)⟩
theorem lw_p22 : lw_okq (⟨"DefaultReasoner$Priorities", "put", "(II)V"⟩, 2) := ⟨⟨by decide +kernel, by decide +kernel⟩, List.mem_of_getElem? (i := 20) (by decide +kernel), List.mem_of_getElem? (i := 392) (by decide +kernel), List.mem_of_getElem? (i := 393) (by decide +kernel)⟩
theorem lw_p23 : lw_okq (⟨"DefaultReasoner", "checkExtension", "(I)V"⟩, 20) := ⟨⟨by decide +kernel, by decide +kernel⟩, List.mem_of_getElem? (i := 12) (by decide +kernel), List.mem_of_getElem? (i := 438) (by decide +kernel), List.mem_of_getElem? (i := 439) (by decide +kernel)⟩
theorem lw_p24 : lw_okq (⟨"DefaultReasoner", "checkOrder", "(I)V"⟩, 20) := ⟨⟨by decide +kernel, by decide +kernel⟩, List.mem_of_getElem? (i := 12) (by decide +kernel), List.mem_of_getElem? (i := 471) (by decide +kernel), List.mem_of_getElem? (i := 472) (by decide +kernel)⟩
theorem lw_p25 : lw_okq (⟨"DefaultReasonerModel", "fail", "(I)I"⟩, 15) := ⟨⟨by decide +kernel, by decide +kernel⟩, List.mem_of_getElem? (i := 491) (by decide +kernel), List.mem_of_getElem? (i := 558) (by decide +kernel), List.mem_of_getElem? (i := 559) (by decide +kernel)⟩
theorem lw_p26 : lw_okq (⟨"DefaultReasonerModel", "isDefault", "(I)Z"⟩, 15) := ⟨⟨by decide +kernel, by decide +kernel⟩, List.mem_of_getElem? (i := 491) (by decide +kernel), List.mem_of_getElem? (i := 582) (by decide +kernel), List.mem_of_getElem? (i := 583) (by decide +kernel)⟩
theorem lw_p27 : lw_okq (⟨"DefaultReasonerModel", "before", "(II)Z"⟩, 15) := ⟨⟨by decide +kernel, by decide +kernel⟩, List.mem_of_getElem? (i := 491) (by decide +kernel), List.mem_of_getElem? (i := 586) (by decide +kernel), List.mem_of_getElem? (i := 587) (by decide +kernel)⟩
theorem lw_p28 : lw_okq (⟨"DefaultReasonerModel", "leads", "(III)Z"⟩, 15) := ⟨⟨by decide +kernel, by decide +kernel⟩, List.mem_of_getElem? (i := 491) (by decide +kernel), List.mem_of_getElem? (i := 590) (by decide +kernel), List.mem_of_getElem? (i := 591) (by decide +kernel)⟩
theorem lw_p29 : lw_okq (⟨"DefaultReasonerModel", "close", "(I)I"⟩, 15) := ⟨⟨by decide +kernel, by decide +kernel⟩, List.mem_of_getElem? (i := 491) (by decide +kernel), List.mem_of_getElem? (i := 614) (by decide +kernel), List.mem_of_getElem? (i := 615) (by decide +kernel)⟩
theorem lw_p30 : lw_okq (⟨"DefaultReasonerModel", "open", "(II)Z"⟩, 15) := ⟨⟨by decide +kernel, by decide +kernel⟩, List.mem_of_getElem? (i := 491) (by decide +kernel), List.mem_of_getElem? (i := 625) (by decide +kernel), List.mem_of_getElem? (i := 626) (by decide +kernel)⟩
theorem lw_p31 : lw_okq (⟨"DefaultReasonerModel", "generators", "(I)I"⟩, 15) := ⟨⟨by decide +kernel, by decide +kernel⟩, List.mem_of_getElem? (i := 491) (by decide +kernel), List.mem_of_getElem? (i := 633) (by decide +kernel), List.mem_of_getElem? (i := 634) (by decide +kernel)⟩
def lw_privs_2 : List (MethodName × Nat) := [(⟨"DefaultReasoner$Priorities", "comesBefore", "(II)Z"⟩, 2), (⟨"java/lang/Throwable", "fillInStackTrace", "(I)Ljava/lang/Throwable;"⟩, 6), (⟨"DefaultReasoner", "forgetFindings", "()V"⟩, 20), (⟨"DefaultReasoner$Priorities", "removeAllWith", "(I)V"⟩, 2), (⟨"DefaultReasoner$Priorities", "followChains", "()V"⟩, 2), (⟨"DefaultReasoner", "checkDefault", "(I)V"⟩, 20), (⟨"DefaultReasoner$Priorities", "put", "(II)V"⟩, 2), (⟨"DefaultReasoner", "checkExtension", "(I)V"⟩, 20), (⟨"DefaultReasoner", "checkOrder", "(I)V"⟩, 20), (⟨"DefaultReasonerModel", "fail", "(I)I"⟩, 15), (⟨"DefaultReasonerModel", "isDefault", "(I)Z"⟩, 15), (⟨"DefaultReasonerModel", "before", "(II)Z"⟩, 15), (⟨"DefaultReasonerModel", "leads", "(III)Z"⟩, 15), (⟨"DefaultReasonerModel", "close", "(I)I"⟩, 15), (⟨"DefaultReasonerModel", "open", "(II)Z"⟩, 15), (⟨"DefaultReasonerModel", "generators", "(I)I"⟩, 15)]
theorem lw_r2 : ∀ q ∈ lw_privs_2, lw_okq q := List.forall_mem_cons.mpr ⟨lw_p16, List.forall_mem_cons.mpr ⟨lw_p17, List.forall_mem_cons.mpr ⟨lw_p18, List.forall_mem_cons.mpr ⟨lw_p19, List.forall_mem_cons.mpr ⟨lw_p20, List.forall_mem_cons.mpr ⟨lw_p21, List.forall_mem_cons.mpr ⟨lw_p22, List.forall_mem_cons.mpr ⟨lw_p23, List.forall_mem_cons.mpr ⟨lw_p24, List.forall_mem_cons.mpr ⟨lw_p25, List.forall_mem_cons.mpr ⟨lw_p26, List.forall_mem_cons.mpr ⟨lw_p27, List.forall_mem_cons.mpr ⟨lw_p28, List.forall_mem_cons.mpr ⟨lw_p29, List.forall_mem_cons.mpr ⟨lw_p30, List.forall_mem_cons.mpr ⟨lw_p31, fun _ h => absurd h List.not_mem_nil⟩⟩⟩⟩⟩⟩⟩⟩⟩⟩⟩⟩⟩⟩⟩⟩
theorem lw_p32 : lw_okq (⟨"DefaultReasonerModel", "consequences", "(I)I"⟩, 15) := ⟨⟨by decide +kernel, by decide +kernel⟩, List.mem_of_getElem? (i := 491) (by decide +kernel), List.mem_of_getElem? (i := 637) (by decide +kernel), List.mem_of_getElem? (i := 638) (by decide +kernel)⟩
theorem lw_p33 : lw_okq (⟨"DefaultReasonerModel", "isStable", "(I)Z"⟩, 15) := ⟨⟨by decide +kernel, by decide +kernel⟩, List.mem_of_getElem? (i := 491) (by decide +kernel), List.mem_of_getElem? (i := 645) (by decide +kernel), List.mem_of_getElem? (i := 646) (by decide +kernel)⟩
theorem lw_p34 : lw_okq (⟨"DefaultReasonerModel", "find", "()V"⟩, 15) := ⟨⟨by decide +kernel, by decide +kernel⟩, List.mem_of_getElem? (i := 491) (by decide +kernel), List.mem_of_getElem? (i := 653) (by decide +kernel), List.mem_of_getElem? (i := 654) (by decide +kernel)⟩
theorem lw_p35 : lw_okq (⟨"DefaultReasonerModel", "asks", "(I)Z"⟩, 15) := ⟨⟨by decide +kernel, by decide +kernel⟩, List.mem_of_getElem? (i := 491) (by decide +kernel), List.mem_of_getElem? (i := 661) (by decide +kernel), List.mem_of_getElem? (i := 662) (by decide +kernel)⟩
theorem lw_p36 : lw_okq (⟨"DefaultReasonerModel", "findPreferred", "()V"⟩, 15) := ⟨⟨by decide +kernel, by decide +kernel⟩, List.mem_of_getElem? (i := 491) (by decide +kernel), List.mem_of_getElem? (i := 669) (by decide +kernel), List.mem_of_getElem? (i := 670) (by decide +kernel)⟩
theorem lw_p37 : lw_okq (⟨"DefaultReasonerModel", "orders", "()I"⟩, 15) := ⟨⟨by decide +kernel, by decide +kernel⟩, List.mem_of_getElem? (i := 491) (by decide +kernel), List.mem_of_getElem? (i := 673) (by decide +kernel), List.mem_of_getElem? (i := 674) (by decide +kernel)⟩
theorem lw_p38 : lw_okq (⟨"DefaultReasonerModel", "setOrder", "([II)V"⟩, 15) := ⟨⟨by decide +kernel, by decide +kernel⟩, List.mem_of_getElem? (i := 491) (by decide +kernel), List.mem_of_getElem? (i := 677) (by decide +kernel), List.mem_of_getElem? (i := 678) (by decide +kernel)⟩
theorem lw_p39 : lw_okq (⟨"DefaultReasonerModel", "respects", "([I)Z"⟩, 15) := ⟨⟨by decide +kernel, by decide +kernel⟩, List.mem_of_getElem? (i := 491) (by decide +kernel), List.mem_of_getElem? (i := 681) (by decide +kernel), List.mem_of_getElem? (i := 682) (by decide +kernel)⟩
theorem lw_p40 : lw_okq (⟨"DefaultReasonerModel", "walk", "([I[I)I"⟩, 15) := ⟨⟨by decide +kernel, by decide +kernel⟩, List.mem_of_getElem? (i := 491) (by decide +kernel), List.mem_of_getElem? (i := 685) (by decide +kernel), List.mem_of_getElem? (i := 686) (by decide +kernel)⟩
theorem lw_p41 : lw_okq (⟨"DefaultReasonerModel", "first", "([II)I"⟩, 15) := ⟨⟨by decide +kernel, by decide +kernel⟩, List.mem_of_getElem? (i := 491) (by decide +kernel), List.mem_of_getElem? (i := 689) (by decide +kernel), List.mem_of_getElem? (i := 690) (by decide +kernel)⟩
theorem lw_p42 : lw_okq (⟨"DefaultReasonerModel", "preferred", "()I"⟩, 15) := ⟨⟨by decide +kernel, by decide +kernel⟩, List.mem_of_getElem? (i := 491) (by decide +kernel), List.mem_of_getElem? (i := 697) (by decide +kernel), List.mem_of_getElem? (i := 698) (by decide +kernel)⟩
theorem lw_p43 : lw_okq (⟨"DefaultReasonerModel", "isOrder", "(I)Z"⟩, 15) := ⟨⟨by decide +kernel, by decide +kernel⟩, List.mem_of_getElem? (i := 491) (by decide +kernel), List.mem_of_getElem? (i := 717) (by decide +kernel), List.mem_of_getElem? (i := 718) (by decide +kernel)⟩
def lw_privs_3 : List (MethodName × Nat) := [(⟨"DefaultReasonerModel", "consequences", "(I)I"⟩, 15), (⟨"DefaultReasonerModel", "isStable", "(I)Z"⟩, 15), (⟨"DefaultReasonerModel", "find", "()V"⟩, 15), (⟨"DefaultReasonerModel", "asks", "(I)Z"⟩, 15), (⟨"DefaultReasonerModel", "findPreferred", "()V"⟩, 15), (⟨"DefaultReasonerModel", "orders", "()I"⟩, 15), (⟨"DefaultReasonerModel", "setOrder", "([II)V"⟩, 15), (⟨"DefaultReasonerModel", "respects", "([I)Z"⟩, 15), (⟨"DefaultReasonerModel", "walk", "([I[I)I"⟩, 15), (⟨"DefaultReasonerModel", "first", "([II)I"⟩, 15), (⟨"DefaultReasonerModel", "preferred", "()I"⟩, 15), (⟨"DefaultReasonerModel", "isOrder", "(I)Z"⟩, 15)]
theorem lw_r3 : ∀ q ∈ lw_privs_3, lw_okq q := List.forall_mem_cons.mpr ⟨lw_p32, List.forall_mem_cons.mpr ⟨lw_p33, List.forall_mem_cons.mpr ⟨lw_p34, List.forall_mem_cons.mpr ⟨lw_p35, List.forall_mem_cons.mpr ⟨lw_p36, List.forall_mem_cons.mpr ⟨lw_p37, List.forall_mem_cons.mpr ⟨lw_p38, List.forall_mem_cons.mpr ⟨lw_p39, List.forall_mem_cons.mpr ⟨lw_p40, List.forall_mem_cons.mpr ⟨lw_p41, List.forall_mem_cons.mpr ⟨lw_p42, List.forall_mem_cons.mpr ⟨lw_p43, fun _ h => absurd h List.not_mem_nil⟩⟩⟩⟩⟩⟩⟩⟩⟩⟩⟩⟩
def lw_privs : List (MethodName × Nat) := lw_privs_1 ++ (lw_privs_2 ++ (lw_privs_3))
def lw_tbl : List Cond := k2_sels lw_privs ++ tables_1
theorem lw_privs_ok : ∀ q ∈ lw_privs, lw_okq q := by
  show ∀ q ∈ lw_privs_1 ++ (lw_privs_2 ++ (lw_privs_3)), lw_okq q
  exact List.forall_mem_append.mpr ⟨lw_r1, List.forall_mem_append.mpr ⟨lw_r2, lw_r3⟩⟩
/-- the streams that the claim lets the run draw from -/
abbrev lw_cs : List Choice := [Jvm.Choice.named "NaN.bits"]
theorem lw_bits : nanBits ∈ lw_cs := by first | decide | exact List.mem_cons_self | simp [lw_cs, nanBits]
end
section
/-! ===== BEGIN words of one list among another's, by their places ===== -/
theorem goodIn_r {big : List Cond} (ws : List Cond) (ps : List Nat) (hp : ws = ps.filterMap (fun i => big[i]?)) (h : ws.all goodWord = true) : GoodIn big ws := by
  intro w hw
  have h1 := List.all_eq_true.mp h w hw
  rw [hp] at hw
  obtain ⟨i, -, hi⟩ := List.mem_filterMap.mp hw
  have hm : w ∈ big := by first | exact List.mem_of_getElem? hi | exact List.getElem?_mem hi
  exact ⟨hm, good_of_word h1⟩
theorem goodIn_app {big a b : List Cond} (ha : GoodIn big a) (hb : GoodIn big b) : GoodIn big (a ++ b) := fun w h => (List.mem_append.mp h).elim (ha w) (hb w)
theorem goodIn_ca {big a b : List Cond} {c : Cond} (ha : GoodIn big (c :: a)) (hb : GoodIn big b) : GoodIn big (c :: (a ++ b)) := fun w h => (List.mem_cons.mp h).elim (fun e => ha w (List.mem_cons.mpr (Or.inl e))) (fun h => (List.mem_append.mp h).elim (fun h => ha w (List.mem_cons.mpr (Or.inr h))) (hb w))
theorem goodIn_sub {big ws : List Cond} (hm : ∀ w ∈ ws, w ∈ big) (h : ws.all goodWord = true) : GoodIn big ws := fun w hw => ⟨hm w hw, good_of_word (List.all_eq_true.mp h w hw)⟩
/-! ===== END ===== -/

/-! ===== BEGIN exceptions that leave a method, and their catching by the caller (launches without stack traces) ===== -/
section VXA
/-! The laws vx_back, vx_callV, vx_callS, vx_callSW, vx_throw0, vx_throwS follow proofs of the library, with one case more: JvmDerived/Free/Laws.lean (Back.of_free), Shelf42/LK1.lean (callV, callS), Shelf/KitTraced.lean (throwNew0V, throwNewS). -/
/-- where a method has thrown q: the class by its name, the cell, what was written, the world -/
def vx_T (XC : String → State → State → Prop) (st : State) (q : Addr) (t : State) (mc ms : Nat) (free : Addr → Prop) : Prop :=
  ∃ (E : String) (ce : Cell) (L : List Loc), XC E st t ∧ t.heap[q]? = some ce ∧ ce.vm = .none ∧ st.vm.findClass E = some ce.cls ∧ st.WarmedH t.vm ∧ st.sameButNew ({ t with vm := st.vm } : State) L mc ms ∧ ∀ z ∈ L, free z.base
def vx_Q (Qc : Array Value → State → Outcome → State → Prop) (XC : String → State → State → Prop) (mc ms : Nat) (free : Addr → Prop) : Array Value → State → Outcome → State → Prop := fun a st o t =>
  (Qc a st o t ∧ ∃ L, FrameEnd st o t L mc ms ∧ ∀ q ∈ L, free q.base) ∨ ∃ q, o = .threw q ∧ vx_T XC st q t mc ms free
/-- a callee that returns or throws -/
def vx_Met (l : Launch) (y : MethodName) (ws : List Cond) (rm : Room) (Pc : Array Value → State → Prop) (Qc : Array Value → State → Outcome → State → Prop) (XC : String → State → State → Prop) (mc ms : Nat) (free : Addr → Prop) : Prop :=
  MetFree l y (headSpec ws rm) Pc (fun _ _ _ _ _ => True) (vx_Q Qc XC mc ms free)
def vx_Post (XC : String → State → State → Prop) (mc ms : Nat) (free : Addr → Prop) : Pt → Array Value → Addr → Pt → Prop := fun A a q B =>
  ∃ (g : JFrame) (mk : MethodId) (t : State) (L : List Loc) (E : String) (ce : Cell), B.U.heap = t.heap ∧ B.U.vm = t.vm ∧ XC E (A.U.calling g mk a) t ∧ t.heap[q]? = some ce ∧ ce.vm = .none ∧ A.U.vm.findClass E = some ce.cls ∧ B.locs = A.locs ++ L ∧ (∀ z ∈ L, free z.base) ∧ B.cells = A.cells + mc ∧ B.slots = A.slots + ms
def vx_Back (l : Launch) (R : Room) (p : Program) (e : Env) (below : List Frame) (s : State) (sargs : Array Value) (y : MethodName) (len W9 : Nat)
    (Pre : Pt → Array Value → Prop) (Post : Pt → Array Value → Option Value → Pt → Prop) (PostX : Pt → Array Value → Addr → Pt → Prop) : Prop :=
  ∀ (m : MethodId) (meth : Method) (c : Code) (A : Pt) (g : JFrame) (ig : Instr) (mk : MethodId) (a : Array Value),
    Stand p l e R s m sargs below meth c A.U A.locs A.cells A.slots → g.method = m → g.locals.size = c.maxLocals → decode c.code g.pc = .ok (ig, len) →
    2 * g.monitorRoom + (g.stack.map fun v => v.category).sum ≤ W9 → A.U.methodNamed? y = some mk → Pre A a →
    (∃ (v : Option Value) (B : Pt), Stand p l e R s m sargs below meth c B.U B.locs B.cells B.slots ∧ Post A a v B ∧
      Steps p.tables e below (doInvoke e (A.U.setTop g) [] mk a).1 (B.U.setTop { g with pc := g.pc + len, stack := v.toList ++ g.stack })) ∨
    (∃ (q : Addr) (B : Pt), Stand p l e R s m sargs below meth c B.U B.locs B.cells B.slots ∧ PostX A a q B ∧
      Steps p.tables e below (doInvoke e (A.U.setTop g) [] mk a).1 ((B.U.setTop g).pushFrame (.throwing q)))
section Payer
variable {l : Launch} {R : Room} {p : Program} {e : Env} {below : List Frame} {s : State} {sargs : Array Value} {y : MethodName} {len W9 : Nat}
theorem vx_back {ws : List Cond} {rm : Room} {Pc : Array Value → State → Prop} {Qc : Array Value → State → Outcome → State → Prop} {XC : String → State → State → Prop} {mc ms : Nat} {free : Addr → Prop} {bytes : ByteArray} {maxL : Nat} {ret : Option FieldType}
    (hM : vx_Met l y ws rm Pc Qc XC mc ms free) (hblind : FrameBlind Pc) (hrc : rm.cells = mc) (hrs : rm.slots = ms)
    (hframes : rm.frames + 1 ≤ R.frames) (hlocals : W9 + (maxL + 11) + rm.locals ≤ R.locals)
    (hws : ∀ w ∈ ws, ∀ a' U, s.WarmedH U.vm → w.before a' U = true) (hcode : Cond.code y bytes maxL ret ∈ ws) (hinit : ∀ a' U, s.WarmedH U.vm → (Cond.initialized y.cls).before a' U = true) :
    vx_Back l R p e below s sargs y len W9 (PreOf R mc ms Pc) (PostOf Qc mc ms free) (vx_Post XC mc ms free) := by
  intro m meth c A g ig mk a X hg hsize hdg hW hn hp
  have h1 : (headSpec ws rm).pre.before a A.U = true := atoms_intro fun w hw => hws w hw _ _ X.warmed
  have h2 : (Cond.code y bytes maxL ret).before a A.U = true := hws _ hcode _ _ X.warmed
  have h3 : (Cond.initialized y.cls).before a A.U = true := hinit _ _ X.warmed
  have h4 : A.cells + (headSpec ws rm).room.cells ≤ R.cells := by rw [show (headSpec ws rm).room.cells = mc from hrc]; exact hp.1
  have h5 : A.slots + (headSpec ws rm).room.slots ≤ R.slots := by rw [show (headSpec ws rm).room.slots = ms from hrs]; exact hp.2.1
  have hPc : Pc a (A.U.calling g mk a) := hblind _ _ _ _ hp.2.2
  obtain ⟨U, Ls, c0, s0⟩ := A
  dsimp only [Pt.U, Pt.locs, Pt.cells, Pt.slots] at h1 h2 h3 h4 h5 X hn hPc ⊢
  obtain ⟨methY, cY, hmY, hcY, -, hlY, -, -, -, -⟩ := Cond.code_spec hn h2
  obtain ⟨kY, hkY, -⟩ := className_of_methodNamed hn
  have hinitY : kY.init = .initialized := Cond.initialized_spec (findClass_of_methodNamed hn) hkY h3
  have h : At U g.method c below := by rw [hg]; exact X.here
  have hlocals9 : W9 + (maxL + 11) + (headSpec ws rm).room.locals ≤ R.locals := hlocals
  have happ : (headSpec ws rm).appliesLoose y e.platform (U.calling g mk a) = true :=
    Spec.appliesLoose_calling (g := g) h hdg hn hkY hinitY
      (X.room_calling (g := g) (R' := (headSpec ws rm).room) hsize hmY hcY hframes (by rw [hlY]; omega) h4 h5) h1
  obtain ⟨mid, hmid⟩ := h.above
  have hfr : (U.setTop g).frames = (.java g :: mid) ++ below := by rw [State.frames_setTop' g h.top, hmid]; rfl
  obtain ⟨o, s₂, hsteps, -, hend, hq⟩ := Steps.callFree hM p X.admits X.cas X.clock (acts := []) hfr happ hPc trivial
  have hq' : vx_Q Qc XC mc ms free a (U.calling g mk a) o s₂ := hq
  rw [State.frames_setTop' g h.top] at hend
  obtain ⟨g₀, hg0⟩ := Option.isSome_iff_exists.mp h.top
  obtain ⟨r, hr⟩ := State.topJava?_eq_some.mp hg0
  have hr' : (({ U with heap := s₂.heap, slotsUsed := s₂.slotsUsed } : State).setVm s₂.vm).frames = .java g₀ :: r := hr
  rcases hq' with ⟨hqc, L, hfe, hL⟩ | ⟨q, rfl, E, ce, L, hx, hce, hcv, hcl, hW₂, hsm, hL⟩
  · obtain ⟨⟨v, rfl⟩, hW₂, e2, q2, q3, q4, q5, q6⟩ := id hfe
    have e3 : s₂ = ({ (U.calling g mk a).setFrames s₂.frames with heap := s₂.heap, slotsUsed := s₂.slotsUsed } : State).setVm s₂.vm := by
      have : s₂ = ({ s₂ with vm := (U.calling g mk a).vm } : State).setVm s₂.vm := rfl
      rw [e2] at this
      exact this
    obtain ⟨c₂, i₂, len₂, hc₂, hd₂, hf₂⟩ := hend
    have hW' : U.WarmedH s₂.vm := hW₂
    have hcc : c₂ = c := by
      have h1 : s₂.code? g.method = U.code? g.method := by
        rw [State.code?_eq, State.code?_eq, hW'.alike.method?]
      exact Option.some.inj (hc₂.symm.trans (h1.trans h.code))
    subst hcc
    have hlen : len₂ = len := by rw [hdg] at hd₂; cases hd₂; rfl
    subst hlen
    have hs₂ : s₂ = (({ U with heap := s₂.heap, slotsUsed := s₂.slotsUsed } : State).setVm s₂.vm).setTop { g with pc := g.pc + len₂, stack := v.toList ++ g.stack } := by
      refine e3.trans ?_
      rw [hf₂, State.calling_eq h.top, State.setFrames_setFrames, State.setTop_of_frames _ hr', hr]
      rfl
    have hsame : U.sameButNew ({ U with heap := s₂.heap, slotsUsed := s₂.slotsUsed } : State) L mc ms := by
      refine ⟨?_, q2, q3, q4, q5, q6⟩
      obtain ⟨t, ht, -⟩ := State.frames_cons hr
      show ({ U with heap := s₂.heap, slotsUsed := s₂.slotsUsed } : State) = { U.setFrames U.frames with heap := s₂.heap, slotsUsed := s₂.slotsUsed }
      rw [State.setFrames_self ht]
    subst hg
    refine Or.inl ⟨v, ⟨(({ U with heap := s₂.heap, slotsUsed := s₂.slotsUsed } : State).setVm s₂.vm), Ls ++ L, c0 + mc, s0 + ms⟩,
      ⟨X.admits, X.cas, X.clock, X.frames, X.room, X.hears, X.method, X.code, (X.here.setHeapUsed s₂.heap s₂.slotsUsed).setVm hW'.alike, X.tail, State.WarmedH.trans X.warmed hW', X.limits, X.bytes, X.same.trans (hsame.setVm s.vm)⟩,
      ⟨g, mk, s₂, L, rfl, rfl, hqc, rfl, hL, rfl, rfl⟩, ?_⟩
    show Steps p.tables e below _ ((({ U with heap := s₂.heap, slotsUsed := s₂.slotsUsed } : State).setVm s₂.vm).setTop { g with pc := g.pc + len₂, stack := v.toList ++ g.stack })
    rw [← hs₂]
    exact hsteps
  · obtain ⟨e2, q2, q3, q4, q5, q6⟩ := id hsm
    have e3 : s₂ = ({ (U.calling g mk a).setFrames s₂.frames with heap := s₂.heap, slotsUsed := s₂.slotsUsed } : State).setVm s₂.vm := by
      have : s₂ = ({ s₂ with vm := (U.calling g mk a).vm } : State).setVm s₂.vm := rfl
      rw [e2] at this
      exact this
    have hf₂ : s₂.frames = .throwing q :: .java g :: U.frames.tail := hend
    have hW' : U.WarmedH s₂.vm := hW₂
    have hs₂ : s₂ = ((({ U with heap := s₂.heap, slotsUsed := s₂.slotsUsed } : State).setVm s₂.vm).setTop g).pushFrame (.throwing q) := by
      refine e3.trans ?_
      rw [hf₂, State.calling_eq h.top, State.setFrames_setFrames, State.pushFrame, State.frames_setTop _ hr', State.setTop_of_frames _ hr', State.setFrames_setFrames, hr]
      rfl
    have hsame : U.sameButNew ({ U with heap := s₂.heap, slotsUsed := s₂.slotsUsed } : State) L mc ms := by
      refine ⟨?_, q2, q3, q4, q5, q6⟩
      obtain ⟨t, ht, -⟩ := State.frames_cons hr
      show ({ U with heap := s₂.heap, slotsUsed := s₂.slotsUsed } : State) = { U.setFrames U.frames with heap := s₂.heap, slotsUsed := s₂.slotsUsed }
      rw [State.setFrames_self ht]
    subst hg
    refine Or.inr ⟨q, ⟨(({ U with heap := s₂.heap, slotsUsed := s₂.slotsUsed } : State).setVm s₂.vm), Ls ++ L, c0 + mc, s0 + ms⟩,
      ⟨X.admits, X.cas, X.clock, X.frames, X.room, X.hears, X.method, X.code, (X.here.setHeapUsed s₂.heap s₂.slotsUsed).setVm hW'.alike, X.tail, State.WarmedH.trans X.warmed hW', X.limits, X.bytes, X.same.trans (hsame.setVm s.vm)⟩,
      ⟨g, mk, s₂, L, E, ce, rfl, rfl, hx, hce, hcv, hcl, rfl, hL, rfl, rfl⟩, ?_⟩
    show Steps p.tables e below _ (((({ U with heap := s₂.heap, slotsUsed := s₂.slotsUsed } : State).setVm s₂.vm).setTop g).pushFrame (.throwing q))
    rw [← hs₂]
    exact hsteps
end Payer
section Calls
variable {p : Program} {l : Launch} {e : Env} {R : Room} {s : State} {m : MethodId} {args : Array Value} {below : List Frame} {meth : Method} {c : Code} {T : State} {locs : List Loc} {cells slots : Nat}
theorem vx_callV (X : Stand p l e R s m args below meth c T locs cells slots) (hexec : p.tables.exec = Jvm.exec) {own C : String} {index : Nat} {y : MethodName} {bytes : ByteArray} {maxL : Nat} {ret : Option FieldType}
    (hown : s.vm.findClass own = some m.cls) (hlink : (Cond.methodLink own index y).before args s = true) (hinst : (Cond.instanceMethod y).before args s = true) (hsel : (Cond.selects C y y).before args s = true)
    (hcode : (Cond.code y bytes maxL ret).before args s = true) (hy : y.cls ≠ "java/lang/invoke/MethodHandle" ∧ y.cls ≠ "java/lang/invoke/VarHandle")
    {W9 : Nat} {Pre : Pt → Array Value → Prop} {Post : Pt → Array Value → Option Value → Pt → Prop} {PostX : Pt → Array Value → Addr → Pt → Prop} (hK : vx_Back l R p e below s args y 3 W9 Pre Post PostX)
    {b : Addr} {cellB : Cell} (hcell : T.heap[b]? = some cellB) (hobj : cellB.vm.isStatics = false) (hcls : s.vm.findClass C = some cellB.cls)
    {g : JFrame} (hg : g.method = m) (hsize : g.locals.size = c.maxLocals) {argsL rest : List Value} (hlen : ∀ sig, parseMethodDescriptor y.desc = some sig → argsL.length = sig.parameters.length)
    (hstack : g.stack = argsL.reverse ++ .ref b :: rest) (hW : 2 * g.monitorRoom + (rest.map fun v => v.category).sum ≤ W9) (hdg : decode c.code g.pc = .ok (.invokevirtual index, 3))
    (hpre : ∀ vm₁, s.WarmedH vm₁ → Pre ⟨T.setVm vm₁, locs, cells, slots⟩ (Value.ref b :: argsL).toArray) :
    (∃ (v : Option Value) (vm₁ : Vm) (B : Pt), s.WarmedH vm₁ ∧ Stand p l e R s m args below meth c B.U B.locs B.cells B.slots ∧ Post ⟨T.setVm vm₁, locs, cells, slots⟩ (Value.ref b :: argsL).toArray v B ∧
      ∀ target, Steps p.tables e below (B.U.setTop { g with pc := g.pc + 3, stack := v.toList ++ rest }) target → Steps p.tables e below (T.setTop g) target) ∨
    (∃ (q : Addr) (vm₁ : Vm) (B : Pt), s.WarmedH vm₁ ∧ Stand p l e R s m args below meth c B.U B.locs B.cells B.slots ∧ PostX ⟨T.setVm vm₁, locs, cells, slots⟩ (Value.ref b :: argsL).toArray q B ∧
      Steps p.tables e below (T.setTop g) ((B.U.setTop { g with stack := rest }).pushFrame (.throwing q))) := by
  obtain ⟨mk, methM, hnamed, hmethM, hstM, habM⟩ := Cond.instanceMethod_spec hinst
  obtain ⟨methM', cM, hmethM', -, -, -, -, -, -, hsigM⟩ := Cond.code_spec hnamed hcode
  cases hmethM.symm.trans hmethM'
  obtain ⟨c2, r2, m2, q1, q2, q3, q4, kP, hkP, hkPi⟩ := Cond.selects_spec hsel
  cases hcls.symm.trans q1
  cases (State.methodFound?_of_named hnamed hy).symm.trans q2
  cases hnamed.symm.trans q3
  have hselP : selectMethod e.platform s.vm cellB.cls mk = .method mk := by rw [Launch.admits_selectMethod X.admits]; exact q4
  obtain ⟨vm₁, X₁, hstep₁⟩ := X.invokevirtual hexec hown hlink hnamed hmethM hstM hkP hkPi hy (a := b) (cell := cellB) hcell
    (fun z h => by rw [h] at hobj; cases hobj) hselP hmethM habM hkP hkPi (g := g) hg (argsL := argsL) (rest := rest) (hlen _ hsigM) hstack hdg
  rcases hK m meth c ⟨T.setVm vm₁, locs, cells, slots⟩ { g with stack := rest } (.invokevirtual index) mk (Value.ref b :: argsL).toArray X₁ hg hsize hdg hW (X₁.named hnamed) (hpre vm₁ X₁.warmed) with ⟨v, B, X', hpost, hsteps⟩ | ⟨q, B, X', hpost, hsteps⟩
  · exact Or.inl ⟨v, vm₁, B, X₁.warmed, X', hpost, fun target h => hstep₁ _ fun acts => by rw [doInvoke_state]; exact hsteps.trans h⟩
  · exact Or.inr ⟨q, vm₁, B, X₁.warmed, X', hpost, hstep₁ _ fun acts => by rw [doInvoke_state]; exact hsteps⟩
theorem vx_callS (X : Stand p l e R s m args below meth c T locs cells slots) (hexec : p.tables.exec = Jvm.exec) {own : String} {index : Nat} {y : MethodName} {bytes : ByteArray} {maxL : Nat} {ret : Option FieldType}
    (hown : s.vm.findClass own = some m.cls) (hlink : (Cond.methodLink own index y).before args s = true) (hstat : (Cond.static y).before args s = true) (hinit : (Cond.initialized y.cls).before args s = true)
    (hcode : (Cond.code y bytes maxL ret).before args s = true) (hy : y.cls ≠ "java/lang/invoke/MethodHandle" ∧ y.cls ≠ "java/lang/invoke/VarHandle")
    {W9 : Nat} {Pre : Pt → Array Value → Prop} {Post : Pt → Array Value → Option Value → Pt → Prop} {PostX : Pt → Array Value → Addr → Pt → Prop} (hK : vx_Back l R p e below s args y 3 W9 Pre Post PostX)
    {g : JFrame} (hg : g.method = m) (hsize : g.locals.size = c.maxLocals) {argsL rest : List Value} (hlen : ∀ sig, parseMethodDescriptor y.desc = some sig → argsL.length = sig.parameters.length)
    (hstack : g.stack = argsL.reverse ++ rest) (hW : 2 * g.monitorRoom + (rest.map fun v => v.category).sum ≤ W9) (hdg : decode c.code g.pc = .ok (.invokestatic index, 3))
    (hpre : ∀ vm₁, s.WarmedH vm₁ → Pre ⟨T.setVm vm₁, locs, cells, slots⟩ argsL.toArray) :
    (∃ (v : Option Value) (vm₁ : Vm) (B : Pt), s.WarmedH vm₁ ∧ Stand p l e R s m args below meth c B.U B.locs B.cells B.slots ∧ Post ⟨T.setVm vm₁, locs, cells, slots⟩ argsL.toArray v B ∧
      ∀ target, Steps p.tables e below (B.U.setTop { g with pc := g.pc + 3, stack := v.toList ++ rest }) target → Steps p.tables e below (T.setTop g) target) ∨
    (∃ (q : Addr) (vm₁ : Vm) (B : Pt), s.WarmedH vm₁ ∧ Stand p l e R s m args below meth c B.U B.locs B.cells B.slots ∧ PostX ⟨T.setVm vm₁, locs, cells, slots⟩ argsL.toArray q B ∧
      Steps p.tables e below (T.setTop g) ((B.U.setTop { g with stack := rest }).pushFrame (.throwing q))) := by
  obtain ⟨mk, hnamed⟩ := Cond.code_named hcode
  obtain ⟨methM, cM, hmethM, -, -, -, -, -, -, hsigM⟩ := Cond.code_spec hnamed hcode
  have hstatic : methM.isStatic = true := Cond.static_spec hnamed hmethM hstat
  obtain ⟨kP, hkP, -⟩ := className_of_methodNamed hnamed
  have hinitP : kP.init = .initialized := Cond.initialized_spec (findClass_of_methodNamed hnamed) hkP hinit
  obtain ⟨vm₁, X₁, hstep₁⟩ := X.invokestatic hexec hown hlink hnamed hmethM hstatic hkP hinitP hy (g := g) hg (argsL := argsL) (rest := rest) (hlen _ hsigM) hstack hdg
  rcases hK m meth c ⟨T.setVm vm₁, locs, cells, slots⟩ { g with stack := rest } (.invokestatic index) mk argsL.toArray X₁ hg hsize hdg hW (X₁.named hnamed) (hpre vm₁ X₁.warmed) with ⟨v, B, X', hpost, hsteps⟩ | ⟨q, B, X', hpost, hsteps⟩
  · exact Or.inl ⟨v, vm₁, B, X₁.warmed, X', hpost, fun target h => hstep₁ _ fun acts => by rw [doInvoke_state]; exact hsteps.trans h⟩
  · exact Or.inr ⟨q, vm₁, B, X₁.warmed, X', hpost, hstep₁ _ fun acts => by rw [doInvoke_state]; exact hsteps⟩
end Calls
theorem vx_cls {s : State} {T : State} {vm₁ : Vm} {E : String} {k : ClassId} (hW : s.WarmedH vm₁) (h : (T.setVm vm₁).vm.findClass E = some k) : s.vm.findClass E = some k := by
  have h1 : vm₁.findClass E = some k := h
  rw [hW.alike.findClass] at h1
  exact h1
/-- the method's frame g, with q thrown over it -/
def vx_W (p : Program) (l : Launch) (e : Env) (R : Room) (s : State) (m : MethodId) (args : Array Value) (below : List Frame) (meth : Method) (c : Code) (H : Heap) (locs : List Loc) (cells slots : Nat) (Q : State → Prop) (g : JFrame) (q : Addr) : Prop :=
  ∀ T : State, T.heap = H → Stand p l e R s m args below meth c T locs cells slots → ∃ t, Steps p.tables e below ((T.setTop g).pushFrame (.throwing q)) t ∧ Q t
def vx_Run (p : Program) (l : Launch) (e : Env) (R : Room) (s : State) (m : MethodId) (args : Array Value) (below : List Frame) (meth : Method) (c : Code) (H : Heap) (locs : List Loc) (cells slots mc ms : Nat) (g : JFrame) (rest : List Value) (Qa : State → Outcome → State → Prop) (XC : String → State → State → Prop) (free : Addr → Prop) : Prop :=
  ∀ T : State, T.heap = H → Stand p l e R s m args below meth c T locs cells slots →
    (∃ (v : Option Value) (st₀ t T' : State) (L : List Loc), st₀.heap = H ∧ Stand p l e R s m args below meth c T' (locs ++ L) (cells + mc) (slots + ms) ∧ (∀ q ∈ L, free q.base) ∧ T'.heap = t.heap ∧ T'.vm = t.vm ∧ Qa st₀ (.returned v) t ∧
      Goes p e below T g T' { g with pc := g.pc + 3, stack := v.toList ++ rest }) ∨
    (∃ (q : Addr) (st₀ t T' : State) (L : List Loc) (E : String) (ce : Cell), st₀.heap = H ∧ Stand p l e R s m args below meth c T' (locs ++ L) (cells + mc) (slots + ms) ∧ (∀ z ∈ L, free z.base) ∧ T'.heap = t.heap ∧ T'.vm = t.vm ∧ XC E st₀ t ∧ t.heap[q]? = some ce ∧ ce.vm = .none ∧ s.vm.findClass E = some ce.cls ∧
      Steps p.tables e below (T.setTop g) ((T'.setTop { g with stack := rest }).pushFrame (.throwing q)))
def vx_X {S : Type} (px : S → Prop) (B : String → S → State → Prop) (A : Nat → Prop) : String → State → State → Prop := fun E st t => ∃ u : S, px u ∧ B E u t ∧ va_F A st t
section Runs
variable {p : Program} {l : Launch} {e : Env} {R : Room} {s : State} {m : MethodId} {args : Array Value} {below : List Frame} {meth : Method} {c : Code} {H : Heap} {locs : List Loc} {cells slots : Nat}
variable {y : MethodName} {bytes cc : ByteArray} {maxL nL mc ms n index : Nat} {ret : Option FieldType} {ws : List Cond} {rm : Room} {Pc : Array Value → State → Prop} {Qc : Array Value → State → Outcome → State → Prop} {XC : String → State → State → Prop} {free : Addr → Prop} {Ts : List Cond} {own C : String} {b : Addr} {As rest : List Value} {g : JFrame}
theorem vx_callBack (cb : CallB R s args own index y bytes maxL ret ws rm mc ms n) (hM : vx_Met l y ws rm Pc Qc XC mc ms free) (hbl : FrameBlind Pc) : vx_Back l R p e below s args y 3 8 (PreOf R mc ms Pc) (PostOf Qc mc ms free) (vx_Post XC mc ms free) := by
  obtain ⟨hrc, hrs, hfr, hlo, hws, hcw, -, hini, -⟩ := cb
  exact vx_back (bytes := bytes) (maxL := maxL) (ret := ret) hM hbl hrc hrs hfr hlo hws hcw (fun a' U hW => word_at hW (Or.inl (by first | rfl | simp [Cond.onTables, Cond.keeps, Cond.steady])) hini)
theorem vx_runV (S : CallFix p m c cc nL s args Ts own) (hM : vx_Met l y ws rm Pc Qc XC mc ms free) (cw : CallW R s args own C index y bytes maxL ret ws rm mc ms n) (hp : PreV s H C b Pc As)
    (hg : g.method = m) (hn : As.length = n) (hsize : g.locals.size = nL) (hstack : g.stack = As.reverse ++ .ref b :: rest) (hW : 2 * g.monitorRoom + (rest.map fun v => v.category).sum ≤ 8) (hdg : decode cc g.pc = .ok (.invokevirtual index, 3)) (hf : cells + mc ≤ R.cells ∧ slots + ms ≤ R.slots) :
    vx_Run p l e R s m args below meth c H locs cells slots mc ms g rest (Qc (Value.ref b :: As).toArray) XC free := by
  have hK : vx_Back l R p e below s args y 3 8 (PreOf R mc ms Pc) (PostOf Qc mc ms free) (vx_Post XC mc ms free) := vx_callBack cw.1 hM hp.1
  obtain ⟨⟨-, -, -, -, -, -, hcode, -, hy, hlen, hl⟩, hin, hse⟩ := cw
  obtain ⟨hx, hb, hml, ho, -⟩ := S
  obtain ⟨-, ⟨cellB, hcB, hoB, hclB⟩, hPc⟩ := hp
  intro T hT X
  rcases vx_callV X hx (C := C) (bytes := bytes) (maxL := maxL) (ret := ret) ho hl hin hse hcode hy hK (by rw [hT]; exact hcB) hoB hclB hg (hsize.trans hml.symm) (argsL := As) (rest := rest) (fun sig h => hn.trans (hlen sig h)) hstack hW (by rw [hb]; exact hdg)
    (fun vm₁ hW₁ => ⟨hf.1, hf.2, hPc (T.setVm vm₁) hT hW₁⟩) with ⟨v, vm₁, ⟨U', l2, c2, s2⟩, hW₁, X', ⟨g', mk, t, L, e1, e2, hq, h1, hL, h2, h3⟩, st⟩ | ⟨q, vm₁, ⟨U', l2, c2, s2⟩, hW₁, X', ⟨g', mk, t, L, E, ce, e1, e2, hq, hce, hcv, hcl, h1, hL, h2, h3⟩, st⟩
  · dsimp only [Pt.U, Pt.locs, Pt.cells, Pt.slots] at X' e1 e2 h1 h2 h3 st
    subst h1; subst h2; subst h3
    exact Or.inl ⟨v, (T.setVm vm₁).calling g' mk (Value.ref b :: As).toArray, t, U', L, hT, X', hL, e1, e2, hq, st⟩
  · dsimp only [Pt.U, Pt.locs, Pt.cells, Pt.slots] at X' e1 e2 h1 h2 h3 st hcl
    subst h1; subst h2; subst h3
    exact Or.inr ⟨q, (T.setVm vm₁).calling g' mk (Value.ref b :: As).toArray, t, U', L, E, ce, hT, X', hL, e1, e2, hq, hce, hcv, vx_cls hW₁ hcl, st⟩
theorem vx_runS (S : CallFix p m c cc nL s args Ts own) (hM : vx_Met l y ws rm Pc Qc XC mc ms free) (cw : CallB R s args own index y bytes maxL ret ws rm mc ms n ∧ (Cond.static y).before args s = true) (hp : PreS s H Pc As)
    (hg : g.method = m) (hn : As.length = n) (hsize : g.locals.size = nL) (hstack : g.stack = As.reverse ++ rest) (hW : 2 * g.monitorRoom + (rest.map fun v => v.category).sum ≤ 8) (hdg : decode cc g.pc = .ok (.invokestatic index, 3)) (hf : cells + mc ≤ R.cells ∧ slots + ms ≤ R.slots) :
    vx_Run p l e R s m args below meth c H locs cells slots mc ms g rest (Qc As.toArray) XC free := by
  have hK : vx_Back l R p e below s args y 3 8 (PreOf R mc ms Pc) (PostOf Qc mc ms free) (vx_Post XC mc ms free) := vx_callBack cw.1 hM hp.1
  obtain ⟨⟨-, -, -, -, -, -, hcode, hini, hy, hlen, hl⟩, hstt⟩ := cw
  obtain ⟨hx, hb, hml, ho, -⟩ := S
  intro T hT X
  rcases vx_callS X hx (bytes := bytes) (maxL := maxL) (ret := ret) ho hl hstt hini hcode hy hK hg (hsize.trans hml.symm) (argsL := As) (rest := rest) (fun sig h => hn.trans (hlen sig h)) hstack hW (by rw [hb]; exact hdg)
    (fun vm₁ hW₁ => ⟨hf.1, hf.2, hp.2 (T.setVm vm₁) hT hW₁⟩) with ⟨v, vm₁, ⟨U', l2, c2, s2⟩, hW₁, X', ⟨g', mk, t, L, e1, e2, hq, h1, hL, h2, h3⟩, st⟩ | ⟨q, vm₁, ⟨U', l2, c2, s2⟩, hW₁, X', ⟨g', mk, t, L, E, ce, e1, e2, hq, hce, hcv, hcl, h1, hL, h2, h3⟩, st⟩
  · dsimp only [Pt.U, Pt.locs, Pt.cells, Pt.slots] at X' e1 e2 h1 h2 h3 st
    subst h1; subst h2; subst h3
    exact Or.inl ⟨v, (T.setVm vm₁).calling g' mk As.toArray, t, U', L, hT, X', hL, e1, e2, hq, st⟩
  · dsimp only [Pt.U, Pt.locs, Pt.cells, Pt.slots] at X' e1 e2 h1 h2 h3 st hcl
    subst h1; subst h2; subst h3
    exact Or.inr ⟨q, (T.setVm vm₁).calling g' mk As.toArray, t, U', L, E, ce, hT, X', hL, e1, e2, hq, hce, hcv, vx_cls hW₁ hcl, st⟩
end Runs
section Rows
variable {p : Program} {l : Launch} {e : Env} {R : Room} {s : State} {m : MethodId} {args : Array Value} {below : List Frame} {meth : Method} {c : Code} {H : Heap} {locs : List Loc} {cells slots : Nat} {Q : State → Prop}
variable {mc ms : Nat} {free : Addr → Prop} {A0 A1 : Nat → Prop} {H0 : Heap} {a : Array Value} {pc : Nat} {ls : Array Slot} {st0 rest : List Value}
theorem vx_keep {st₀ t T' : State} {L : List Loc} (h0 : st₀.heap = H) (e1 : T'.heap = t.heap) (hS : va_S A0 H0 H locs) (hA : ∀ q, q < H.size → A1 q → A0 q) (hf : ∀ q, free q → A0 q) (hL : ∀ q ∈ L, free q.base) (hF : va_F A1 st₀ t) :
    H.size ≤ T'.heap.size ∧ (∀ q : Nat, q < H.size → ¬ A1 q → T'.heap[q]? = H[q]?) ∧ va_S A0 H0 T'.heap (locs ++ L) := by
  obtain ⟨hz, hk⟩ := hF
  rw [h0] at hz hk
  exact ⟨by rw [e1]; exact hz, fun q h1 h2 => by rw [e1]; exact hk q h1 h2,
    ⟨Nat.le_trans hS.1 (by rw [e1]; exact hz), fun q h1 h2 => by rw [e1, hk q (Nat.lt_of_lt_of_le h1 hS.1) (fun z => h2 (hA q (Nat.lt_of_lt_of_le h1 hS.1) z))]; exact hS.2.1 q h1 h2, fun q hq => by
      rcases List.mem_append.mp hq with h | h
      · exact hS.2.2 q h
      · exact hf _ (hL q h)⟩⟩
theorem vx_calli {S SX : Type} {post : Int32 → S → Prop} {px : SX → Prop} {B : S → State → Prop} {BX : String → SX → State → Prop} {AX : Nat → Prop} (hr : vx_Run p l e R s m args below meth c H locs cells slots mc ms (F0 m pc ls st0) rest (va_Qi post B A1 a) (vx_X px BX AX) free) (hS : va_S A0 H0 H locs) (hA : ∀ q, q < H.size → A1 q → A0 q) (hf : ∀ q, free q → A0 q) (hAX : ∀ q, q < H.size → AX q → A0 q)
    (kx : ∀ (E : String) (ce : Cell) (q9 : Addr) (u : SX) (t : State) (H1 : Heap) (locs1 : List Loc), t.heap = H1 → s.vm.Alike t.vm → px u → BX E u t → H.size ≤ H1.size → (∀ q : Nat, q < H.size → ¬ AX q → H1[q]? = H[q]?) → va_S A0 H0 H1 locs1 → H1[q9]? = some ce → ce.vm = .none → s.vm.findClass E = some ce.cls → vx_W p l e R s m args below meth c H1 locs1 (cells + mc) (slots + ms) Q (F0 m pc ls rest) q9)
    (kk : ∀ (r : Int32) (u : S) (t : State) (H1 : Heap) (locs1 : List Loc), t.heap = H1 → s.vm.Alike t.vm → post r u → B u t → H.size ≤ H1.size → (∀ q : Nat, q < H.size → ¬ A1 q → H1[q]? = H[q]?) → va_S A0 H0 H1 locs1 → W p l e R s m args below meth c H1 locs1 (cells + mc) (slots + ms) Q (F0 m (pc + 3) ls (.int r :: rest))) : W p l e R s m args below meth c H locs cells slots Q (F0 m pc ls st0) := by
  intro T hT X
  rcases hr T hT X with ⟨v, st₀, t, T', L, h0, X', hL, e1, e2, ⟨⟨r, u, hv, hp, hb⟩, hF⟩, st⟩ | ⟨q, st₀, t, T', L, E, ce, h0, X', hL, e1, e2, ⟨u, hp, hb, hF⟩, hce, hcv, hcl, st⟩
  · cases hv
    obtain ⟨k1, k2, k3⟩ := vx_keep h0 e1 hS hA hf hL hF
    obtain ⟨t2, a1, b1⟩ := kk r u t T'.heap (locs ++ L) e1.symm (by rw [← e2]; exact X'.warmed.alike) hp hb k1 k2 k3 T' rfl X'
    exact ⟨t2, st t2 a1, b1⟩
  · obtain ⟨k1, k2, k3⟩ := vx_keep h0 e1 hS hAX hf hL hF
    obtain ⟨t2, a1, b1⟩ := kx E ce q u t T'.heap (locs ++ L) e1.symm (by rw [← e2]; exact X'.warmed.alike) hp hb k1 k2 k3 (by rw [e1]; exact hce) hcv hcl T' rfl X'
    exact ⟨t2, st.trans a1, b1⟩
theorem vx_calll {S SX : Type} {post : Int64 → S → Prop} {px : SX → Prop} {B : S → State → Prop} {BX : String → SX → State → Prop} {AX : Nat → Prop} (hr : vx_Run p l e R s m args below meth c H locs cells slots mc ms (F0 m pc ls st0) rest (va_Ql post B A1 a) (vx_X px BX AX) free) (hS : va_S A0 H0 H locs) (hA : ∀ q, q < H.size → A1 q → A0 q) (hf : ∀ q, free q → A0 q) (hAX : ∀ q, q < H.size → AX q → A0 q)
    (kx : ∀ (E : String) (ce : Cell) (q9 : Addr) (u : SX) (t : State) (H1 : Heap) (locs1 : List Loc), t.heap = H1 → s.vm.Alike t.vm → px u → BX E u t → H.size ≤ H1.size → (∀ q : Nat, q < H.size → ¬ AX q → H1[q]? = H[q]?) → va_S A0 H0 H1 locs1 → H1[q9]? = some ce → ce.vm = .none → s.vm.findClass E = some ce.cls → vx_W p l e R s m args below meth c H1 locs1 (cells + mc) (slots + ms) Q (F0 m pc ls rest) q9)
    (kk : ∀ (r : Int64) (u : S) (t : State) (H1 : Heap) (locs1 : List Loc), t.heap = H1 → s.vm.Alike t.vm → post r u → B u t → H.size ≤ H1.size → (∀ q : Nat, q < H.size → ¬ A1 q → H1[q]? = H[q]?) → va_S A0 H0 H1 locs1 → W p l e R s m args below meth c H1 locs1 (cells + mc) (slots + ms) Q (F0 m (pc + 3) ls (.long r :: rest))) : W p l e R s m args below meth c H locs cells slots Q (F0 m pc ls st0) := by
  intro T hT X
  rcases hr T hT X with ⟨v, st₀, t, T', L, h0, X', hL, e1, e2, ⟨⟨r, u, hv, hp, hb⟩, hF⟩, st⟩ | ⟨q, st₀, t, T', L, E, ce, h0, X', hL, e1, e2, ⟨u, hp, hb, hF⟩, hce, hcv, hcl, st⟩
  · cases hv
    obtain ⟨k1, k2, k3⟩ := vx_keep h0 e1 hS hA hf hL hF
    obtain ⟨t2, a1, b1⟩ := kk r u t T'.heap (locs ++ L) e1.symm (by rw [← e2]; exact X'.warmed.alike) hp hb k1 k2 k3 T' rfl X'
    exact ⟨t2, st t2 a1, b1⟩
  · obtain ⟨k1, k2, k3⟩ := vx_keep h0 e1 hS hAX hf hL hF
    obtain ⟨t2, a1, b1⟩ := kx E ce q u t T'.heap (locs ++ L) e1.symm (by rw [← e2]; exact X'.warmed.alike) hp hb k1 k2 k3 (by rw [e1]; exact hce) hcv hcl T' rfl X'
    exact ⟨t2, st.trans a1, b1⟩
theorem vx_callf {S SX : Type} {post : UInt32 → S → Prop} {px : SX → Prop} {B : S → State → Prop} {BX : String → SX → State → Prop} {AX : Nat → Prop} (hr : vx_Run p l e R s m args below meth c H locs cells slots mc ms (F0 m pc ls st0) rest (va_Qf post B A1 a) (vx_X px BX AX) free) (hS : va_S A0 H0 H locs) (hA : ∀ q, q < H.size → A1 q → A0 q) (hf : ∀ q, free q → A0 q) (hAX : ∀ q, q < H.size → AX q → A0 q)
    (kx : ∀ (E : String) (ce : Cell) (q9 : Addr) (u : SX) (t : State) (H1 : Heap) (locs1 : List Loc), t.heap = H1 → s.vm.Alike t.vm → px u → BX E u t → H.size ≤ H1.size → (∀ q : Nat, q < H.size → ¬ AX q → H1[q]? = H[q]?) → va_S A0 H0 H1 locs1 → H1[q9]? = some ce → ce.vm = .none → s.vm.findClass E = some ce.cls → vx_W p l e R s m args below meth c H1 locs1 (cells + mc) (slots + ms) Q (F0 m pc ls rest) q9)
    (kk : ∀ (r : UInt32) (u : S) (t : State) (H1 : Heap) (locs1 : List Loc), t.heap = H1 → s.vm.Alike t.vm → post r u → B u t → H.size ≤ H1.size → (∀ q : Nat, q < H.size → ¬ A1 q → H1[q]? = H[q]?) → va_S A0 H0 H1 locs1 → W p l e R s m args below meth c H1 locs1 (cells + mc) (slots + ms) Q (F0 m (pc + 3) ls (.float r :: rest))) : W p l e R s m args below meth c H locs cells slots Q (F0 m pc ls st0) := by
  intro T hT X
  rcases hr T hT X with ⟨v, st₀, t, T', L, h0, X', hL, e1, e2, ⟨⟨r, u, hv, hp, hb⟩, hF⟩, st⟩ | ⟨q, st₀, t, T', L, E, ce, h0, X', hL, e1, e2, ⟨u, hp, hb, hF⟩, hce, hcv, hcl, st⟩
  · cases hv
    obtain ⟨k1, k2, k3⟩ := vx_keep h0 e1 hS hA hf hL hF
    obtain ⟨t2, a1, b1⟩ := kk r u t T'.heap (locs ++ L) e1.symm (by rw [← e2]; exact X'.warmed.alike) hp hb k1 k2 k3 T' rfl X'
    exact ⟨t2, st t2 a1, b1⟩
  · obtain ⟨k1, k2, k3⟩ := vx_keep h0 e1 hS hAX hf hL hF
    obtain ⟨t2, a1, b1⟩ := kx E ce q u t T'.heap (locs ++ L) e1.symm (by rw [← e2]; exact X'.warmed.alike) hp hb k1 k2 k3 (by rw [e1]; exact hce) hcv hcl T' rfl X'
    exact ⟨t2, st.trans a1, b1⟩
theorem vx_calld {S SX : Type} {post : UInt64 → S → Prop} {px : SX → Prop} {B : S → State → Prop} {BX : String → SX → State → Prop} {AX : Nat → Prop} (hr : vx_Run p l e R s m args below meth c H locs cells slots mc ms (F0 m pc ls st0) rest (va_Qd post B A1 a) (vx_X px BX AX) free) (hS : va_S A0 H0 H locs) (hA : ∀ q, q < H.size → A1 q → A0 q) (hf : ∀ q, free q → A0 q) (hAX : ∀ q, q < H.size → AX q → A0 q)
    (kx : ∀ (E : String) (ce : Cell) (q9 : Addr) (u : SX) (t : State) (H1 : Heap) (locs1 : List Loc), t.heap = H1 → s.vm.Alike t.vm → px u → BX E u t → H.size ≤ H1.size → (∀ q : Nat, q < H.size → ¬ AX q → H1[q]? = H[q]?) → va_S A0 H0 H1 locs1 → H1[q9]? = some ce → ce.vm = .none → s.vm.findClass E = some ce.cls → vx_W p l e R s m args below meth c H1 locs1 (cells + mc) (slots + ms) Q (F0 m pc ls rest) q9)
    (kk : ∀ (r : UInt64) (u : S) (t : State) (H1 : Heap) (locs1 : List Loc), t.heap = H1 → s.vm.Alike t.vm → post r u → B u t → H.size ≤ H1.size → (∀ q : Nat, q < H.size → ¬ A1 q → H1[q]? = H[q]?) → va_S A0 H0 H1 locs1 → W p l e R s m args below meth c H1 locs1 (cells + mc) (slots + ms) Q (F0 m (pc + 3) ls (.double r :: rest))) : W p l e R s m args below meth c H locs cells slots Q (F0 m pc ls st0) := by
  intro T hT X
  rcases hr T hT X with ⟨v, st₀, t, T', L, h0, X', hL, e1, e2, ⟨⟨r, u, hv, hp, hb⟩, hF⟩, st⟩ | ⟨q, st₀, t, T', L, E, ce, h0, X', hL, e1, e2, ⟨u, hp, hb, hF⟩, hce, hcv, hcl, st⟩
  · cases hv
    obtain ⟨k1, k2, k3⟩ := vx_keep h0 e1 hS hA hf hL hF
    obtain ⟨t2, a1, b1⟩ := kk r u t T'.heap (locs ++ L) e1.symm (by rw [← e2]; exact X'.warmed.alike) hp hb k1 k2 k3 T' rfl X'
    exact ⟨t2, st t2 a1, b1⟩
  · obtain ⟨k1, k2, k3⟩ := vx_keep h0 e1 hS hAX hf hL hF
    obtain ⟨t2, a1, b1⟩ := kx E ce q u t T'.heap (locs ++ L) e1.symm (by rw [← e2]; exact X'.warmed.alike) hp hb k1 k2 k3 (by rw [e1]; exact hce) hcv hcl T' rfl X'
    exact ⟨t2, st.trans a1, b1⟩
theorem vx_callv {S SX : Type} {post : S → Prop} {px : SX → Prop} {B : S → State → Prop} {BX : String → SX → State → Prop} {AX : Nat → Prop} (hr : vx_Run p l e R s m args below meth c H locs cells slots mc ms (F0 m pc ls st0) rest (va_Qv post B A1 a) (vx_X px BX AX) free) (hS : va_S A0 H0 H locs) (hA : ∀ q, q < H.size → A1 q → A0 q) (hf : ∀ q, free q → A0 q) (hAX : ∀ q, q < H.size → AX q → A0 q)
    (kx : ∀ (E : String) (ce : Cell) (q9 : Addr) (u : SX) (t : State) (H1 : Heap) (locs1 : List Loc), t.heap = H1 → s.vm.Alike t.vm → px u → BX E u t → H.size ≤ H1.size → (∀ q : Nat, q < H.size → ¬ AX q → H1[q]? = H[q]?) → va_S A0 H0 H1 locs1 → H1[q9]? = some ce → ce.vm = .none → s.vm.findClass E = some ce.cls → vx_W p l e R s m args below meth c H1 locs1 (cells + mc) (slots + ms) Q (F0 m pc ls rest) q9)
    (kk : ∀ (u : S) (t : State) (H1 : Heap) (locs1 : List Loc), t.heap = H1 → s.vm.Alike t.vm → post u → B u t → H.size ≤ H1.size → (∀ q : Nat, q < H.size → ¬ A1 q → H1[q]? = H[q]?) → va_S A0 H0 H1 locs1 → W p l e R s m args below meth c H1 locs1 (cells + mc) (slots + ms) Q (F0 m (pc + 3) ls (rest))) : W p l e R s m args below meth c H locs cells slots Q (F0 m pc ls st0) := by
  intro T hT X
  rcases hr T hT X with ⟨v, st₀, t, T', L, h0, X', hL, e1, e2, ⟨⟨u, hv, hp, hb⟩, hF⟩, st⟩ | ⟨q, st₀, t, T', L, E, ce, h0, X', hL, e1, e2, ⟨u, hp, hb, hF⟩, hce, hcv, hcl, st⟩
  · cases hv
    obtain ⟨k1, k2, k3⟩ := vx_keep h0 e1 hS hA hf hL hF
    obtain ⟨t2, a1, b1⟩ := kk u t T'.heap (locs ++ L) e1.symm (by rw [← e2]; exact X'.warmed.alike) hp hb k1 k2 k3 T' rfl X'
    exact ⟨t2, st t2 a1, b1⟩
  · obtain ⟨k1, k2, k3⟩ := vx_keep h0 e1 hS hAX hf hL hF
    obtain ⟨t2, a1, b1⟩ := kx E ce q u t T'.heap (locs ++ L) e1.symm (by rw [← e2]; exact X'.warmed.alike) hp hb k1 k2 k3 (by rw [e1]; exact hce) hcv hcl T' rfl X'
    exact ⟨t2, st.trans a1, b1⟩
/-- caught by the row x of this method's table; the rows ahead don't take it -/
theorem vx_catch {own name : String} {E : String} {ce : Cell} {q : Addr} (hown : s.vm.findClass own = some m.cls) (pre : List ExceptionTableEntry) (x : ExceptionTableEntry) (suf : List ExceptionTableEntry) (hsplit : c.exceptionTable.toList = pre ++ x :: suf)
    (hpass : ∀ z ∈ pre, covers z pc = false ∨ (z.catchType ≠ 0 ∧ ∃ nm : String, (Cond.classLink own z.catchType nm).before args s = true ∧ va_Nc E nm s)) (hx : covers x pc = true) (h0 : x.catchType ≠ 0)
    (hlink : (Cond.classLink own x.catchType name).before args s = true) (hcast : (Cond.castable E name).before args s = true) (hcell : H[q]? = some ce) (hv : ce.vm = .none) (hcl : s.vm.findClass E = some ce.cls)
    (kk : W p l e R s m args below meth c H locs cells slots Q (F0 m x.handlerPc ls [.ref q])) : vx_W p l e R s m args below meth c H locs cells slots Q (F0 m pc ls rest) q := by
  intro T hT X
  have hpl : e.platform.magicAccessors = ({} : Platform).magicAccessors := by rw [X.admits.platform]
  obtain ⟨c3, c4, hc3, hc4, hasg⟩ := Cond.castable_spec hcast
  cases Option.some.inj (hc3.symm.trans hcl)
  obtain ⟨c5, hc5, hcl5⟩ := Cond.classLink_spec hown hlink e.platform hpl
  cases Option.some.inj (hc4.symm.trans hc5)
  obtain ⟨vm', X', st⟩ := X.thenCaughtThrough q (g := F0 m pc ls rest) rfl (Steps.refl _) (by rw [hT]; exact hcell) (by rw [hv]; rfl) (by obtain ⟨k9, h9, -⟩ := Vm.findClass_spec hcl; exact ⟨k9, h9⟩) pre x suf hsplit
    (fun z hz => by
      rcases hpass z hz with h | ⟨hz0, nm, hl1, hn1⟩
      · exact Or.inl h
      · obtain ⟨c6, hc6, hcl6⟩ := Cond.classLink_spec hown hl1 e.platform hpl
        obtain ⟨a8, b8, h1, h2, h3⟩ := hn1
        cases Option.some.inj (h1.symm.trans hcl)
        cases Option.some.inj (h2.symm.trans hc6)
        exact Or.inr ⟨hz0, _, hcl6, h3⟩) hx (Or.inr ⟨h0, c4, hcl5, hasg⟩)
  obtain ⟨t, a1, b1⟩ := kk (T.setVm vm') hT X'
  exact ⟨t, st.trans a1, b1⟩
end Rows
section Ends
variable {p : Program} {l : Launch} {e : Env} {R : Room} {s : State} {m : MethodId} {args : Array Value} {below : List Frame} {meth : Method} {c : Code} {H : Heap} {locs : List Loc} {cells slots : Nat} {Q : State → Prop}
variable {mc ms : Nat} {free : Addr → Prop} {A0 A1 : Nat → Prop} {H0 : Heap} {a : Array Value} {ls : Array Slot} {st0 rest : List Value}
variable {Qc : Array Value → State → Outcome → State → Prop} {XC : String → State → State → Prop}
/-- what a body that may throw owes at its end -/
def vx_MQ (below : List Frame) (Qc : Array Value → State → Outcome → State → Prop) (XC : String → State → State → Prop) (a : Array Value) (s : State) (mc ms : Nat) (free : Addr → Prop) : State → Prop := fun t =>
  ∃ o, t.status = .running ∧ Ended t below o ∧ vx_Q Qc XC mc ms free a s o t
theorem vx_ret {g : JFrame} {mc ms : Nat} (k : W p l e R s m args below meth c H locs cells slots (MQ below Qc args s mc ms free) g) : W p l e R s m args below meth c H locs cells slots (vx_MQ below Qc XC args s mc ms free) g := by
  intro T hT X
  obtain ⟨t, a1, o, b1, b2, b3, b4⟩ := k T hT X
  exact ⟨t, a1, o, b1, b2, Or.inl ⟨b3, b4⟩⟩
/-- not caught here: it goes on to the caller -/
theorem vx_widen {g : JFrame} {q : Addr} {k n : Nat} (h1 : cells ≤ k) (h2 : slots ≤ n) (kk : vx_W p l e R s m args below meth c H locs k n Q g q) : vx_W p l e R s m args below meth c H locs cells slots Q g q := fun T hT X => kk T hT (stand_widen X h1 h2)
theorem vx_out {pc : Nat} {E : String} {ce : Cell} {q : Addr} {mc ms : Nat} (hout : ∀ x ∈ c.exceptionTable.toList, covers x pc = false) (hlocks : meth.locks = false) (hcell : H[q]? = some ce) (hv : ce.vm = .none) (hcl : s.vm.findClass E = some ce.cls)
    (hx : ∀ t : State, t.heap = H → s.vm.Alike t.vm → XC E s t) (hf : ∀ z ∈ locs, free z.base) (hc : cells ≤ mc) (hs : slots ≤ ms) :
    vx_W p l e R s m args below meth c H locs cells slots (vx_MQ below Qc XC args s mc ms free) (F0 m pc ls rest) q := by
  intro T hT X
  obtain ⟨st1, hrun, hend, hW, hsm⟩ := X.leaveThrown q (g := F0 m pc ls rest) rfl rfl rfl hout hlocks
  have hcell9 : (T.setFrames (.throwing q :: below)).heap[q]? = some ce := by
    show T.heap[q]? = some ce
    rw [hT]; exact hcell
  exact ⟨_, st1, .threw q, hrun, hend, Or.inr ⟨q, rfl, E, ce, locs, hx _ hT hW.alike, hcell9, hv, hcl, hW, hsm.mono hc hs, hf⟩⟩
theorem vx_frame {U : State} {k n : Nat} (h : s.sameButNew ({ U with vm := s.vm } : State) locs k n) : s.heap.size ≤ U.heap.size ∧ ∀ q : Nat, q < s.heap.size → (∀ z ∈ locs, z.base ≠ q) → U.heap[q]? = s.heap[q]? := by
  obtain ⟨-, h2, -, -, -, h6⟩ := h
  refine ⟨h2, fun q hq hz => ?_⟩
  obtain ⟨c9, e1, e2, e3, e4⟩ := h6 q _ (Array.getElem?_eq_getElem hq)
  have hs : c9.slots = (s.heap[q]).slots := Array.ext_getElem? fun i => e4 i fun hm => hz _ hm rfl
  have h9 : c9 = s.heap[q] := by
    rw [hs] at e2
    exact e2
  have e5 : U.heap[q]? = some c9 := e1
  rw [e5, h9, Array.getElem?_eq_getElem hq]
/-- the words of a throw but the four that speak of the heap -/
def vx_no (w : Cond) : Bool := decide (w ≠ .isRef (.static Bundle.tN "UNASSIGNED_STACK" Bundle.steD)) && decide (w ≠ .isRef (.static Bundle.tN "SUPPRESSED_SENTINEL" Bundle.listD)) && decide (w ≠ .laysStatic Bundle.tN "UNASSIGNED_STACK" Bundle.steD) && decide (w ≠ .laysStatic Bundle.tN "SUPPRESSED_SENTINEL" Bundle.listD)
def vx_at0 (own : String) (ic : Nat) (X : String) (names : List String) : List Cond := (Bundle.ownAtoms0 own ic X names).filter vx_no
def vx_atS (own : String) (ic : Nat) (X : String) (names : List String) : List Cond := (Bundle.ownAtoms own ic X names).filter vx_no
/-- a word that the tables alone decide, or a good one -/
def vx_ot (w : Cond) : Bool := w.onTables || goodWord w
theorem vx_ot_at {args a' : Array Value} {s U : State} {w : Cond} (hW : s.WarmedH U.vm) (hvm : s.vm = U.vm) (hg : vx_ot w = true) (h : w.before args s = true) : w.before a' U = true := by
  simp only [vx_ot, Bool.or_eq_true] at hg
  rcases hg with hg | hg
  · exact va_tabs hg hvm h
  · exact word_at hW (good_of_word hg) h
/-- a list's words: the good ones out of the method's own list, the others by premises of their own -/
theorem vx_hat {args : Array Value} {s : State} {L B : List Cond} (h1 : ∀ w ∈ L.filter goodWord, w.before args s = true) (h2 : ∀ w ∈ L.filter (fun w => !goodWord w), w ∈ B) (h3 : ∀ w ∈ B, w.before args s = true) : ∀ w ∈ L, w.before args s = true := by
  intro w hw
  by_cases g : goodWord w = true
  · exact h1 w (List.mem_filter.mpr ⟨hw, g⟩)
  · refine h3 w (h2 w (List.mem_filter.mpr ⟨hw, ?_⟩))
    show (!goodWord w) = true
    cases hgw : goodWord w
    · rfl
    · exact absurd hgw g
theorem vx_c {args : Array Value} {s : State} {w : Cond} {B : List Cond} (h : w.before args s = true) (t : ∀ w ∈ B, w.before args s = true) : ∀ w' ∈ w :: B, w'.before args s = true := fun w' h' => (List.mem_cons.mp h').elim (fun e => by rw [e]; exact h) (t w')
theorem vx_n {args : Array Value} {s : State} : ∀ w ∈ ([] : List Cond), w.before args s = true := fun _ h => nomatch h
theorem vx_own {args : Array Value} {s : State} {L : List Cond} (h1 : ∀ w ∈ L.filter vx_no, w.before args s = true)
    (hU : (Cond.isRef (.static Bundle.tN "UNASSIGNED_STACK" Bundle.steD)).before args s = true) (hN : (Cond.isRef (.static Bundle.tN "SUPPRESSED_SENTINEL" Bundle.listD)).before args s = true)
    (lU : (Cond.laysStatic Bundle.tN "UNASSIGNED_STACK" Bundle.steD).before args s = true) (lN : (Cond.laysStatic Bundle.tN "SUPPRESSED_SENTINEL" Bundle.listD).before args s = true) : ∀ w ∈ L, w.before args s = true := by
  intro w hw
  by_cases e1 : w = .isRef (.static Bundle.tN "UNASSIGNED_STACK" Bundle.steD)
  · rw [e1]; exact hU
  · by_cases e2 : w = .isRef (.static Bundle.tN "SUPPRESSED_SENTINEL" Bundle.listD)
    · rw [e2]; exact hN
    · by_cases e3 : w = .laysStatic Bundle.tN "UNASSIGNED_STACK" Bundle.steD
      · rw [e3]; exact lU
      · by_cases e4 : w = .laysStatic Bundle.tN "SUPPRESSED_SENTINEL" Bundle.listD
        · rw [e4]; exact lN
        · exact h1 w (List.mem_filter.mpr ⟨hw, by unfold vx_no; rw [decide_eq_true e1, decide_eq_true e2, decide_eq_true e3, decide_eq_true e4]; rfl⟩)
/-- where a static field lies, its class's statics cell in H -/
def vx_L (C n d : String) (A : Nat → Prop) (U : State) (H : Heap) : Prop := ∃ (c : ClassId) (k : Class) (i : Nat) (f : Field) (a : Nat) (cell : Cell), U.vm.findClass C = some c ∧ U.fieldFound? C n d = some (c, k, i, f) ∧ f.isStatic = true ∧ k.statics = some a ∧ H[a]? = some cell ∧ cell.vm.isStatics = true ∧ cell.cls = c ∧ f.slot < cell.slots.size ∧ k.staticTypes[f.slot]? = some f.type ∧ ¬ A a
theorem vx_L.moved {C n d : String} {A : Nat → Prop} {u U : State} {H : Heap} (hvm : u.vm.Alike U.vm) (h : vx_L C n d A u H) : vx_L C n d A U H := by
  obtain ⟨c, k, i, f, a, cell, h1, h2, h3, h4, h5, h6, h7, h8, h9, h10⟩ := h
  obtain ⟨k', hi', he⟩ := State.fieldFound?_setVm hvm h2
  exact ⟨c, k', i, f, a, cell, by rw [hvm.findClass]; exact h1, hi', h3, by rw [he]; exact h4, h5, h6, h7, h8, by rw [he]; exact h9, h10⟩
theorem vx_L.kept {C n d : String} {A : Nat → Prop} {U : State} {H H1 : Heap} (h : vx_L C n d A U H) (hq : ∀ a : Nat, a < H.size → ¬ A a → H1[a]? = H[a]?) : vx_L C n d A U H1 := by
  obtain ⟨c, k, i, f, a, cell, h1, h2, h3, h4, h5, h6, h7, h8, h9, h10⟩ := h
  exact ⟨c, k, i, f, a, cell, h1, h2, h3, h4, by rw [hq a (Array.getElem?_eq_some_iff.mp h5).1 h10]; exact h5, h6, h7, h8, h9, h10⟩
theorem vx_L.narrow {C n d : String} {A B : Nat → Prop} {U : State} {H : Heap} (h : vx_L C n d A U H) (hAB : ∀ q, B q → A q) : vx_L C n d B U H := by
  obtain ⟨c, k, i, f, a, cell, h1, h2, h3, h4, h5, h6, h7, h8, h9, h10⟩ := h
  exact ⟨c, k, i, f, a, cell, h1, h2, h3, h4, h5, h6, h7, h8, h9, fun z => h10 (hAB _ z)⟩
theorem vx_L.word {C n d : String} {A : Nat → Prop} {s : State} {args : Array Value} (h : vx_L C n d A s s.heap) : (Cond.laysStatic C n d).before args s = true := by
  obtain ⟨c, k, i, f, a, cell, h1, h2, h3, h4, h5, h6, h7, h8, h9, -⟩ := h
  show (Cond.laysStatic C n d).holds args s none s [] = true
  exact Cond.laysStatic_of h1 h2 h3 h4 h5 h6 h7 h8 h9
/-- .. and what it holds: null or some reference -/
def vx_Zq (C n d : String) (A : Nat → Prop) (U : State) (H : Heap) : Prop := va_Zq C n d A U H ∧ vx_L C n d A U H
theorem vx_Zq.moved {C n d : String} {A : Nat → Prop} {u U : State} {H : Heap} (hvm : u.vm.Alike U.vm) (h : vx_Zq C n d A u H) : vx_Zq C n d A U H := ⟨va_Zq.moved hvm h.1, vx_L.moved hvm h.2⟩
theorem vx_Zq.kept {C n d : String} {A : Nat → Prop} {U : State} {H H1 : Heap} (h : vx_Zq C n d A U H) (hq : ∀ a : Nat, a < H.size → ¬ A a → H1[a]? = H[a]?) : vx_Zq C n d A U H1 := ⟨va_Zq.kept h.1 hq, vx_L.kept h.2 hq⟩
theorem vx_Zq.narrow {C n d : String} {A B : Nat → Prop} {U : State} {H : Heap} (h : vx_Zq C n d A U H) (hAB : ∀ q, B q → A q) : vx_Zq C n d B U H := ⟨va_Zq.narrow h.1 hAB, vx_L.narrow h.2 hAB⟩
theorem vx_Zqof {args : Array Value} {s : State} {C n d : String} {A : Nat → Prop} (hl : (Cond.laysStatic C n d).before args s = true) (hini : (Cond.initialized C).before args s = true) (h : (Cond.isRef (.static C n d)).before args s = true) (hA : ∀ a : Nat, a < s.heap.size → ¬ A a) : vx_Zq C n d A s s.heap := by
  refine ⟨va_Zqof hl hini h hA, ?_⟩
  obtain ⟨c, k, i, f, a, cell, h1, h2, h3, h4, h5, h6, h7, h8, h9⟩ := Cond.laysStatic_spec hl
  exact ⟨c, k, i, f, a, cell, h1, h2, h3, h4, h5, h6, h7, h8, h9, hA a (Array.getElem?_eq_some_iff.mp h5).1⟩
theorem vx_isRef {C n d : String} {v : Value} {A : Nat → Prop} {s : State} {args : Array Value} (h : va_Z C n d v A s s.heap) (hv : v.isRef = true) : (Cond.isRef (.static C n d)).before args s = true := by
  obtain ⟨cf, kf, fi, f, a, cell, h1, h2, h3, h4, h5, h6, h7, -⟩ := h
  have he : (Term.static C n d).eval args s none [] s = some v := by
    simp [Term.eval, State.fieldNamed?, h1, h2, h4, h5, h6, h7]
  simp only [Cond.before, Cond.holds, Cond.value, he]
  cases v <;> simp_all [Value.isRef]
theorem vx_isRefq {C n d : String} {A : Nat → Prop} {s : State} {args : Array Value} (h : va_Zq C n d A s s.heap) : (Cond.isRef (.static C n d)).before args s = true := by
  rcases h with h | ⟨t, h⟩
  · exact vx_isRef h rfl
  · exact vx_isRef h rfl
/-- the same frame, seen from here: as if the method were called anew in this heap -/
theorem vx_rebase {T : State} (X : Stand p l e R s m args below meth c T locs cells slots) {R' : Room} (hf : R'.frames ≤ R.frames) (hl : R'.locals ≤ R.locals) (hc : cells + R'.cells ≤ R.cells) (hs : slots + R'.slots ≤ R.slots) :
    Stand p l e R' ((T.setVm s.vm).setFrames (.invoking m args :: below)) m args below meth c T [] 0 0 := by
  have htop : (T.setVm s.vm).topJava?.isSome := X.here.top
  have hF : ((T.setVm s.vm).setFrames (.invoking m args :: below)).frames = .invoking m args :: below := State.frames_setFrames _ (State.cur_lt_of_top htop)
  obtain ⟨g₀, hg0⟩ := Option.isSome_iff_exists.mp htop
  obtain ⟨r, hr⟩ := State.topJava?_eq_some.mp hg0
  have hl9 : e.platform.stackLimits (T.setVm s.vm).me = e.platform.stackLimits s.me := X.limits
  have hb9 : (T.setVm s.vm).me.stackBytes = s.me.stackBytes := X.bytes
  refine ⟨X.admits, X.cas, X.clock, hF, ?_, X.hears, X.method, X.code, X.here, X.tail, X.warmed, ?_, ?_, ?_⟩
  · have h := X.room
    have hU : ((T.setVm s.vm).setFrames (.invoking m args :: below)).localsInUse = s.localsInUse := by
      rw [State.localsInUse_invoking hF (meth := meth) (c := c) X.method X.code, State.localsInUse_invoking X.frames X.method X.code]
    simp only [State.hasRoom, Bool.and_eq_true, decide_eq_true_eq] at h ⊢
    obtain ⟨⟨⟨⟨h1, h2, h3, h4, h5, h6⟩, h7⟩, h8⟩, h9⟩ := h
    rw [X.frames, List.length_cons] at h2 h3
    have q1 := X.heapSize
    have q2 := X.used
    simp only [hF, hU, List.length_cons, State.stackLimits_setFrames, State.stackBytes_setFrames, hl9, hb9]
    refine ⟨⟨⟨⟨by omega, by omega, by omega, by omega, by omega, h6⟩, ?_⟩, ?_⟩, X.book⟩
    · show T.heap.size + R'.cells ≤ e.platform.maxCells
      omega
    · show T.slotsUsed + R'.slots ≤ e.platform.maxSlots
      omega
  · rw [State.stackLimits_setFrames]; rfl
  · rw [State.stackBytes_setFrames]; rfl
  · refine ⟨?_, Nat.le_refl _, Nat.le_refl _, ?_, ?_, fun a c9 h9 => ⟨c9, h9, rfl, rfl, fun _ _ => rfl⟩⟩
    · obtain ⟨t, ht, -⟩ := State.frames_cons hr
      show T.setVm s.vm = { ((T.setVm s.vm).setFrames (.invoking m args :: below)).setFrames (T.setVm s.vm).frames with heap := T.heap, slotsUsed := T.slotsUsed }
      rw [State.setFrames_setFrames, State.setFrames_self ht]
      rfl
    · show T.slotsUsed = T.slotsUsed + ((T.heap.toList.drop T.heap.size).map (·.slots.size)).sum
      rw [List.drop_eq_nil_of_le (Nat.le_of_eq Array.length_toList)]
      rfl
    · show ((T.heap.toList.drop T.heap.size).map (·.slots.size)).sum ≤ 0
      rw [List.drop_eq_nil_of_le (Nat.le_of_eq Array.length_toList)]
      exact Nat.le_refl _
/-- 'throw new E()': new; dup; invokespecial; athrow -/
theorem vx_throw0 {cc : ByteArray} {pc : Nat} (hexec : p.tables.exec = Jvm.exec) (hb : c.code = cc) (hl : l.stackTraces = false) {own cls : String} {names : List String} {ik ic mc ms : Nat} {A : Nat → Prop}
    (hown : s.vm.findClass own = some m.cls) (hcls : Bundle.fit cls = true) (hnames : ∀ n ∈ names, Bundle.fit n = true)
    (hk : (Cond.classLink own ik cls).before args s = true) (hini : (Cond.initialized cls).before args s = true) (hat : ∀ w ∈ vx_at0 own ic cls names, w.before args s = true)
    (hgood : ∀ w ∈ Cond.classLink own ik cls :: Cond.initialized cls :: vx_at0 own ic cls names, vx_ot w = true)
    (hU : vx_Zq Bundle.tN "UNASSIGNED_STACK" Bundle.steD A s s.heap) (hN : vx_Zq Bundle.tN "SUPPRESSED_SENTINEL" Bundle.listD A s s.heap) (hS : va_S A s.heap H locs) (hsize : ls.size = c.maxLocals)
    (d0 : decode cc pc = .ok (.new ik, 3)) (d3 : decode cc (pc + 3) = .ok (.dup, 1)) (d4 : decode cc (pc + 4) = .ok (.invokespecial ic, 3)) (d7 : decode cc (pc + 7) = .ok (.athrow, 1))
    (hout : ∀ x ∈ c.exceptionTable.toList, covers x (pc + 7) = false)
    (hRframes : names.length + 3 < R.frames) (hRlocals : (rest.map fun v => v.category).sum + (13 * (names.length + 1) + 42) ≤ R.locals) (hRcells : cells + 1 ≤ R.cells) (hRslots : slots + 6 ≤ R.slots) (hlocks : meth.locks = false)
    (hx : ∀ t : State, s.vm.Alike t.vm → H.size ≤ t.heap.size → (∀ q : Nat, q < H.size → t.heap[q]? = H[q]?) → XC cls s t)
    (hf : ∀ z ∈ locs, free z.base) (hc : cells + 1 ≤ mc) (hs : slots + 6 ≤ ms) :
    W p l e R s m args below meth c H locs cells slots (vx_MQ below Qc XC args s mc ms free) (F0 m pc ls rest) := by
  intro T hT X
  have htr : e.platform.stackTraces = false := (show e.platform.stackTraces = l.stackTraces by rw [X.admits.platform]).trans hl
  have Y := vx_rebase X (R' := { frames := R.frames, locals := R.locals, cells := 1, slots := 6 }) (Nat.le_refl _) (Nat.le_refl _) hRcells hRslots
  obtain ⟨s', hA⟩ : ∃ z, z = (T.setVm s.vm).setFrames (.invoking m args :: below) := ⟨_, rfl⟩
  rw [← hA] at Y
  have hvm : s'.vm = s.vm := by rw [hA]; rfl
  have hhp : s'.heap = H := by rw [hA]; exact hT
  have hW0 : s.WarmedH s'.vm := by rw [hvm]; exact State.WarmedH.refl s
  have hat' : ∀ w ∈ vx_at0 own ic cls names, w.before args s' = true := fun w hw => vx_ot_at hW0 hvm.symm (hgood w (List.mem_cons_of_mem _ (List.mem_cons_of_mem _ hw))) (hat w hw)
  have hk' : (Cond.classLink own ik cls).before args s' = true := vx_ot_at hW0 hvm.symm (hgood _ List.mem_cons_self) hk
  have hini' : (Cond.initialized cls).before args s' = true := vx_ot_at hW0 hvm.symm (hgood _ (List.mem_cons_of_mem _ List.mem_cons_self)) hini
  have hU' : vx_Zq Bundle.tN "UNASSIGNED_STACK" Bundle.steD A s' s'.heap := by rw [hhp]; exact vx_Zq.moved hW0.alike (hU.kept hS.2.1)
  have hN' : vx_Zq Bundle.tN "SUPPRESSED_SENTINEL" Bundle.listD A s' s'.heap := by rw [hhp]; exact vx_Zq.moved hW0.alike (hN.kept hS.2.1)
  have h : ∀ w ∈ Bundle.ownAtoms0 own ic cls names, w.before args s' = true := vx_own hat' (vx_isRefq hU'.1) (vx_isRefq hN'.1) hU'.2.word hN'.2.word
  have hown' : s'.vm.findClass own = some m.cls := by rw [hvm]; exact hown
  have hins : (Cond.instantiable cls 6).before args s' = true := h _ (by simp [Bundle.ownAtoms0])
  obtain ⟨vm₁, cX, kX, hfX, hkX, -, -, X₁, st1⟩ := Y.newCold hexec (own := own) (C := cls) (index := ik) (n := 6) hown' hk' hins hini'
    (g := F0 m pc ls rest) rfl (by rw [hb]; exact d0) (Nat.le_refl _) (Nat.le_refl _)
  generalize hT1 : (T.setVm vm₁).pushCell { cls := cX, slots := kX.instanceTypes.map defaultValue, vm := .none } = T1 at X₁ st1
  have hcat : (Value.ref T.heap.size).category = 1 := rfl
  have hcellA : T1.heap[T.heap.size]? = some (freshCell cX kX) := by rw [← hT1]; exact State.heap_pushCell_size _ _
  have d3' : decode c.code (pc + 3) = .ok (.dup, 1) := by rw [hb]; exact d3
  obtain ⟨U, hsteps, hrun, hend, hW, hsame, ce, hce, hO⟩ := X₁.ctorThrow0 hexec htr (own := own) (cls := cls) (names := names) (ic := ic) hown' hcls hnames h (fun x hx => nomatch hx) hfX hkX hcellA (by rw [hhp, hT]; exact Nat.le_refl _)
    (g := { method := m, pc := pc + 4, locals := ls, stack := .ref T.heap.size :: .ref T.heap.size :: rest, locked := none }) rfl hsize rfl rfl (rest := rest) rfl
    (by rw [hb]; exact d4) (by rw [hb]; exact d7) hout hRframes (by simp only [List.map_cons, List.sum_cons, hcat]; omega) hlocks
  obtain ⟨f1, f2⟩ := vx_frame hsame
  rw [hhp] at f1 f2
  have hWs : s.WarmedH U.vm := State.WarmedH.trans hW0 hW
  have hcl : s.vm.findClass cls = some ce.cls := by
    have h9 := hO.cls
    rw [hvm] at h9
    exact h9
  have hall : s.sameButNew ({ U with vm := s.vm } : State) locs mc ms := by
    subst hA
    obtain ⟨e1, e2⟩ := hsame
    rw [State.setFrames_setFrames] at e1
    have h2 : (T.setVm s.vm).sameButNew ({ U with vm := s.vm } : State) [] (0 + 1) (0 + 6) := ⟨e1, e2⟩
    have h3 := X.same.trans h2
    rw [List.append_nil] at h3
    exact h3.mono hc hs
  refine ⟨U, ?_, .threw T.heap.size, hrun, hend, Or.inr ⟨T.heap.size, rfl, cls, ce, locs, hx U hWs.alike f1 (fun q hq => f2 q hq (fun z hz => nomatch hz)), hce, hO.vm, hcl, hWs, hall, hf⟩⟩
  refine st1 _ ?_
  show Steps p.tables e below (T1.setTop { method := m, pc := pc + 3, locals := ls, stack := .ref T.heap.size :: rest, locked := none }) _
  jvm_step X₁.here [X₁.here.top, hexec, d3', Value.category]
  exact hsteps
/-- 'throw new E("text")': new; dup; ldc; invokespecial; athrow -/
theorem vx_throwS {cc : ByteArray} {pc : Nat} (hexec : p.tables.exec = Jvm.exec) (hb : c.code = cc) (hl : l.stackTraces = false) {own cls text : String} {names : List String} {ik is ic mc ms sa : Nat} {A : Nat → Prop}
    (hown : s.vm.findClass own = some m.cls) (hcls : Bundle.fit cls = true) (hnames : ∀ n ∈ names, Bundle.fit n = true)
    (hk : (Cond.classLink own ik cls).before args s = true) (hini : (Cond.initialized cls).before args s = true) (hstr : vk_R own is text sa s) (hat : ∀ w ∈ vx_atS own ic cls names, w.before args s = true)
    (hgood : ∀ w ∈ Cond.classLink own ik cls :: Cond.initialized cls :: vx_atS own ic cls names, vx_ot w = true)
    (hU : vx_Zq Bundle.tN "UNASSIGNED_STACK" Bundle.steD A s s.heap) (hN : vx_Zq Bundle.tN "SUPPRESSED_SENTINEL" Bundle.listD A s s.heap) (hS : va_S A s.heap H locs) (hsize : ls.size = c.maxLocals)
    (d0 : decode cc pc = .ok (.new ik, 3)) (d3 : decode cc (pc + 3) = .ok (.dup, 1)) (d4 : decode cc (pc + 4) = .ok (.ldc is, 2)) (d6 : decode cc (pc + 6) = .ok (.invokespecial ic, 3)) (d9 : decode cc (pc + 9) = .ok (.athrow, 1))
    (hout : ∀ x ∈ c.exceptionTable.toList, covers x (pc + 9) = false)
    (hRframes : names.length + 3 < R.frames) (hRlocals : (rest.map fun v => v.category).sum + (13 * (names.length + 1) + 43) ≤ R.locals) (hRcells : cells + 1 ≤ R.cells) (hRslots : slots + 6 ≤ R.slots) (hlocks : meth.locks = false)
    (hx : ∀ t : State, s.vm.Alike t.vm → H.size ≤ t.heap.size → (∀ q : Nat, q < H.size → t.heap[q]? = H[q]?) → XC cls s t)
    (hf : ∀ z ∈ locs, free z.base) (hc : cells + 1 ≤ mc) (hs : slots + 6 ≤ ms) :
    W p l e R s m args below meth c H locs cells slots (vx_MQ below Qc XC args s mc ms free) (F0 m pc ls rest) := by
  intro T hT X
  have htr : e.platform.stackTraces = false := (show e.platform.stackTraces = l.stackTraces by rw [X.admits.platform]).trans hl
  have Y := vx_rebase X (R' := { frames := R.frames, locals := R.locals, cells := 1, slots := 6 }) (Nat.le_refl _) (Nat.le_refl _) hRcells hRslots
  obtain ⟨s', hA⟩ : ∃ z, z = (T.setVm s.vm).setFrames (.invoking m args :: below) := ⟨_, rfl⟩
  rw [← hA] at Y
  have hvm : s'.vm = s.vm := by rw [hA]; rfl
  have hhp : s'.heap = H := by rw [hA]; exact hT
  have hW0 : s.WarmedH s'.vm := by rw [hvm]; exact State.WarmedH.refl s
  have hat' : ∀ w ∈ vx_atS own ic cls names, w.before args s' = true := fun w hw => vx_ot_at hW0 hvm.symm (hgood w (List.mem_cons_of_mem _ (List.mem_cons_of_mem _ hw))) (hat w hw)
  have hk' : (Cond.classLink own ik cls).before args s' = true := vx_ot_at hW0 hvm.symm (hgood _ List.mem_cons_self) hk
  have hini' : (Cond.initialized cls).before args s' = true := vx_ot_at hW0 hvm.symm (hgood _ (List.mem_cons_of_mem _ List.mem_cons_self)) hini
  have hU' : vx_Zq Bundle.tN "UNASSIGNED_STACK" Bundle.steD A s' s'.heap := by rw [hhp]; exact vx_Zq.moved hW0.alike (hU.kept hS.2.1)
  have hN' : vx_Zq Bundle.tN "SUPPRESSED_SENTINEL" Bundle.listD A s' s'.heap := by rw [hhp]; exact vx_Zq.moved hW0.alike (hN.kept hS.2.1)
  have h : ∀ w ∈ Bundle.ownAtoms own ic cls names, w.before args s' = true := vx_own hat' (vx_isRefq hU'.1) (vx_isRefq hN'.1) hU'.2.word hN'.2.word
  have hown' : s'.vm.findClass own = some m.cls := by rw [hvm]; exact hown
  have hins : (Cond.instantiable cls 6).before args s' = true := h _ (by simp [Bundle.ownAtoms])
  obtain ⟨vm₁, cX, kX, hfX, hkX, -, -, X₁, st1⟩ := Y.newCold hexec (own := own) (C := cls) (index := ik) (n := 6) hown' hk' hins hini'
    (g := F0 m pc ls rest) rfl (by rw [hb]; exact d0) (Nat.le_refl _) (Nat.le_refl _)
  generalize hT1 : (T.setVm vm₁).pushCell { cls := cX, slots := kX.instanceTypes.map defaultValue, vm := .none } = T1 at X₁ st1
  have hcat : (Value.ref T.heap.size).category = 1 := rfl
  have hcellA : T1.heap[T.heap.size]? = some (freshCell cX kX) := by rw [← hT1]; exact State.heap_pushCell_size _ _
  have d3' : decode c.code (pc + 3) = .ok (.dup, 1) := by rw [hb]; exact d3
  have d4' : decode c.code (pc + 4) = .ok (.ldc is, 2) := by rw [hb]; exact d4
  have hstr' : vk_R own is text sa s' := vk_R.warm hW0 hstr
  obtain ⟨U, hsteps, hrun, hend, hW, hsame, ce, hce, hO⟩ := X₁.ctorThrowS hexec htr (own := own) (cls := cls) (names := names) (ic := ic) hown' hcls hnames h (fun x hx => nomatch hx) hfX hkX hcellA (by rw [hhp, hT]; exact Nat.le_refl _) (msg := .ref sa) rfl
    (g := { method := m, pc := pc + 6, locals := ls, stack := .ref sa :: .ref T.heap.size :: .ref T.heap.size :: rest, locked := none }) rfl hsize rfl rfl (rest := rest) rfl
    (by rw [hb]; exact d6) (by rw [hb]; exact d9) hout hRframes (by simp only [List.map_cons, List.sum_cons, hcat]; omega) hlocks
  obtain ⟨f1, f2⟩ := vx_frame hsame
  rw [hhp] at f1 f2
  have hWs : s.WarmedH U.vm := State.WarmedH.trans hW0 hW
  have hcl : s.vm.findClass cls = some ce.cls := by
    have h9 := hO.cls
    rw [hvm] at h9
    exact h9
  have hall : s.sameButNew ({ U with vm := s.vm } : State) locs mc ms := by
    subst hA
    obtain ⟨e1, e2⟩ := hsame
    rw [State.setFrames_setFrames] at e1
    have h2 : (T.setVm s.vm).sameButNew ({ U with vm := s.vm } : State) [] (0 + 1) (0 + 6) := ⟨e1, e2⟩
    have h3 := X.same.trans h2
    rw [List.append_nil] at h3
    exact h3.mono hc hs
  refine ⟨U, ?_, .threw T.heap.size, hrun, hend, Or.inr ⟨T.heap.size, rfl, cls, ce, locs, hx U hWs.alike f1 (fun q hq => f2 q hq (fun z hz => nomatch hz)), hce, hO.vm, hcl, hWs, hall, hf⟩⟩
  refine st1 _ ?_
  show Steps p.tables e below (T1.setTop { method := m, pc := pc + 3, locals := ls, stack := .ref T.heap.size :: rest, locked := none }) _
  jvm_step X₁.here [X₁.here.top, hexec, d3', Value.category]
  exact X₁.ldcString hexec (own := own) (text := text) (index := is) (a := sa) hown' hstr'.1 hstr'.2
    (g := { method := m, pc := pc + 4, locals := ls, stack := .ref T.heap.size :: .ref T.heap.size :: rest, locked := none }) rfl d4' _ hsteps
/-- 'throw new E("text")', the text by a wide index -/
theorem vx_throwSW {cc : ByteArray} {pc : Nat} (hexec : p.tables.exec = Jvm.exec) (hb : c.code = cc) (hl : l.stackTraces = false) {own cls text : String} {names : List String} {ik is ic mc ms sa : Nat} {A : Nat → Prop}
    (hown : s.vm.findClass own = some m.cls) (hcls : Bundle.fit cls = true) (hnames : ∀ n ∈ names, Bundle.fit n = true)
    (hk : (Cond.classLink own ik cls).before args s = true) (hini : (Cond.initialized cls).before args s = true) (hstr : vk_R own is text sa s) (hat : ∀ w ∈ vx_atS own ic cls names, w.before args s = true)
    (hgood : ∀ w ∈ Cond.classLink own ik cls :: Cond.initialized cls :: vx_atS own ic cls names, vx_ot w = true)
    (hU : vx_Zq Bundle.tN "UNASSIGNED_STACK" Bundle.steD A s s.heap) (hN : vx_Zq Bundle.tN "SUPPRESSED_SENTINEL" Bundle.listD A s s.heap) (hS : va_S A s.heap H locs) (hsize : ls.size = c.maxLocals)
    (d0 : decode cc pc = .ok (.new ik, 3)) (d3 : decode cc (pc + 3) = .ok (.dup, 1)) (d4 : decode cc (pc + 4) = .ok (.ldc_w is, 3)) (d7 : decode cc (pc + 7) = .ok (.invokespecial ic, 3)) (d10 : decode cc (pc + 10) = .ok (.athrow, 1))
    (hout : ∀ x ∈ c.exceptionTable.toList, covers x (pc + 10) = false)
    (hRframes : names.length + 3 < R.frames) (hRlocals : (rest.map fun v => v.category).sum + (13 * (names.length + 1) + 43) ≤ R.locals) (hRcells : cells + 1 ≤ R.cells) (hRslots : slots + 6 ≤ R.slots) (hlocks : meth.locks = false)
    (hx : ∀ t : State, s.vm.Alike t.vm → H.size ≤ t.heap.size → (∀ q : Nat, q < H.size → t.heap[q]? = H[q]?) → XC cls s t)
    (hf : ∀ z ∈ locs, free z.base) (hc : cells + 1 ≤ mc) (hs : slots + 6 ≤ ms) :
    W p l e R s m args below meth c H locs cells slots (vx_MQ below Qc XC args s mc ms free) (F0 m pc ls rest) := by
  intro T hT X
  have htr : e.platform.stackTraces = false := (show e.platform.stackTraces = l.stackTraces by rw [X.admits.platform]).trans hl
  have Y := vx_rebase X (R' := { frames := R.frames, locals := R.locals, cells := 1, slots := 6 }) (Nat.le_refl _) (Nat.le_refl _) hRcells hRslots
  obtain ⟨s', hA⟩ : ∃ z, z = (T.setVm s.vm).setFrames (.invoking m args :: below) := ⟨_, rfl⟩
  rw [← hA] at Y
  have hvm : s'.vm = s.vm := by rw [hA]; rfl
  have hhp : s'.heap = H := by rw [hA]; exact hT
  have hW0 : s.WarmedH s'.vm := by rw [hvm]; exact State.WarmedH.refl s
  have hat' : ∀ w ∈ vx_atS own ic cls names, w.before args s' = true := fun w hw => vx_ot_at hW0 hvm.symm (hgood w (List.mem_cons_of_mem _ (List.mem_cons_of_mem _ hw))) (hat w hw)
  have hk' : (Cond.classLink own ik cls).before args s' = true := vx_ot_at hW0 hvm.symm (hgood _ List.mem_cons_self) hk
  have hini' : (Cond.initialized cls).before args s' = true := vx_ot_at hW0 hvm.symm (hgood _ (List.mem_cons_of_mem _ List.mem_cons_self)) hini
  have hU' : vx_Zq Bundle.tN "UNASSIGNED_STACK" Bundle.steD A s' s'.heap := by rw [hhp]; exact vx_Zq.moved hW0.alike (hU.kept hS.2.1)
  have hN' : vx_Zq Bundle.tN "SUPPRESSED_SENTINEL" Bundle.listD A s' s'.heap := by rw [hhp]; exact vx_Zq.moved hW0.alike (hN.kept hS.2.1)
  have h : ∀ w ∈ Bundle.ownAtoms own ic cls names, w.before args s' = true := vx_own hat' (vx_isRefq hU'.1) (vx_isRefq hN'.1) hU'.2.word hN'.2.word
  have hown' : s'.vm.findClass own = some m.cls := by rw [hvm]; exact hown
  have hins : (Cond.instantiable cls 6).before args s' = true := h _ (by simp [Bundle.ownAtoms])
  obtain ⟨vm₁, cX, kX, hfX, hkX, -, -, X₁, st1⟩ := Y.newCold hexec (own := own) (C := cls) (index := ik) (n := 6) hown' hk' hins hini'
    (g := F0 m pc ls rest) rfl (by rw [hb]; exact d0) (Nat.le_refl _) (Nat.le_refl _)
  generalize hT1 : (T.setVm vm₁).pushCell { cls := cX, slots := kX.instanceTypes.map defaultValue, vm := .none } = T1 at X₁ st1
  have hcat : (Value.ref T.heap.size).category = 1 := rfl
  have hcellA : T1.heap[T.heap.size]? = some (freshCell cX kX) := by rw [← hT1]; exact State.heap_pushCell_size _ _
  have d3' : decode c.code (pc + 3) = .ok (.dup, 1) := by rw [hb]; exact d3
  have d4' : decode c.code (pc + 4) = .ok (.ldc_w is, 3) := by rw [hb]; exact d4
  have hstr' : vk_R own is text sa s' := vk_R.warm hW0 hstr
  obtain ⟨U, hsteps, hrun, hend, hW, hsame, ce, hce, hO⟩ := X₁.ctorThrowS hexec htr (own := own) (cls := cls) (names := names) (ic := ic) hown' hcls hnames h (fun x hx => nomatch hx) hfX hkX hcellA (by rw [hhp, hT]; exact Nat.le_refl _) (msg := .ref sa) rfl
    (g := { method := m, pc := pc + 7, locals := ls, stack := .ref sa :: .ref T.heap.size :: .ref T.heap.size :: rest, locked := none }) rfl hsize rfl rfl (rest := rest) rfl
    (by rw [hb]; exact d7) (by rw [hb]; exact d10) hout hRframes (by simp only [List.map_cons, List.sum_cons, hcat]; omega) hlocks
  obtain ⟨f1, f2⟩ := vx_frame hsame
  rw [hhp] at f1 f2
  have hWs : s.WarmedH U.vm := State.WarmedH.trans hW0 hW
  have hcl : s.vm.findClass cls = some ce.cls := by
    have h9 := hO.cls
    rw [hvm] at h9
    exact h9
  have hall : s.sameButNew ({ U with vm := s.vm } : State) locs mc ms := by
    subst hA
    obtain ⟨e1, e2⟩ := hsame
    rw [State.setFrames_setFrames] at e1
    have h2 : (T.setVm s.vm).sameButNew ({ U with vm := s.vm } : State) [] (0 + 1) (0 + 6) := ⟨e1, e2⟩
    have h3 := X.same.trans h2
    rw [List.append_nil] at h3
    exact h3.mono hc hs
  refine ⟨U, ?_, .threw T.heap.size, hrun, hend, Or.inr ⟨T.heap.size, rfl, cls, ce, locs, hx U hWs.alike f1 (fun q hq => f2 q hq (fun z hz => nomatch hz)), hce, hO.vm, hcl, hWs, hall, hf⟩⟩
  refine st1 _ ?_
  show Steps p.tables e below (T1.setTop { method := m, pc := pc + 3, locals := ls, stack := .ref T.heap.size :: rest, locked := none }) _
  jvm_step X₁.here [X₁.here.top, hexec, d3', Value.category]
  exact X₁.ldcStringW hexec (own := own) (text := text) (index := is) (a := sa) hown' hstr'.1 hstr'.2
    (g := { method := m, pc := pc + 4, locals := ls, stack := .ref T.heap.size :: .ref T.heap.size :: rest, locked := none }) rfl d4' _ hsteps
end Ends
section Bodies
variable {l : Launch}
theorem vx_ofW {y : MethodName} {ws ws' : List Cond} {rm : Room} {Pc : Array Value → State → Prop} {Qc : Array Value → State → Outcome → State → Prop} {XC : String → State → State → Prop} {mc ms : Nat} {free : Addr → Prop} {cc : ByteArray} {maxL : Nat} {ret : Option FieldType}
    (hy : plainName y.cls = true) (hw : ws = Cond.code y cc maxL ret :: ws')
    (body : ∀ p e s m args below meth c s₁, BodyLoose p l y (headSpec ws rm) cc maxL ret e s m args below meth c s₁ → c.maxLocals = maxL → (∀ x ∈ c.exceptionTable.toList, False) → Pc args s →
      W p l e (headSpec ws rm).room s m args below meth c s.heap [] 0 0 (vx_MQ below Qc XC args s mc ms free) (entryFrame m args maxL)) : vx_Met l y ws rm Pc Qc XC mc ms free := by
  refine MetFree.of_bodyS (code := cc) (maxLocals := maxL) (ret := ret) hy ?_ ?_
  · intro args s m h hn
    obtain ⟨meth, c, h1, h2, h3, h4, h5, h6, -, -⟩ := Cond.code_spec hn (atoms_spec (ws := ws) h _ (by rw [hw]; exact List.mem_cons_self))
    exact ⟨meth, c, h1, h2, h3, h4, h5, h6⟩
  · intro p e s m args below meth c s₁ B hml hP _
    have hh0 : s₁.heap = s.heap := by rw [B.state]; rfl
    have ht : ∀ x ∈ c.exceptionTable.toList, False := by
      obtain ⟨meth9, c9, h1, h2, -, -, -, -, h7, -⟩ := Cond.code_spec B.named (atoms_spec (ws := ws) B.pre _ (by rw [hw]; exact List.mem_cons_self))
      cases Option.some.inj (h1.symm.trans B.method)
      cases Option.some.inj (h2.symm.trans (Stand.of_body B).code)
      intro x hx
      rw [Array.isEmpty_iff.mp h7] at hx
      cases hx
    obtain ⟨t, a1, o, b1, b2, b3⟩ := body p e s m args below meth c s₁ B hml ht hP s₁ hh0 (Stand.of_body B)
    exact ⟨t, o, a1, b1, b2, b3⟩
/-- the table of a body with handlers -/
theorem vx_table {p : Program} {x y : MethodName} {S : Spec} {cc bytes : ByteArray} {maxL maxL' : Nat} {ret ret' : Option FieldType} {e : Env} {s s₁ : State} {m : MethodId} {args : Array Value} {below : List Frame} {meth : Method} {c : Code} {hh : List (Nat × Nat × Nat × Nat)}
    (B : BodyLoose p l y S cc maxL ret e s m args below meth c s₁) (h : (Cond.codeWith y bytes maxL' ret' hh).before args s = true) : c.exceptionTable.toList = tableOf hh := by
  obtain ⟨m9, meth9, c9, hn9, h1, h2, -, -, h6, -⟩ := Cond.codeWith_spec h
  cases Option.some.inj (hn9.symm.trans B.named)
  cases Option.some.inj (h1.symm.trans B.method)
  cases Option.some.inj (h2.symm.trans (Stand.of_body B).code)
  rw [← h6, table_eq]
end Bodies
end VXA
/-! ===== END ===== -/
/-! ===== BEGIN a static call of a method with an exception table ===== -/
section VXS
variable {p : Program} {l : Launch} {e : Env} {R : Room} {s : State} {m : MethodId} {args : Array Value} {below : List Frame} {meth : Method} {c : Code} {T : State} {H : Heap} {locs : List Loc} {cells slots : Nat}
abbrev vx_CSW (R : Room) (s : State) (args : Array Value) (own : String) (index : Nat) (y : MethodName) (bytes : ByteArray) (maxL : Nat) (ret : Option FieldType) (hh : List (Nat × Nat × Nat × Nat)) (ws : List Cond) (rm : Room) (mc ms n : Nat) : Prop :=
  (rm.cells = mc ∧ rm.slots = ms ∧ rm.frames + 1 ≤ R.frames ∧ 8 + (maxL + 11) + rm.locals ≤ R.locals ∧ (∀ w ∈ ws, ∀ (a' : Array Value) (U : State), s.WarmedH U.vm → w.before a' U = true) ∧ Cond.codeWith y bytes maxL ret hh ∈ ws) ∧
  (Cond.codeWith y bytes maxL ret hh).before args s = true ∧ (Cond.initialized y.cls).before args s = true ∧ (y.cls ≠ "java/lang/invoke/MethodHandle" ∧ y.cls ≠ "java/lang/invoke/VarHandle") ∧
  (∀ sig, parseMethodDescriptor y.desc = some sig → n = sig.parameters.length) ∧ (Cond.methodLink own index y).before args s = true ∧ (Cond.static y).before args s = true
theorem vx_cwSW {own : String} {index maxL mc ms : Nat} {y : MethodName} {bytes : ByteArray} {ret : Option FieldType} {hh : List (Nat × Nat × Nat × Nat)} {Ts ws ws' : List Cond} {rm : Room} (n : Nat) (ht : ∀ w ∈ Ts, w.before args s = true) (hT : GoodIn Ts (va_wsS own index y ws)) (hw : ws = Cond.codeWith y bytes maxL ret hh :: ws') (hrc : rm.cells = mc) (hrs : rm.slots = ms)
    (hd : y.cls ≠ "java/lang/invoke/MethodHandle" ∧ y.cls ≠ "java/lang/invoke/VarHandle" ∧ (parseMethodDescriptor y.desc).map (fun d => d.parameters.length) = some n) (hR : rm.frames + 1 ≤ R.frames ∧ 8 + (maxL + 11) + rm.locals ≤ R.locals) :
    vx_CSW R s args own index y bytes maxL ret hh ws rm mc ms n := by
  have ok : ∀ w ∈ va_wsS own index y ws, w.before args s = true := fun w h => ht w (hT w h).1
  have hG : GoodIn Ts ws := fun w h => hT w (by unfold va_wsS; exact List.mem_append_right _ h)
  have hc : Cond.codeWith y bytes maxL ret hh ∈ ws := by rw [hw]; exact List.mem_cons_self
  refine ⟨⟨hrc, hrs, hR.1, hR.2, pay_in ht hG, hc⟩, ht _ (hG _ hc).1, ok _ (by simp [va_wsS]), ⟨hd.1, hd.2.1⟩, fun sig h => ?_, ok _ (by simp [va_wsS]), ok _ (by simp [va_wsS])⟩
  have h2 := hd.2.2
  rw [h] at h2
  exact (Option.some.inj h2).symm
theorem vx_callSW (X : Stand p l e R s m args below meth c T locs cells slots) (hexec : p.tables.exec = Jvm.exec) {own : String} {index : Nat} {y : MethodName} {bytes : ByteArray} {maxL : Nat} {ret : Option FieldType} {hh : List (Nat × Nat × Nat × Nat)}
    (hown : s.vm.findClass own = some m.cls) (hlink : (Cond.methodLink own index y).before args s = true) (hstat : (Cond.static y).before args s = true) (hinit : (Cond.initialized y.cls).before args s = true)
    (hcode : (Cond.codeWith y bytes maxL ret hh).before args s = true) (hy : y.cls ≠ "java/lang/invoke/MethodHandle" ∧ y.cls ≠ "java/lang/invoke/VarHandle")
    {W9 : Nat} {Pre : Pt → Array Value → Prop} {Post : Pt → Array Value → Option Value → Pt → Prop} (hK : Back l R p e below s args y 3 W9 Pre Post)
    {g : JFrame} (hg : g.method = m) (hsize : g.locals.size = c.maxLocals) {argsL rest : List Value} (hlen : ∀ sig, parseMethodDescriptor y.desc = some sig → argsL.length = sig.parameters.length)
    (hstack : g.stack = argsL.reverse ++ rest) (hW : 2 * g.monitorRoom + (rest.map fun v => v.category).sum ≤ W9) (hdg : decode c.code g.pc = .ok (.invokestatic index, 3))
    (hpre : ∀ vm₁, s.WarmedH vm₁ → Pre ⟨T.setVm vm₁, locs, cells, slots⟩ argsL.toArray) :
    ∃ (v : Option Value) (vm₁ : Vm) (B : Pt), s.WarmedH vm₁ ∧ Stand p l e R s m args below meth c B.U B.locs B.cells B.slots ∧ Post ⟨T.setVm vm₁, locs, cells, slots⟩ argsL.toArray v B ∧
      ∀ target, Steps p.tables e below (B.U.setTop { g with pc := g.pc + 3, stack := v.toList ++ rest }) target → Steps p.tables e below (T.setTop g) target := by
  obtain ⟨mk, methM, cM, hnamed, hmethM, -, -, -, -, -, -, hsigM⟩ := Cond.codeWith_spec hcode
  have hstatic : methM.isStatic = true := Cond.static_spec hnamed hmethM hstat
  obtain ⟨kP, hkP, -⟩ := className_of_methodNamed hnamed
  have hinitP : kP.init = .initialized := Cond.initialized_spec (findClass_of_methodNamed hnamed) hkP hinit
  obtain ⟨vm₁, X₁, hstep₁⟩ := X.invokestatic hexec hown hlink hnamed hmethM hstatic hkP hinitP hy (g := g) hg (argsL := argsL) (rest := rest) (hlen _ hsigM) hstack hdg
  obtain ⟨v, B, X', hpost, hsteps⟩ := hK m meth c ⟨T.setVm vm₁, locs, cells, slots⟩ { g with stack := rest } (.invokestatic index) mk argsL.toArray X₁ hg hsize hdg hW (X₁.named hnamed) (hpre vm₁ X₁.warmed)
  exact ⟨v, vm₁, B, X₁.warmed, X', hpost, fun target h => hstep₁ _ fun acts => by rw [doInvoke_state]; exact hsteps.trans h⟩
theorem vx_runSW {y : MethodName} {bytes cc : ByteArray} {maxL nL mc ms n index : Nat} {ret : Option FieldType} {hh : List (Nat × Nat × Nat × Nat)} {ws : List Cond} {rm : Room} {Pc : Array Value → State → Prop} {Qc : Array Value → State → Outcome → State → Prop} {free : Addr → Prop} {Ts : List Cond} {own : String} {As rest : List Value} {g : JFrame}
    (S : CallFix p m c cc nL s args Ts own) (hM : Met l y ws rm Pc Qc mc ms free) (cw : vx_CSW R s args own index y bytes maxL ret hh ws rm mc ms n) (hp : PreS s H Pc As)
    (hg : g.method = m) (hn : As.length = n) (hsize : g.locals.size = nL) (hstack : g.stack = As.reverse ++ rest) (hW : 2 * g.monitorRoom + (rest.map fun v => v.category).sum ≤ 8) (hdg : decode cc g.pc = .ok (.invokestatic index, 3)) (hf : cells + mc ≤ R.cells ∧ slots + ms ≤ R.slots) :
    va_Run p l e R s m args below meth c H locs cells slots mc ms g rest (Qc As.toArray) (free) := by
  obtain ⟨⟨hrc, hrs, hfr, hlo, hws, hcw⟩, hcode, hini, hy, hlen, hl, hstt⟩ := cw
  have hK : Back l R p e below s args y 3 8 (PreOf R mc ms Pc) (PostOf Qc mc ms free) := va_backW (hh := hh) (bytes := bytes) (maxL := maxL) (ret := ret) hM hp.1 hrc hrs hfr hlo hws hcw (fun a' U hW => word_at hW (Or.inl (by first | rfl | simp [Cond.onTables, Cond.keeps, Cond.steady])) hini)
  obtain ⟨hx, hb, hml, ho, -⟩ := S
  intro T hT X
  obtain ⟨v, vm₁, ⟨U', l2, c2, s2⟩, hW₁, X', ⟨g', mk, t, L, e1, e2, hq, h1, hL, h2, h3⟩, st⟩ := vx_callSW X hx (hh := hh) (bytes := bytes) (maxL := maxL) (ret := ret) ho hl hstt hini hcode hy hK hg (hsize.trans hml.symm) (argsL := As) (rest := rest) (fun sig h => hn.trans (hlen sig h)) hstack hW (by rw [hb]; exact hdg)
    (fun vm₁ hW₁ => ⟨hf.1, hf.2, hp.2 (T.setVm vm₁) hT hW₁⟩)
  dsimp only [Pt.U, Pt.locs, Pt.cells, Pt.slots] at X' e1 e2 h1 h2 h3 st
  subst h1; subst h2; subst h3
  exact ⟨v, (T.setVm vm₁).calling g' mk As.toArray, t, U', L, hT, X', hL, e1, e2, hq, st⟩
/-- not caught here, past rows that name other classes: it goes on to the caller -/
theorem vx_outP {p : Program} {l : Launch} {e : Env} {R : Room} {s : State} {m : MethodId} {args : Array Value} {below : List Frame} {meth : Method} {c : Code} {H : Heap} {locs : List Loc} {cells slots : Nat} {free : Addr → Prop} {ls : Array Slot} {rest : List Value} {Qc : Array Value → State → Outcome → State → Prop} {XC : String → State → State → Prop}
    {pc : Nat} {own E : String} {ce : Cell} {q : Addr} {mc ms : Nat} (hown : s.vm.findClass own = some m.cls) (hlocks : meth.locks = false)
    (hpass : ∀ z ∈ c.exceptionTable.toList, covers z pc = false ∨ (z.catchType ≠ 0 ∧ ∃ nm : String, (Cond.classLink own z.catchType nm).before args s = true ∧ va_Nc E nm s)) (hcell : H[q]? = some ce) (hv : ce.vm = .none) (hcl : s.vm.findClass E = some ce.cls)
    (hx : ∀ t : State, t.heap = H → s.vm.Alike t.vm → XC E s t) (hf : ∀ z ∈ locs, free z.base) (hc : cells ≤ mc) (hs : slots ≤ ms) :
    vx_W p l e R s m args below meth c H locs cells slots (vx_MQ below Qc XC args s mc ms free) (F0 m pc ls rest) q := by
  intro T hT X
  have hpl : e.platform.magicAccessors = ({} : Platform).magicAccessors := by rw [X.admits.platform]
  obtain ⟨vm', hW', X', st⟩ := X.outThrough hlocks q (g := F0 m pc ls rest) rfl rfl rfl (cell := ce) (by rw [hT]; exact hcell) (by rw [hv]; rfl)
    (by obtain ⟨k9, h9, -⟩ := Vm.findClass_spec hcl; exact ⟨k9, h9⟩) (fun z hz => by
      rcases hpass z hz with h | ⟨hz0, nm, hl1, hn1⟩
      · exact Or.inl h
      · obtain ⟨c6, hc6, hcl6⟩ := Cond.classLink_spec hown hl1 e.platform hpl
        obtain ⟨a8, b8, h1, h2, h3⟩ := hn1
        cases Option.some.inj (h1.symm.trans hcl)
        cases Option.some.inj (h2.symm.trans hc6)
        exact Or.inr ⟨hz0, _, hcl6, h3⟩)
  obtain ⟨g₀, hfr⟩ := X'.frames_eq
  have hcell9 : ((T.setVm vm').setFrames (.throwing q :: below)).heap[q]? = some ce := by
    show T.heap[q]? = some ce
    rw [hT]; exact hcell
  have hend : Ended ((T.setVm vm').setFrames (.throwing q :: below)) below (.threw q) := State.frames_setFrames _ (State.cur_lt_of_frames hfr)
  refine ⟨(T.setVm vm').setFrames (.throwing q :: below), ?_, .threw q, X'.here.running, hend, Or.inr ⟨q, rfl, E, ce, locs, hx _ hT (X'.ends _).1.alike, hcell9, hv, hcl, (X'.ends _).1, (X'.ends _).2.mono hc hs, hf⟩⟩
  rw [X.pushThrowing_eq]
  exact st
/-- a thing of a world lies in the heap -/
theorem vx_lt {D : va_G} {cl : List vw_C} {ws : va_W} {H1 : Heap} (h : va_P D cl ws H1) {k : Nat} {q : Nat × va_E} (hk : ws[k]? = some q) : q.1 < H1.size := (h k q hk).lt
end VXS
/-! ===== END ===== -/
/-! ===== BEGIN methods with a table of their own: called by a name, returning or throwing ===== -/
section VXH
/-! vx_backW, vx_callVX, vx_callSX, vx_callVW, vx_runVW, vx_runVX, vx_runSX, vx_ofWH follow the same proofs as their sisters above (Free/Laws.lean, Shelf42/LK1.lean); vx_outP calls Shelf42/NT130.lean (outThrough). -/
section
variable {l : Launch} {R : Room} {p : Program} {e : Env} {below : List Frame} {s : State} {sargs : Array Value} {y : MethodName} {len W9 : Nat}
theorem vx_backW {ws : List Cond} {rm : Room} {Pc : Array Value → State → Prop} {Qc : Array Value → State → Outcome → State → Prop} {XC : String → State → State → Prop} {mc ms : Nat} {free : Addr → Prop} {bytes : ByteArray} {maxL : Nat} {ret : Option FieldType} {hh : List (Nat × Nat × Nat × Nat)}
    (hM : vx_Met l y ws rm Pc Qc XC mc ms free) (hblind : FrameBlind Pc) (hrc : rm.cells = mc) (hrs : rm.slots = ms)
    (hframes : rm.frames + 1 ≤ R.frames) (hlocals : W9 + (maxL + 11) + rm.locals ≤ R.locals)
    (hws : ∀ w ∈ ws, ∀ a' U, s.WarmedH U.vm → w.before a' U = true) (hcode : Cond.codeWith y bytes maxL ret hh ∈ ws) (hinit : ∀ a' U, s.WarmedH U.vm → (Cond.initialized y.cls).before a' U = true) :
    vx_Back l R p e below s sargs y len W9 (PreOf R mc ms Pc) (PostOf Qc mc ms free) (vx_Post XC mc ms free) := by
  intro m meth c A g ig mk a X hg hsize hdg hW hn hp
  have h1 : (headSpec ws rm).pre.before a A.U = true := atoms_intro fun w hw => hws w hw _ _ X.warmed
  have h2 : (Cond.codeWith y bytes maxL ret hh).before a A.U = true := hws _ hcode _ _ X.warmed
  have h3 : (Cond.initialized y.cls).before a A.U = true := hinit _ _ X.warmed
  have h4 : A.cells + (headSpec ws rm).room.cells ≤ R.cells := by rw [show (headSpec ws rm).room.cells = mc from hrc]; exact hp.1
  have h5 : A.slots + (headSpec ws rm).room.slots ≤ R.slots := by rw [show (headSpec ws rm).room.slots = ms from hrs]; exact hp.2.1
  have hPc : Pc a (A.U.calling g mk a) := hblind _ _ _ _ hp.2.2
  obtain ⟨U, Ls, c0, s0⟩ := A
  dsimp only [Pt.U, Pt.locs, Pt.cells, Pt.slots] at h1 h2 h3 h4 h5 X hn hPc ⊢
  obtain ⟨m9, methY, cY, hn9, hmY, hcY, -, hlY, -⟩ := Cond.codeWith_spec h2
  cases Option.some.inj (hn9.symm.trans hn)
  obtain ⟨kY, hkY, -⟩ := className_of_methodNamed hn
  have hinitY : kY.init = .initialized := Cond.initialized_spec (findClass_of_methodNamed hn) hkY h3
  have h : At U g.method c below := by rw [hg]; exact X.here
  have hlocals9 : W9 + (maxL + 11) + (headSpec ws rm).room.locals ≤ R.locals := hlocals
  have happ : (headSpec ws rm).appliesLoose y e.platform (U.calling g mk a) = true :=
    Spec.appliesLoose_calling (g := g) h hdg hn hkY hinitY
      (X.room_calling (g := g) (R' := (headSpec ws rm).room) hsize hmY hcY hframes (by rw [hlY]; omega) h4 h5) h1
  obtain ⟨mid, hmid⟩ := h.above
  have hfr : (U.setTop g).frames = (.java g :: mid) ++ below := by rw [State.frames_setTop' g h.top, hmid]; rfl
  obtain ⟨o, s₂, hsteps, -, hend, hq⟩ := Steps.callFree hM p X.admits X.cas X.clock (acts := []) hfr happ hPc trivial
  have hq' : vx_Q Qc XC mc ms free a (U.calling g mk a) o s₂ := hq
  rw [State.frames_setTop' g h.top] at hend
  obtain ⟨g₀, hg0⟩ := Option.isSome_iff_exists.mp h.top
  obtain ⟨r, hr⟩ := State.topJava?_eq_some.mp hg0
  have hr' : (({ U with heap := s₂.heap, slotsUsed := s₂.slotsUsed } : State).setVm s₂.vm).frames = .java g₀ :: r := hr
  rcases hq' with ⟨hqc, L, hfe, hL⟩ | ⟨q, rfl, E, ce, L, hx, hce, hcv, hcl, hW₂, hsm, hL⟩
  · obtain ⟨⟨v, rfl⟩, hW₂, e2, q2, q3, q4, q5, q6⟩ := id hfe
    have e3 : s₂ = ({ (U.calling g mk a).setFrames s₂.frames with heap := s₂.heap, slotsUsed := s₂.slotsUsed } : State).setVm s₂.vm := by
      have : s₂ = ({ s₂ with vm := (U.calling g mk a).vm } : State).setVm s₂.vm := rfl
      rw [e2] at this
      exact this
    obtain ⟨c₂, i₂, len₂, hc₂, hd₂, hf₂⟩ := hend
    have hW' : U.WarmedH s₂.vm := hW₂
    have hcc : c₂ = c := by
      have h1 : s₂.code? g.method = U.code? g.method := by
        rw [State.code?_eq, State.code?_eq, hW'.alike.method?]
      exact Option.some.inj (hc₂.symm.trans (h1.trans h.code))
    subst hcc
    have hlen : len₂ = len := by rw [hdg] at hd₂; cases hd₂; rfl
    subst hlen
    have hs₂ : s₂ = (({ U with heap := s₂.heap, slotsUsed := s₂.slotsUsed } : State).setVm s₂.vm).setTop { g with pc := g.pc + len₂, stack := v.toList ++ g.stack } := by
      refine e3.trans ?_
      rw [hf₂, State.calling_eq h.top, State.setFrames_setFrames, State.setTop_of_frames _ hr', hr]
      rfl
    have hsame : U.sameButNew ({ U with heap := s₂.heap, slotsUsed := s₂.slotsUsed } : State) L mc ms := by
      refine ⟨?_, q2, q3, q4, q5, q6⟩
      obtain ⟨t, ht, -⟩ := State.frames_cons hr
      show ({ U with heap := s₂.heap, slotsUsed := s₂.slotsUsed } : State) = { U.setFrames U.frames with heap := s₂.heap, slotsUsed := s₂.slotsUsed }
      rw [State.setFrames_self ht]
    subst hg
    refine Or.inl ⟨v, ⟨(({ U with heap := s₂.heap, slotsUsed := s₂.slotsUsed } : State).setVm s₂.vm), Ls ++ L, c0 + mc, s0 + ms⟩,
      ⟨X.admits, X.cas, X.clock, X.frames, X.room, X.hears, X.method, X.code, (X.here.setHeapUsed s₂.heap s₂.slotsUsed).setVm hW'.alike, X.tail, State.WarmedH.trans X.warmed hW', X.limits, X.bytes, X.same.trans (hsame.setVm s.vm)⟩,
      ⟨g, mk, s₂, L, rfl, rfl, hqc, rfl, hL, rfl, rfl⟩, ?_⟩
    show Steps p.tables e below _ ((({ U with heap := s₂.heap, slotsUsed := s₂.slotsUsed } : State).setVm s₂.vm).setTop { g with pc := g.pc + len₂, stack := v.toList ++ g.stack })
    rw [← hs₂]
    exact hsteps
  · obtain ⟨e2, q2, q3, q4, q5, q6⟩ := id hsm
    have e3 : s₂ = ({ (U.calling g mk a).setFrames s₂.frames with heap := s₂.heap, slotsUsed := s₂.slotsUsed } : State).setVm s₂.vm := by
      have : s₂ = ({ s₂ with vm := (U.calling g mk a).vm } : State).setVm s₂.vm := rfl
      rw [e2] at this
      exact this
    have hf₂ : s₂.frames = .throwing q :: .java g :: U.frames.tail := hend
    have hW' : U.WarmedH s₂.vm := hW₂
    have hs₂ : s₂ = ((({ U with heap := s₂.heap, slotsUsed := s₂.slotsUsed } : State).setVm s₂.vm).setTop g).pushFrame (.throwing q) := by
      refine e3.trans ?_
      rw [hf₂, State.calling_eq h.top, State.setFrames_setFrames, State.pushFrame, State.frames_setTop _ hr', State.setTop_of_frames _ hr', State.setFrames_setFrames, hr]
      rfl
    have hsame : U.sameButNew ({ U with heap := s₂.heap, slotsUsed := s₂.slotsUsed } : State) L mc ms := by
      refine ⟨?_, q2, q3, q4, q5, q6⟩
      obtain ⟨t, ht, -⟩ := State.frames_cons hr
      show ({ U with heap := s₂.heap, slotsUsed := s₂.slotsUsed } : State) = { U.setFrames U.frames with heap := s₂.heap, slotsUsed := s₂.slotsUsed }
      rw [State.setFrames_self ht]
    subst hg
    refine Or.inr ⟨q, ⟨(({ U with heap := s₂.heap, slotsUsed := s₂.slotsUsed } : State).setVm s₂.vm), Ls ++ L, c0 + mc, s0 + ms⟩,
      ⟨X.admits, X.cas, X.clock, X.frames, X.room, X.hears, X.method, X.code, (X.here.setHeapUsed s₂.heap s₂.slotsUsed).setVm hW'.alike, X.tail, State.WarmedH.trans X.warmed hW', X.limits, X.bytes, X.same.trans (hsame.setVm s.vm)⟩,
      ⟨g, mk, s₂, L, E, ce, rfl, rfl, hx, hce, hcv, hcl, rfl, hL, rfl, rfl⟩, ?_⟩
    show Steps p.tables e below _ (((({ U with heap := s₂.heap, slotsUsed := s₂.slotsUsed } : State).setVm s₂.vm).setTop g).pushFrame (.throwing q))
    rw [← hs₂]
    exact hsteps
end
variable {p : Program} {l : Launch} {e : Env} {R : Room} {s : State} {m : MethodId} {args : Array Value} {below : List Frame} {meth : Method} {c : Code} {T : State} {H : Heap} {locs : List Loc} {cells slots : Nat}
theorem vx_callVX (X : Stand p l e R s m args below meth c T locs cells slots) (hexec : p.tables.exec = Jvm.exec) {own C : String} {index : Nat} {y : MethodName} {bytes : ByteArray} {maxL : Nat} {ret : Option FieldType} {hh : List (Nat × Nat × Nat × Nat)}
    (hown : s.vm.findClass own = some m.cls) (hlink : (Cond.methodLink own index y).before args s = true) (hinst : (Cond.instanceMethod y).before args s = true) (hsel : (Cond.selects C y y).before args s = true)
    (hcode : (Cond.codeWith y bytes maxL ret hh).before args s = true) (hy : y.cls ≠ "java/lang/invoke/MethodHandle" ∧ y.cls ≠ "java/lang/invoke/VarHandle")
    {W9 : Nat} {Pre : Pt → Array Value → Prop} {Post : Pt → Array Value → Option Value → Pt → Prop} {PostX : Pt → Array Value → Addr → Pt → Prop} (hK : vx_Back l R p e below s args y 3 W9 Pre Post PostX)
    {b : Addr} {cellB : Cell} (hcell : T.heap[b]? = some cellB) (hobj : cellB.vm.isStatics = false) (hcls : s.vm.findClass C = some cellB.cls)
    {g : JFrame} (hg : g.method = m) (hsize : g.locals.size = c.maxLocals) {argsL rest : List Value} (hlen : ∀ sig, parseMethodDescriptor y.desc = some sig → argsL.length = sig.parameters.length)
    (hstack : g.stack = argsL.reverse ++ .ref b :: rest) (hW : 2 * g.monitorRoom + (rest.map fun v => v.category).sum ≤ W9) (hdg : decode c.code g.pc = .ok (.invokevirtual index, 3))
    (hpre : ∀ vm₁, s.WarmedH vm₁ → Pre ⟨T.setVm vm₁, locs, cells, slots⟩ (Value.ref b :: argsL).toArray) :
    (∃ (v : Option Value) (vm₁ : Vm) (B : Pt), s.WarmedH vm₁ ∧ Stand p l e R s m args below meth c B.U B.locs B.cells B.slots ∧ Post ⟨T.setVm vm₁, locs, cells, slots⟩ (Value.ref b :: argsL).toArray v B ∧
      ∀ target, Steps p.tables e below (B.U.setTop { g with pc := g.pc + 3, stack := v.toList ++ rest }) target → Steps p.tables e below (T.setTop g) target) ∨
    (∃ (q : Addr) (vm₁ : Vm) (B : Pt), s.WarmedH vm₁ ∧ Stand p l e R s m args below meth c B.U B.locs B.cells B.slots ∧ PostX ⟨T.setVm vm₁, locs, cells, slots⟩ (Value.ref b :: argsL).toArray q B ∧
      Steps p.tables e below (T.setTop g) ((B.U.setTop { g with stack := rest }).pushFrame (.throwing q))) := by
  obtain ⟨mk, methM, hnamed, hmethM, hstM, habM⟩ := Cond.instanceMethod_spec hinst
  obtain ⟨m8, methM', cM, hn8, hmethM', -, -, -, -, -, -, hsigM⟩ := Cond.codeWith_spec hcode
  cases Option.some.inj (hn8.symm.trans hnamed)
  cases hmethM.symm.trans hmethM'
  obtain ⟨c2, r2, m2, q1, q2, q3, q4, kP, hkP, hkPi⟩ := Cond.selects_spec hsel
  cases hcls.symm.trans q1
  cases (State.methodFound?_of_named hnamed hy).symm.trans q2
  cases hnamed.symm.trans q3
  have hselP : selectMethod e.platform s.vm cellB.cls mk = .method mk := by rw [Launch.admits_selectMethod X.admits]; exact q4
  obtain ⟨vm₁, X₁, hstep₁⟩ := X.invokevirtual hexec hown hlink hnamed hmethM hstM hkP hkPi hy (a := b) (cell := cellB) hcell
    (fun z h => by rw [h] at hobj; cases hobj) hselP hmethM habM hkP hkPi (g := g) hg (argsL := argsL) (rest := rest) (hlen _ hsigM) hstack hdg
  rcases hK m meth c ⟨T.setVm vm₁, locs, cells, slots⟩ { g with stack := rest } (.invokevirtual index) mk (Value.ref b :: argsL).toArray X₁ hg hsize hdg hW (X₁.named hnamed) (hpre vm₁ X₁.warmed) with ⟨v, B, X', hpost, hsteps⟩ | ⟨q, B, X', hpost, hsteps⟩
  · exact Or.inl ⟨v, vm₁, B, X₁.warmed, X', hpost, fun target h => hstep₁ _ fun acts => by rw [doInvoke_state]; exact hsteps.trans h⟩
  · exact Or.inr ⟨q, vm₁, B, X₁.warmed, X', hpost, hstep₁ _ fun acts => by rw [doInvoke_state]; exact hsteps⟩
theorem vx_callSX (X : Stand p l e R s m args below meth c T locs cells slots) (hexec : p.tables.exec = Jvm.exec) {own : String} {index : Nat} {y : MethodName} {bytes : ByteArray} {maxL : Nat} {ret : Option FieldType} {hh : List (Nat × Nat × Nat × Nat)}
    (hown : s.vm.findClass own = some m.cls) (hlink : (Cond.methodLink own index y).before args s = true) (hstat : (Cond.static y).before args s = true) (hinit : (Cond.initialized y.cls).before args s = true)
    (hcode : (Cond.codeWith y bytes maxL ret hh).before args s = true) (hy : y.cls ≠ "java/lang/invoke/MethodHandle" ∧ y.cls ≠ "java/lang/invoke/VarHandle")
    {W9 : Nat} {Pre : Pt → Array Value → Prop} {Post : Pt → Array Value → Option Value → Pt → Prop} {PostX : Pt → Array Value → Addr → Pt → Prop} (hK : vx_Back l R p e below s args y 3 W9 Pre Post PostX)
    {g : JFrame} (hg : g.method = m) (hsize : g.locals.size = c.maxLocals) {argsL rest : List Value} (hlen : ∀ sig, parseMethodDescriptor y.desc = some sig → argsL.length = sig.parameters.length)
    (hstack : g.stack = argsL.reverse ++ rest) (hW : 2 * g.monitorRoom + (rest.map fun v => v.category).sum ≤ W9) (hdg : decode c.code g.pc = .ok (.invokestatic index, 3))
    (hpre : ∀ vm₁, s.WarmedH vm₁ → Pre ⟨T.setVm vm₁, locs, cells, slots⟩ argsL.toArray) :
    (∃ (v : Option Value) (vm₁ : Vm) (B : Pt), s.WarmedH vm₁ ∧ Stand p l e R s m args below meth c B.U B.locs B.cells B.slots ∧ Post ⟨T.setVm vm₁, locs, cells, slots⟩ argsL.toArray v B ∧
      ∀ target, Steps p.tables e below (B.U.setTop { g with pc := g.pc + 3, stack := v.toList ++ rest }) target → Steps p.tables e below (T.setTop g) target) ∨
    (∃ (q : Addr) (vm₁ : Vm) (B : Pt), s.WarmedH vm₁ ∧ Stand p l e R s m args below meth c B.U B.locs B.cells B.slots ∧ PostX ⟨T.setVm vm₁, locs, cells, slots⟩ argsL.toArray q B ∧
      Steps p.tables e below (T.setTop g) ((B.U.setTop { g with stack := rest }).pushFrame (.throwing q))) := by
  obtain ⟨mk, methM, cM, hnamed, hmethM, -, -, -, -, -, -, hsigM⟩ := Cond.codeWith_spec hcode
  have hstatic : methM.isStatic = true := Cond.static_spec hnamed hmethM hstat
  obtain ⟨kP, hkP, -⟩ := className_of_methodNamed hnamed
  have hinitP : kP.init = .initialized := Cond.initialized_spec (findClass_of_methodNamed hnamed) hkP hinit
  obtain ⟨vm₁, X₁, hstep₁⟩ := X.invokestatic hexec hown hlink hnamed hmethM hstatic hkP hinitP hy (g := g) hg (argsL := argsL) (rest := rest) (hlen _ hsigM) hstack hdg
  rcases hK m meth c ⟨T.setVm vm₁, locs, cells, slots⟩ { g with stack := rest } (.invokestatic index) mk argsL.toArray X₁ hg hsize hdg hW (X₁.named hnamed) (hpre vm₁ X₁.warmed) with ⟨v, B, X', hpost, hsteps⟩ | ⟨q, B, X', hpost, hsteps⟩
  · exact Or.inl ⟨v, vm₁, B, X₁.warmed, X', hpost, fun target h => hstep₁ _ fun acts => by rw [doInvoke_state]; exact hsteps.trans h⟩
  · exact Or.inr ⟨q, vm₁, B, X₁.warmed, X', hpost, hstep₁ _ fun acts => by rw [doInvoke_state]; exact hsteps⟩
theorem vx_callVW (X : Stand p l e R s m args below meth c T locs cells slots) (hexec : p.tables.exec = Jvm.exec) {own C : String} {index : Nat} {y : MethodName} {bytes : ByteArray} {maxL : Nat} {ret : Option FieldType} {hh : List (Nat × Nat × Nat × Nat)}
    (hown : s.vm.findClass own = some m.cls) (hlink : (Cond.methodLink own index y).before args s = true) (hinst : (Cond.instanceMethod y).before args s = true) (hsel : (Cond.selects C y y).before args s = true)
    (hcode : (Cond.codeWith y bytes maxL ret hh).before args s = true) (hy : y.cls ≠ "java/lang/invoke/MethodHandle" ∧ y.cls ≠ "java/lang/invoke/VarHandle")
    {W9 : Nat} {Pre : Pt → Array Value → Prop} {Post : Pt → Array Value → Option Value → Pt → Prop} (hK : Back l R p e below s args y 3 W9 Pre Post)
    {b : Addr} {cellB : Cell} (hcell : T.heap[b]? = some cellB) (hobj : cellB.vm.isStatics = false) (hcls : s.vm.findClass C = some cellB.cls)
    {g : JFrame} (hg : g.method = m) (hsize : g.locals.size = c.maxLocals) {argsL rest : List Value} (hlen : ∀ sig, parseMethodDescriptor y.desc = some sig → argsL.length = sig.parameters.length)
    (hstack : g.stack = argsL.reverse ++ .ref b :: rest) (hW : 2 * g.monitorRoom + (rest.map fun v => v.category).sum ≤ W9) (hdg : decode c.code g.pc = .ok (.invokevirtual index, 3))
    (hpre : ∀ vm₁, s.WarmedH vm₁ → Pre ⟨T.setVm vm₁, locs, cells, slots⟩ (Value.ref b :: argsL).toArray) :
    ∃ (v : Option Value) (vm₁ : Vm) (B : Pt), s.WarmedH vm₁ ∧ Stand p l e R s m args below meth c B.U B.locs B.cells B.slots ∧ Post ⟨T.setVm vm₁, locs, cells, slots⟩ (Value.ref b :: argsL).toArray v B ∧
      ∀ target, Steps p.tables e below (B.U.setTop { g with pc := g.pc + 3, stack := v.toList ++ rest }) target → Steps p.tables e below (T.setTop g) target := by
  obtain ⟨mk, methM, hnamed, hmethM, hstM, habM⟩ := Cond.instanceMethod_spec hinst
  obtain ⟨m8, methM', cM, hn8, hmethM', -, -, -, -, -, -, hsigM⟩ := Cond.codeWith_spec hcode
  cases Option.some.inj (hn8.symm.trans hnamed)
  cases hmethM.symm.trans hmethM'
  obtain ⟨c2, r2, m2, q1, q2, q3, q4, kP, hkP, hkPi⟩ := Cond.selects_spec hsel
  cases hcls.symm.trans q1
  cases (State.methodFound?_of_named hnamed hy).symm.trans q2
  cases hnamed.symm.trans q3
  have hselP : selectMethod e.platform s.vm cellB.cls mk = .method mk := by rw [Launch.admits_selectMethod X.admits]; exact q4
  obtain ⟨vm₁, X₁, hstep₁⟩ := X.invokevirtual hexec hown hlink hnamed hmethM hstM hkP hkPi hy (a := b) (cell := cellB) hcell
    (fun z h => by rw [h] at hobj; cases hobj) hselP hmethM habM hkP hkPi (g := g) hg (argsL := argsL) (rest := rest) (hlen _ hsigM) hstack hdg
  obtain ⟨v, B, X', hpost, hsteps⟩ := hK m meth c ⟨T.setVm vm₁, locs, cells, slots⟩ { g with stack := rest } (.invokevirtual index) mk (Value.ref b :: argsL).toArray X₁ hg hsize hdg hW (X₁.named hnamed) (hpre vm₁ X₁.warmed)
  exact ⟨v, vm₁, B, X₁.warmed, X', hpost, fun target h => hstep₁ _ fun acts => by rw [doInvoke_state]; exact hsteps.trans h⟩
abbrev vx_CVW (R : Room) (s : State) (args : Array Value) (own C : String) (index : Nat) (y : MethodName) (bytes : ByteArray) (maxL : Nat) (ret : Option FieldType) (hh : List (Nat × Nat × Nat × Nat)) (ws : List Cond) (rm : Room) (mc ms n : Nat) : Prop :=
  (rm.cells = mc ∧ rm.slots = ms ∧ rm.frames + 1 ≤ R.frames ∧ 8 + (maxL + 11) + rm.locals ≤ R.locals ∧ (∀ w ∈ ws, ∀ (a' : Array Value) (U : State), s.WarmedH U.vm → w.before a' U = true) ∧ Cond.codeWith y bytes maxL ret hh ∈ ws) ∧
  (Cond.codeWith y bytes maxL ret hh).before args s = true ∧ (Cond.initialized y.cls).before args s = true ∧ (y.cls ≠ "java/lang/invoke/MethodHandle" ∧ y.cls ≠ "java/lang/invoke/VarHandle") ∧
  (∀ sig, parseMethodDescriptor y.desc = some sig → n = sig.parameters.length) ∧ (Cond.methodLink own index y).before args s = true ∧ (Cond.instanceMethod y).before args s = true ∧ (Cond.selects C y y).before args s = true
theorem vx_cwVW {own C : String} {index maxL mc ms : Nat} {y : MethodName} {bytes : ByteArray} {ret : Option FieldType} {hh : List (Nat × Nat × Nat × Nat)} {Ts ws ws' : List Cond} {rm : Room} (n : Nat) (ht : ∀ w ∈ Ts, w.before args s = true) (hT : GoodIn Ts (wsV own index C y ws)) (hw : ws = Cond.codeWith y bytes maxL ret hh :: ws') (hrc : rm.cells = mc) (hrs : rm.slots = ms)
    (hd : y.cls = C ∧ y.cls ≠ "java/lang/invoke/MethodHandle" ∧ y.cls ≠ "java/lang/invoke/VarHandle" ∧ (parseMethodDescriptor y.desc).map (fun d => d.parameters.length) = some n) (hR : rm.frames + 1 ≤ R.frames ∧ 8 + (maxL + 11) + rm.locals ≤ R.locals) :
    vx_CVW R s args own C index y bytes maxL ret hh ws rm mc ms n := by
  obtain ⟨hC, hd⟩ := hd
  subst hC
  have ok : ∀ w ∈ wsV own index y.cls y ws, w.before args s = true := fun w h => ht w (hT w h).1
  have hG : GoodIn Ts ws := fun w h => hT w (by unfold wsV; exact List.mem_append_right _ h)
  have hc : Cond.codeWith y bytes maxL ret hh ∈ ws := by rw [hw]; exact List.mem_cons_self
  refine ⟨⟨hrc, hrs, hR.1, hR.2, pay_in ht hG, hc⟩, ht _ (hG _ hc).1, ok _ (by simp [wsV]), ⟨hd.1, hd.2.1⟩, fun sig h => ?_, ok _ (by simp [wsV]), ok _ (by simp [wsV]), ok _ (by simp [wsV])⟩
  have h2 := hd.2.2
  rw [h] at h2
  exact (Option.some.inj h2).symm
theorem vx_runVW {y : MethodName} {bytes cc : ByteArray} {maxL nL mc ms n index : Nat} {ret : Option FieldType} {hh : List (Nat × Nat × Nat × Nat)} {ws : List Cond} {rm : Room} {Pc : Array Value → State → Prop} {Qc : Array Value → State → Outcome → State → Prop} {free : Addr → Prop} {Ts : List Cond} {own C : String} {b : Addr} {As rest : List Value} {g : JFrame}
    (S : CallFix p m c cc nL s args Ts own) (hM : Met l y ws rm Pc Qc mc ms free) (cw : vx_CVW R s args own C index y bytes maxL ret hh ws rm mc ms n) (hp : PreV s H C b Pc As)
    (hg : g.method = m) (hn : As.length = n) (hsize : g.locals.size = nL) (hstack : g.stack = As.reverse ++ .ref b :: rest) (hW : 2 * g.monitorRoom + (rest.map fun v => v.category).sum ≤ 8) (hdg : decode cc g.pc = .ok (.invokevirtual index, 3)) (hf : cells + mc ≤ R.cells ∧ slots + ms ≤ R.slots) :
    va_Run p l e R s m args below meth c H locs cells slots mc ms g rest (Qc (Value.ref b :: As).toArray) free := by
  obtain ⟨⟨hrc, hrs, hfr, hlo, hws, hcw⟩, hcode, hini, hy, hlen, hl, hin, hse⟩ := cw
  have hK : Back l R p e below s args y 3 8 (PreOf R mc ms Pc) (PostOf Qc mc ms free) := va_backW (hh := hh) (bytes := bytes) (maxL := maxL) (ret := ret) hM hp.1 hrc hrs hfr hlo hws hcw (fun a' U hW => word_at hW (Or.inl (by first | rfl | simp [Cond.onTables, Cond.keeps, Cond.steady])) hini)
  obtain ⟨hx, hb, hml, ho, -⟩ := S
  obtain ⟨-, ⟨cellB, hcB, hoB, hclB⟩, hPc⟩ := hp
  intro T hT X
  obtain ⟨v, vm₁, ⟨U', l2, c2, s2⟩, hW₁, X', ⟨g', mk, t, L, e1, e2, hq, h1, hL, h2, h3⟩, st⟩ := vx_callVW X hx (C := C) (hh := hh) (bytes := bytes) (maxL := maxL) (ret := ret) ho hl hin hse hcode hy hK (by rw [hT]; exact hcB) hoB hclB hg (hsize.trans hml.symm) (argsL := As) (rest := rest) (fun sig h => hn.trans (hlen sig h)) hstack hW (by rw [hb]; exact hdg)
    (fun vm₁ hW₁ => ⟨hf.1, hf.2, hPc (T.setVm vm₁) hT hW₁⟩)
  dsimp only [Pt.U, Pt.locs, Pt.cells, Pt.slots] at X' e1 e2 h1 h2 h3 st
  subst h1; subst h2; subst h3
  exact ⟨v, (T.setVm vm₁).calling g' mk (Value.ref b :: As).toArray, t, U', L, hT, X', hL, e1, e2, hq, st⟩
section
variable {y : MethodName} {bytes cc : ByteArray} {maxL nL mc ms n index : Nat} {ret : Option FieldType} {ws : List Cond} {rm : Room} {Pc : Array Value → State → Prop} {Qc : Array Value → State → Outcome → State → Prop} {XC : String → State → State → Prop} {free : Addr → Prop} {Ts : List Cond} {own C : String} {b : Addr} {As rest : List Value} {g : JFrame}
theorem vx_runVX {hh : List (Nat × Nat × Nat × Nat)} (S : CallFix p m c cc nL s args Ts own) (hM : vx_Met l y ws rm Pc Qc XC mc ms free) (cw : vx_CVW R s args own C index y bytes maxL ret hh ws rm mc ms n) (hp : PreV s H C b Pc As)
    (hg : g.method = m) (hn : As.length = n) (hsize : g.locals.size = nL) (hstack : g.stack = As.reverse ++ .ref b :: rest) (hW : 2 * g.monitorRoom + (rest.map fun v => v.category).sum ≤ 8) (hdg : decode cc g.pc = .ok (.invokevirtual index, 3)) (hf : cells + mc ≤ R.cells ∧ slots + ms ≤ R.slots) :
    vx_Run p l e R s m args below meth c H locs cells slots mc ms g rest (Qc (Value.ref b :: As).toArray) XC free := by
  obtain ⟨⟨hrc, hrs, hfr, hlo, hws, hcw⟩, hcode, hini, hy, hlen, hl, hin, hse⟩ := cw
  have hK : vx_Back l R p e below s args y 3 8 (PreOf R mc ms Pc) (PostOf Qc mc ms free) (vx_Post XC mc ms free) := vx_backW (hh := hh) (bytes := bytes) (maxL := maxL) (ret := ret) hM hp.1 hrc hrs hfr hlo hws hcw (fun a' U hW => word_at hW (Or.inl (by first | rfl | simp [Cond.onTables, Cond.keeps, Cond.steady])) hini)
  obtain ⟨hx, hb, hml, ho, -⟩ := S
  obtain ⟨-, ⟨cellB, hcB, hoB, hclB⟩, hPc⟩ := hp
  intro T hT X
  rcases vx_callVX X hx (C := C) (hh := hh) (bytes := bytes) (maxL := maxL) (ret := ret) ho hl hin hse hcode hy hK (by rw [hT]; exact hcB) hoB hclB hg (hsize.trans hml.symm) (argsL := As) (rest := rest) (fun sig h => hn.trans (hlen sig h)) hstack hW (by rw [hb]; exact hdg)
    (fun vm₁ hW₁ => ⟨hf.1, hf.2, hPc (T.setVm vm₁) hT hW₁⟩) with ⟨v, vm₁, ⟨U', l2, c2, s2⟩, hW₁, X', ⟨g', mk, t, L, e1, e2, hq, h1, hL, h2, h3⟩, st⟩ | ⟨q, vm₁, ⟨U', l2, c2, s2⟩, hW₁, X', ⟨g', mk, t, L, E, ce, e1, e2, hq, hce, hcv, hcl, h1, hL, h2, h3⟩, st⟩
  · dsimp only [Pt.U, Pt.locs, Pt.cells, Pt.slots] at X' e1 e2 h1 h2 h3 st
    subst h1; subst h2; subst h3
    exact Or.inl ⟨v, (T.setVm vm₁).calling g' mk (Value.ref b :: As).toArray, t, U', L, hT, X', hL, e1, e2, hq, st⟩
  · dsimp only [Pt.U, Pt.locs, Pt.cells, Pt.slots] at X' e1 e2 h1 h2 h3 st hcl
    subst h1; subst h2; subst h3
    exact Or.inr ⟨q, (T.setVm vm₁).calling g' mk (Value.ref b :: As).toArray, t, U', L, E, ce, hT, X', hL, e1, e2, hq, hce, hcv, vx_cls hW₁ hcl, st⟩
theorem vx_runSX {hh : List (Nat × Nat × Nat × Nat)} (S : CallFix p m c cc nL s args Ts own) (hM : vx_Met l y ws rm Pc Qc XC mc ms free) (cw : vx_CSW R s args own index y bytes maxL ret hh ws rm mc ms n) (hp : PreS s H Pc As)
    (hg : g.method = m) (hn : As.length = n) (hsize : g.locals.size = nL) (hstack : g.stack = As.reverse ++ rest) (hW : 2 * g.monitorRoom + (rest.map fun v => v.category).sum ≤ 8) (hdg : decode cc g.pc = .ok (.invokestatic index, 3)) (hf : cells + mc ≤ R.cells ∧ slots + ms ≤ R.slots) :
    vx_Run p l e R s m args below meth c H locs cells slots mc ms g rest (Qc As.toArray) XC free := by
  obtain ⟨⟨hrc, hrs, hfr, hlo, hws, hcw⟩, hcode, hini, hy, hlen, hl, hstt⟩ := cw
  have hK : vx_Back l R p e below s args y 3 8 (PreOf R mc ms Pc) (PostOf Qc mc ms free) (vx_Post XC mc ms free) := vx_backW (hh := hh) (bytes := bytes) (maxL := maxL) (ret := ret) hM hp.1 hrc hrs hfr hlo hws hcw (fun a' U hW => word_at hW (Or.inl (by first | rfl | simp [Cond.onTables, Cond.keeps, Cond.steady])) hini)
  obtain ⟨hx, hb, hml, ho, -⟩ := S
  intro T hT X
  rcases vx_callSX X hx (hh := hh) (bytes := bytes) (maxL := maxL) (ret := ret) ho hl hstt hini hcode hy hK hg (hsize.trans hml.symm) (argsL := As) (rest := rest) (fun sig h => hn.trans (hlen sig h)) hstack hW (by rw [hb]; exact hdg)
    (fun vm₁ hW₁ => ⟨hf.1, hf.2, hp.2 (T.setVm vm₁) hT hW₁⟩) with ⟨v, vm₁, ⟨U', l2, c2, s2⟩, hW₁, X', ⟨g', mk, t, L, e1, e2, hq, h1, hL, h2, h3⟩, st⟩ | ⟨q, vm₁, ⟨U', l2, c2, s2⟩, hW₁, X', ⟨g', mk, t, L, E, ce, e1, e2, hq, hce, hcv, hcl, h1, hL, h2, h3⟩, st⟩
  · dsimp only [Pt.U, Pt.locs, Pt.cells, Pt.slots] at X' e1 e2 h1 h2 h3 st
    subst h1; subst h2; subst h3
    exact Or.inl ⟨v, (T.setVm vm₁).calling g' mk As.toArray, t, U', L, hT, X', hL, e1, e2, hq, st⟩
  · dsimp only [Pt.U, Pt.locs, Pt.cells, Pt.slots] at X' e1 e2 h1 h2 h3 st hcl
    subst h1; subst h2; subst h3
    exact Or.inr ⟨q, (T.setVm vm₁).calling g' mk As.toArray, t, U', L, E, ce, hT, X', hL, e1, e2, hq, hce, hcv, vx_cls hW₁ hcl, st⟩
end
end VXH
theorem vx_ofWH {l : Launch} {y : MethodName} {ws ws' : List Cond} {rm : Room} {Pc : Array Value → State → Prop} {Qc : Array Value → State → Outcome → State → Prop} {XC : String → State → State → Prop} {mc ms : Nat} {free : Addr → Prop} {cc : ByteArray} {maxL : Nat} {ret : Option FieldType} {hh : List (Nat × Nat × Nat × Nat)}
    (hy : plainName y.cls = true) (hw : ws = Cond.codeWith y cc maxL ret hh :: ws')
    (body : ∀ p e s m args below meth c s₁, BodyLoose p l y (headSpec ws rm) cc maxL ret e s m args below meth c s₁ → c.maxLocals = maxL → Pc args s →
      W p l e (headSpec ws rm).room s m args below meth c s.heap [] 0 0 (vx_MQ below Qc XC args s mc ms free) (entryFrame m args maxL)) : vx_Met l y ws rm Pc Qc XC mc ms free := by
  refine MetFree.of_bodyS (code := cc) (maxLocals := maxL) (ret := ret) hy ?_ ?_
  · intro args s m h hn
    obtain ⟨m9, meth, c, hn9, h1, h2, h3, h4, -, h5, h6, -⟩ := Cond.codeWith_spec (atoms_spec (ws := ws) h _ (by rw [hw]; exact List.mem_cons_self))
    cases hn.symm.trans hn9
    exact ⟨meth, c, h1, h2, h3, h4, h5, h6⟩
  · intro p e s m args below meth c s₁ B hml hP _
    have hh0 : s₁.heap = s.heap := by rw [B.state]; rfl
    obtain ⟨t, a1, o, b1, b2, b3⟩ := body p e s m args below meth c s₁ B hml hP s₁ hh0 (Stand.of_body B)
    exact ⟨t, o, a1, b1, b2, b3⟩
/-! ===== END ===== -/
end
section
/-! ===== BEGIN printed: names, fields, word lists, decode rows ===== -/
def RX0 : String := "DefaultReasoner$Priorities"
def TX0 : u_T := fun k => match k with
  | 0 => ("DefaultReasoner$Priorities", "given", "[I", true)
  | _ => ("DefaultReasoner$Priorities", "reached", "[I", true)
def tyX0 : Nat → FieldType := fun k => match k with
  | 0 => .array .int
  | _ => .array .int
abbrev wsX00 : List Cond := u_ws RX0 TX0 2
theorem nmX0 : ∀ a, a < 2 → ∀ b, b < 2 → a ≠ b → (TX0 a).2.1 ≠ (TX0 b).2.1 := by decide +kernel
theorem tyX0_ok : ∀ k, k < 2 → parseFieldDescriptor (TX0 k).2.2.1 = some (tyX0 k) := by decide +kernel
abbrev cX0_init : ByteArray := prog_2_method_1_code
def yX0_init : MethodName := ⟨RX0, "<init>", "()V"⟩
abbrev cX0_comesBefore : ByteArray := prog_2_method_2_code
def yX0_comesBefore : MethodName := ⟨RX0, "comesBefore", "(II)Z"⟩
abbrev cX0_comesBeforeOneOf : ByteArray := prog_2_method_3_code
def yX0_comesBeforeOneOf : MethodName := ⟨RX0, "comesBeforeOneOf", "(II)Z"⟩
abbrev cX0_put : ByteArray := prog_2_method_4_code
def yX0_put : MethodName := ⟨RX0, "put", "(II)V"⟩
abbrev cX0_removeAllWith : ByteArray := prog_2_method_5_code
def yX0_removeAllWith : MethodName := ⟨RX0, "removeAllWith", "(I)V"⟩
abbrev cX0_clear : ByteArray := prog_2_method_6_code
def yX0_clear : MethodName := ⟨RX0, "clear", "()V"⟩
abbrev cX0_pairs : ByteArray := prog_2_method_7_code
def yX0_pairs : MethodName := ⟨RX0, "pairs", "()I"⟩
abbrev cX0_followChains : ByteArray := prog_2_method_8_code
def yX0_followChains : MethodName := ⟨RX0, "followChains", "()V"⟩
def RX1 : String := "DefaultReasoner"
def TX1 : u_T := fun k => match k with
  | 0 => ("DefaultReasoner", "factSet", "I", false)
  | 1 => ("DefaultReasoner", "ruleTotal", "I", false)
  | 2 => ("DefaultReasoner", "bodies", "[I", true)
  | 3 => ("DefaultReasoner", "heads", "[I", true)
  | 4 => ("DefaultReasoner", "defaultTotal", "I", false)
  | 5 => ("DefaultReasoner", "prerequisites", "[I", true)
  | 6 => ("DefaultReasoner", "justifications", "[I", true)
  | 7 => ("DefaultReasoner", "conclusions", "[I", true)
  | 8 => ("DefaultReasoner", "priorities", "LDefaultReasoner$Priorities;", true)
  | 9 => ("DefaultReasoner", "latestWalk", "[I", true)
  | 10 => ("DefaultReasoner", "latestTotal", "I", false)
  | 11 => ("DefaultReasoner", "lineup", "[I", true)
  | 12 => ("DefaultReasoner", "held", "[I", true)
  | 13 => ("DefaultReasoner", "usable", "[I", true)
  | 14 => ("DefaultReasoner", "extensions", "[I", true)
  | 15 => ("DefaultReasoner", "extensionTotal", "I", false)
  | 16 => ("DefaultReasoner", "extensionsKnown", "Z", false)
  | 17 => ("DefaultReasoner", "preferred", "[Z", true)
  | 18 => ("DefaultReasoner", "preferredTotal", "I", false)
  | _ => ("DefaultReasoner", "preferredKnown", "Z", false)
def tyX1 : Nat → FieldType := fun k => match k with
  | 0 => .int
  | 1 => .int
  | 2 => .array .int
  | 3 => .array .int
  | 4 => .int
  | 5 => .array .int
  | 6 => .array .int
  | 7 => .array .int
  | 8 => .object "DefaultReasoner$Priorities"
  | 9 => .array .int
  | 10 => .int
  | 11 => .array .int
  | 12 => .array .int
  | 13 => .array .int
  | 14 => .array .int
  | 15 => .int
  | 16 => .boolean
  | 17 => .array .boolean
  | 18 => .int
  | _ => .boolean
abbrev wsX10 : List Cond := u_ws RX1 TX1 20
theorem nmX1 : ∀ a, a < 20 → ∀ b, b < 20 → a ≠ b → (TX1 a).2.1 ≠ (TX1 b).2.1 := by decide +kernel
theorem tyX1_ok : ∀ k, k < 20 → parseFieldDescriptor (TX1 k).2.2.1 = some (tyX1 k) := by decide +kernel
abbrev cX1_init : ByteArray := prog_1_method_1_code
def yX1_init : MethodName := ⟨RX1, "<init>", "()V"⟩
abbrev cX1_setFact : ByteArray := prog_1_method_2_code
def yX1_setFact : MethodName := ⟨RX1, "setFact", "(IZ)Z"⟩
abbrev cX1_addRule : ByteArray := prog_1_method_3_code
def yX1_addRule : MethodName := ⟨RX1, "addRule", "(II)I"⟩
abbrev cX1_addDefault : ByteArray := prog_1_method_4_code
def yX1_addDefault : MethodName := ⟨RX1, "addDefault", "(III)I"⟩
abbrev cX1_dropRule : ByteArray := prog_1_method_5_code
def yX1_dropRule : MethodName := ⟨RX1, "dropRule", "()I"⟩
abbrev cX1_dropDefault : ByteArray := prog_1_method_6_code
def yX1_dropDefault : MethodName := ⟨RX1, "dropDefault", "()I"⟩
abbrev cX1_prefer : ByteArray := prog_1_method_7_code
def yX1_prefer : MethodName := ⟨RX1, "prefer", "(II)Z"⟩
abbrev cX1_forgetPriorities : ByteArray := prog_1_method_8_code
def yX1_forgetPriorities : MethodName := ⟨RX1, "forgetPriorities", "()I"⟩
abbrev cX1_isBefore : ByteArray := prog_1_method_9_code
def yX1_isBefore : MethodName := ⟨RX1, "isBefore", "(II)Z"⟩
abbrev cX1_facts : ByteArray := prog_1_method_10_code
def yX1_facts : MethodName := ⟨RX1, "facts", "()I"⟩
abbrev cX1_defaultCount : ByteArray := prog_1_method_11_code
def yX1_defaultCount : MethodName := ⟨RX1, "defaultCount", "()I"⟩
abbrev cX1_closure : ByteArray := prog_1_method_12_code
def yX1_closure : MethodName := ⟨RX1, "closure", "(I)I"⟩
abbrev cX1_isOpen : ByteArray := prog_1_method_13_code
def yX1_isOpen : MethodName := ⟨RX1, "isOpen", "(II)Z"⟩
abbrev cX1_generatorsOf : ByteArray := prog_1_method_14_code
def yX1_generatorsOf : MethodName := ⟨RX1, "generatorsOf", "(I)I"⟩
abbrev cX1_isExtension : ByteArray := prog_1_method_15_code
def yX1_isExtension : MethodName := ⟨RX1, "isExtension", "(I)Z"⟩
abbrev cX1_extensionCount : ByteArray := prog_1_method_16_code
def yX1_extensionCount : MethodName := ⟨RX1, "extensionCount", "()I"⟩
abbrev cX1_extension : ByteArray := prog_1_method_17_code
def yX1_extension : MethodName := ⟨RX1, "extension", "(I)I"⟩
abbrev cX1_isPreferred : ByteArray := prog_1_method_18_code
def yX1_isPreferred : MethodName := ⟨RX1, "isPreferred", "(I)Z"⟩
abbrev cX1_preferredCount : ByteArray := prog_1_method_19_code
def yX1_preferredCount : MethodName := ⟨RX1, "preferredCount", "()I"⟩
abbrev cX1_supports : ByteArray := prog_1_method_20_code
def yX1_supports : MethodName := ⟨RX1, "supports", "(I)I"⟩
abbrev cX1_common : ByteArray := prog_1_method_21_code
def yX1_common : MethodName := ⟨RX1, "common", "(Z)I"⟩
abbrev cX1_share : ByteArray := prog_1_method_22_code
def yX1_share : MethodName := ⟨RX1, "share", "(I)D"⟩
abbrev cX1_walk : ByteArray := prog_1_method_23_code
def yX1_walk : MethodName := ⟨RX1, "walk", "(I)I"⟩
abbrev cX1_appliedCount : ByteArray := prog_1_method_24_code
def yX1_appliedCount : MethodName := ⟨RX1, "appliedCount", "()I"⟩
abbrev cX1_applied : ByteArray := prog_1_method_25_code
def yX1_applied : MethodName := ⟨RX1, "applied", "(I)I"⟩
abbrev cX1_respects : ByteArray := prog_1_method_26_code
def yX1_respects : MethodName := ⟨RX1, "respects", "(I)Z"⟩
abbrev cX1_digest : ByteArray := prog_1_method_27_code
def yX1_digest : MethodName := ⟨RX1, "digest", "()J"⟩
abbrev cX1_checkLiteral : ByteArray := prog_1_method_28_code
def yX1_checkLiteral : MethodName := ⟨RX1, "checkLiteral", "(I)V"⟩
abbrev cX1_checkSet : ByteArray := prog_1_method_29_code
def yX1_checkSet : MethodName := ⟨RX1, "checkSet", "(I)V"⟩
abbrev cX1_checkDefault : ByteArray := prog_1_method_30_code
def yX1_checkDefault : MethodName := ⟨RX1, "checkDefault", "(I)V"⟩
abbrev cX1_checkExtension : ByteArray := prog_1_method_31_code
def yX1_checkExtension : MethodName := ⟨RX1, "checkExtension", "(I)V"⟩
abbrev cX1_checkOrder : ByteArray := prog_1_method_32_code
def yX1_checkOrder : MethodName := ⟨RX1, "checkOrder", "(I)V"⟩
abbrev cX1_has : ByteArray := prog_1_method_33_code
def yX1_has : MethodName := ⟨RX1, "has", "(II)Z"⟩
abbrev cX1_contains : ByteArray := prog_1_method_34_code
def yX1_contains : MethodName := ⟨RX1, "contains", "(II)Z"⟩
abbrev cX1_complements : ByteArray := prog_1_method_35_code
def yX1_complements : MethodName := ⟨RX1, "complements", "(I)I"⟩
abbrev cX1_mix : ByteArray := prog_1_method_36_code
def yX1_mix : MethodName := ⟨RX1, "mix", "(JJ)J"⟩
abbrev cX1_closeUp : ByteArray := prog_1_method_37_code
def yX1_closeUp : MethodName := ⟨RX1, "closeUp", "(I)I"⟩
abbrev cX1_opens : ByteArray := prog_1_method_38_code
def yX1_opens : MethodName := ⟨RX1, "opens", "(II)Z"⟩
abbrev cX1_forgetFindings : ByteArray := prog_1_method_39_code
def yX1_forgetFindings : MethodName := ⟨RX1, "forgetFindings", "()V"⟩
abbrev cX1_findExtensions : ByteArray := prog_1_method_40_code
def yX1_findExtensions : MethodName := ⟨RX1, "findExtensions", "()V"⟩
abbrev cX1_conclusionsOf : ByteArray := prog_1_method_41_code
def yX1_conclusionsOf : MethodName := ⟨RX1, "conclusionsOf", "(I)I"⟩
abbrev cX1_usableFor : ByteArray := prog_1_method_42_code
def yX1_usableFor : MethodName := ⟨RX1, "usableFor", "(I)I"⟩
abbrev cX1_generatorsFor : ByteArray := prog_1_method_43_code
def yX1_generatorsFor : MethodName := ⟨RX1, "generatorsFor", "(I)I"⟩
abbrev cX1_insertExtension : ByteArray := prog_1_method_44_code
def yX1_insertExtension : MethodName := ⟨RX1, "insertExtension", "(I)V"⟩
abbrev cX1_findPreferred : ByteArray := prog_1_method_45_code
def yX1_findPreferred : MethodName := ⟨RX1, "findPreferred", "()V"⟩
abbrev cX1_markPreferred : ByteArray := prog_1_method_46_code
def yX1_markPreferred : MethodName := ⟨RX1, "markPreferred", "(I)V"⟩
abbrev cX1_layOut : ByteArray := prog_1_method_47_code
def yX1_layOut : MethodName := ⟨RX1, "layOut", "(I)V"⟩
abbrev cX1_keepsPriorities : ByteArray := prog_1_method_48_code
def yX1_keepsPriorities : MethodName := ⟨RX1, "keepsPriorities", "()Z"⟩
abbrev cX1_endOfWalk : ByteArray := prog_1_method_49_code
def yX1_endOfWalk : MethodName := ⟨RX1, "endOfWalk", "()I"⟩
abbrev cX1_firstUsable : ByteArray := prog_1_method_50_code
def yX1_firstUsable : MethodName := ⟨RX1, "firstUsable", "(I)I"⟩
def RX2 : String := "DefaultReasonerModel"
def TX2 : u_T := fun k => match k with
  | 0 => ("DefaultReasonerModel", "thrown", "I", false)
  | 1 => ("DefaultReasonerModel", "facts", "I", false)
  | 2 => ("DefaultReasonerModel", "rules", "I", false)
  | 3 => ("DefaultReasonerModel", "bodies", "[I", true)
  | 4 => ("DefaultReasonerModel", "heads", "[I", true)
  | 5 => ("DefaultReasonerModel", "defaults", "I", false)
  | 6 => ("DefaultReasonerModel", "needs", "[I", true)
  | 7 => ("DefaultReasonerModel", "justifications", "[I", true)
  | 8 => ("DefaultReasonerModel", "conclusions", "[I", true)
  | 9 => ("DefaultReasonerModel", "told", "[Z", true)
  | 10 => ("DefaultReasonerModel", "applied", "I", false)
  | 11 => ("DefaultReasonerModel", "path", "[I", true)
  | 12 => ("DefaultReasonerModel", "count", "I", false)
  | 13 => ("DefaultReasonerModel", "all", "[I", true)
  | _ => ("DefaultReasonerModel", "arePreferred", "[Z", true)
def tyX2 : Nat → FieldType := fun k => match k with
  | 0 => .int
  | 1 => .int
  | 2 => .int
  | 3 => .array .int
  | 4 => .array .int
  | 5 => .int
  | 6 => .array .int
  | 7 => .array .int
  | 8 => .array .int
  | 9 => .array .boolean
  | 10 => .int
  | 11 => .array .int
  | 12 => .int
  | 13 => .array .int
  | _ => .array .boolean
abbrev wsX20 : List Cond := u_ws RX2 TX2 15
theorem nmX2 : ∀ a, a < 15 → ∀ b, b < 15 → a ≠ b → (TX2 a).2.1 ≠ (TX2 b).2.1 := by decide +kernel
theorem tyX2_ok : ∀ k, k < 15 → parseFieldDescriptor (TX2 k).2.2.1 = some (tyX2 k) := by decide +kernel
abbrev cX2_init : ByteArray := prog_4_method_1_code
def yX2_init : MethodName := ⟨RX2, "<init>", "()V"⟩
abbrev cX2_thrown : ByteArray := prog_4_method_2_code
def yX2_thrown : MethodName := ⟨RX2, "thrown", "()I"⟩
abbrev cX2_fail : ByteArray := prog_4_method_3_code
def yX2_fail : MethodName := ⟨RX2, "fail", "(I)I"⟩
abbrev cX2_isLiteral : ByteArray := prog_4_method_4_code
def yX2_isLiteral : MethodName := ⟨RX2, "isLiteral", "(I)Z"⟩
abbrev cX2_isSet : ByteArray := prog_4_method_5_code
def yX2_isSet : MethodName := ⟨RX2, "isSet", "(I)Z"⟩
abbrev cX2_isDefault : ByteArray := prog_4_method_6_code
def yX2_isDefault : MethodName := ⟨RX2, "isDefault", "(I)Z"⟩
abbrev cX2_setFact : ByteArray := prog_4_method_7_code
def yX2_setFact : MethodName := ⟨RX2, "setFact", "(IZ)Z"⟩
abbrev cX2_addRule : ByteArray := prog_4_method_8_code
def yX2_addRule : MethodName := ⟨RX2, "addRule", "(II)I"⟩
abbrev cX2_addDefault : ByteArray := prog_4_method_9_code
def yX2_addDefault : MethodName := ⟨RX2, "addDefault", "(III)I"⟩
abbrev cX2_dropRule : ByteArray := prog_4_method_10_code
def yX2_dropRule : MethodName := ⟨RX2, "dropRule", "()I"⟩
abbrev cX2_dropDefault : ByteArray := prog_4_method_11_code
def yX2_dropDefault : MethodName := ⟨RX2, "dropDefault", "()I"⟩
abbrev cX2_leads : ByteArray := prog_4_method_12_code
def yX2_leads : MethodName := ⟨RX2, "leads", "(III)Z"⟩
abbrev cX2_before : ByteArray := prog_4_method_13_code
def yX2_before : MethodName := ⟨RX2, "before", "(II)Z"⟩
abbrev cX2_prefer : ByteArray := prog_4_method_14_code
def yX2_prefer : MethodName := ⟨RX2, "prefer", "(II)Z"⟩
abbrev cX2_forgetPriorities : ByteArray := prog_4_method_15_code
def yX2_forgetPriorities : MethodName := ⟨RX2, "forgetPriorities", "()I"⟩
abbrev cX2_isBefore : ByteArray := prog_4_method_16_code
def yX2_isBefore : MethodName := ⟨RX2, "isBefore", "(II)Z"⟩
abbrev cX2_facts : ByteArray := prog_4_method_17_code
def yX2_facts : MethodName := ⟨RX2, "facts", "()I"⟩
abbrev cX2_defaultCount : ByteArray := prog_4_method_18_code
def yX2_defaultCount : MethodName := ⟨RX2, "defaultCount", "()I"⟩
abbrev cX2_complements : ByteArray := prog_4_method_19_code
def yX2_complements : MethodName := ⟨RX2, "complements", "(I)I"⟩
abbrev cX2_close : ByteArray := prog_4_method_20_code
def yX2_close : MethodName := ⟨RX2, "close", "(I)I"⟩
abbrev cX2_open : ByteArray := prog_4_method_21_code
def yX2_open : MethodName := ⟨RX2, "open", "(II)Z"⟩
abbrev cX2_consequences : ByteArray := prog_4_method_22_code
def yX2_consequences : MethodName := ⟨RX2, "consequences", "(I)I"⟩
abbrev cX2_generators : ByteArray := prog_4_method_23_code
def yX2_generators : MethodName := ⟨RX2, "generators", "(I)I"⟩
abbrev cX2_isStable : ByteArray := prog_4_method_24_code
def yX2_isStable : MethodName := ⟨RX2, "isStable", "(I)Z"⟩
abbrev cX2_closure : ByteArray := prog_4_method_25_code
def yX2_closure : MethodName := ⟨RX2, "closure", "(I)I"⟩
abbrev cX2_isOpen : ByteArray := prog_4_method_26_code
def yX2_isOpen : MethodName := ⟨RX2, "isOpen", "(II)Z"⟩
abbrev cX2_generatorsOf : ByteArray := prog_4_method_27_code
def yX2_generatorsOf : MethodName := ⟨RX2, "generatorsOf", "(I)I"⟩
abbrev cX2_isExtension : ByteArray := prog_4_method_28_code
def yX2_isExtension : MethodName := ⟨RX2, "isExtension", "(I)Z"⟩
abbrev cX2_find : ByteArray := prog_4_method_29_code
def yX2_find : MethodName := ⟨RX2, "find", "()V"⟩
abbrev cX2_findPreferred : ByteArray := prog_4_method_30_code
def yX2_findPreferred : MethodName := ⟨RX2, "findPreferred", "()V"⟩
abbrev cX2_extensionCount : ByteArray := prog_4_method_31_code
def yX2_extensionCount : MethodName := ⟨RX2, "extensionCount", "()I"⟩
abbrev cX2_asks : ByteArray := prog_4_method_32_code
def yX2_asks : MethodName := ⟨RX2, "asks", "(I)Z"⟩
abbrev cX2_extension : ByteArray := prog_4_method_33_code
def yX2_extension : MethodName := ⟨RX2, "extension", "(I)I"⟩
abbrev cX2_isPreferred : ByteArray := prog_4_method_34_code
def yX2_isPreferred : MethodName := ⟨RX2, "isPreferred", "(I)Z"⟩
abbrev cX2_preferred : ByteArray := prog_4_method_35_code
def yX2_preferred : MethodName := ⟨RX2, "preferred", "()I"⟩
abbrev cX2_preferredCount : ByteArray := prog_4_method_36_code
def yX2_preferredCount : MethodName := ⟨RX2, "preferredCount", "()I"⟩
abbrev cX2_supports : ByteArray := prog_4_method_37_code
def yX2_supports : MethodName := ⟨RX2, "supports", "(I)I"⟩
abbrev cX2_common : ByteArray := prog_4_method_38_code
def yX2_common : MethodName := ⟨RX2, "common", "(Z)I"⟩
abbrev cX2_share : ByteArray := prog_4_method_39_code
def yX2_share : MethodName := ⟨RX2, "share", "(I)D"⟩
abbrev cX2_orders : ByteArray := prog_4_method_40_code
def yX2_orders : MethodName := ⟨RX2, "orders", "()I"⟩
abbrev cX2_setOrder : ByteArray := prog_4_method_41_code
def yX2_setOrder : MethodName := ⟨RX2, "setOrder", "([II)V"⟩
abbrev cX2_respects : ByteArray := prog_4_method_42_code
def yX2_respects : MethodName := ⟨RX2, "respects", "([I)Z"⟩
abbrev cX2_walk : ByteArray := prog_4_method_43_code
def yX2_walk : MethodName := ⟨RX2, "walk", "([I[I)I"⟩
abbrev cX2_first : ByteArray := prog_4_method_44_code
def yX2_first : MethodName := ⟨RX2, "first", "([II)I"⟩
abbrev cX2_isOrder : ByteArray := prog_4_method_45_code
def yX2_isOrder : MethodName := ⟨RX2, "isOrder", "(I)Z"⟩
abbrev cX2_walk_ : ByteArray := prog_4_method_46_code
def yX2_walk_ : MethodName := ⟨RX2, "walk", "(I)I"⟩
abbrev cX2_appliedCount : ByteArray := prog_4_method_47_code
def yX2_appliedCount : MethodName := ⟨RX2, "appliedCount", "()I"⟩
abbrev cX2_applied : ByteArray := prog_4_method_48_code
def yX2_applied : MethodName := ⟨RX2, "applied", "(I)I"⟩
abbrev cX2_respects_ : ByteArray := prog_4_method_49_code
def yX2_respects_ : MethodName := ⟨RX2, "respects", "(I)Z"⟩
abbrev cX2_digest : ByteArray := prog_4_method_50_code
def yX2_digest : MethodName := ⟨RX2, "digest", "()J"⟩
def RJ6 : String := "java/lang/Integer"
def TJ6 : u_T := fun k => match k with
  | _ => ("", "", "", false)
def tyJ6 : Nat → FieldType := fun k => match k with
  | _ => .int
abbrev wsJ60 : List Cond := u_ws RJ6 TJ6 0
theorem nmJ6 : ∀ a, a < 0 → ∀ b, b < 0 → a ≠ b → (TJ6 a).2.1 ≠ (TJ6 b).2.1 := by decide +kernel
theorem tyJ6_ok : ∀ k, k < 0 → parseFieldDescriptor (TJ6 k).2.2.1 = some (tyJ6 k) := by decide +kernel
abbrev cJ6_bitCount_0f7a4 : ByteArray := prog_9_method_49_code
def yJ6_bitCount_0f7a4 : MethodName := ⟨RJ6, "bitCount", "(I)I"⟩
def RJ0 : String := "java/lang/String"
def TJ0 : u_T := fun k => match k with
  | _ => ("", "", "", false)
def tyJ0 : Nat → FieldType := fun k => match k with
  | _ => .int
abbrev wsJ00 : List Cond := u_ws RJ0 TJ0 0
theorem nmJ0 : ∀ a, a < 0 → ∀ b, b < 0 → a ≠ b → (TJ0 a).2.1 ≠ (TJ0 b).2.1 := by decide +kernel
theorem tyJ0_ok : ∀ k, k < 0 → parseFieldDescriptor (TJ0 k).2.2.1 = some (tyJ0 k) := by decide +kernel
def RL : String := "DefaultReasonerLaw"
abbrev cL_setFact : ByteArray := method_3_code
def yL_setFact : MethodName := ⟨RL, "setFact", "(LDefaultReasoner;IZ[J)I"⟩
abbrev cL_addRule : ByteArray := method_4_code
def yL_addRule : MethodName := ⟨RL, "addRule", "(LDefaultReasoner;II[J)I"⟩
abbrev cL_addDefault : ByteArray := method_5_code
def yL_addDefault : MethodName := ⟨RL, "addDefault", "(LDefaultReasoner;III[J)I"⟩
abbrev cL_dropRule : ByteArray := method_6_code
def yL_dropRule : MethodName := ⟨RL, "dropRule", "(LDefaultReasoner;[J)I"⟩
abbrev cL_dropDefault : ByteArray := method_7_code
def yL_dropDefault : MethodName := ⟨RL, "dropDefault", "(LDefaultReasoner;[J)I"⟩
abbrev cL_prefer : ByteArray := method_8_code
def yL_prefer : MethodName := ⟨RL, "prefer", "(LDefaultReasoner;II[J)I"⟩
abbrev cL_isBefore : ByteArray := method_9_code
def yL_isBefore : MethodName := ⟨RL, "isBefore", "(LDefaultReasoner;II[J)I"⟩
abbrev cL_closure : ByteArray := method_10_code
def yL_closure : MethodName := ⟨RL, "closure", "(LDefaultReasoner;I[J)I"⟩
abbrev cL_isOpen : ByteArray := method_11_code
def yL_isOpen : MethodName := ⟨RL, "isOpen", "(LDefaultReasoner;II[J)I"⟩
abbrev cL_generatorsOf : ByteArray := method_12_code
def yL_generatorsOf : MethodName := ⟨RL, "generatorsOf", "(LDefaultReasoner;I[J)I"⟩
abbrev cL_isExtension : ByteArray := method_13_code
def yL_isExtension : MethodName := ⟨RL, "isExtension", "(LDefaultReasoner;I[J)I"⟩
abbrev cL_extension : ByteArray := method_14_code
def yL_extension : MethodName := ⟨RL, "extension", "(LDefaultReasoner;I[J)I"⟩
abbrev cL_isPreferred : ByteArray := method_15_code
def yL_isPreferred : MethodName := ⟨RL, "isPreferred", "(LDefaultReasoner;I[J)I"⟩
abbrev cL_supports : ByteArray := method_16_code
def yL_supports : MethodName := ⟨RL, "supports", "(LDefaultReasoner;I[J)I"⟩
abbrev cL_share : ByteArray := method_17_code
def yL_share : MethodName := ⟨RL, "share", "(LDefaultReasoner;I[D)I"⟩
abbrev cL_walk : ByteArray := method_18_code
def yL_walk : MethodName := ⟨RL, "walk", "(LDefaultReasoner;I[J)I"⟩
abbrev cL_applied : ByteArray := method_19_code
def yL_applied : MethodName := ⟨RL, "applied", "(LDefaultReasoner;I[J)I"⟩
abbrev cL_respects : ByteArray := method_20_code
def yL_respects : MethodName := ⟨RL, "respects", "(LDefaultReasoner;I[J)I"⟩
abbrev cL_law : ByteArray := code
def yL_law : MethodName := ⟨RL, "law", "([I)Z"⟩
def wsX0_init : List Cond := .code yX0_init cX0_init 1 none :: ([.methodLink RX0 3 objectInit, .instanceMethod objectInit, .code objectInit ⟨#[0xb1]⟩ 1 none, .arrayClass .int, .fieldLink RX0 9 "DefaultReasoner$Priorities" "given" "[I", .fieldLink RX0 15 "DefaultReasoner$Priorities" "reached" "[I"] ++ wsX00)
def wsX1_has : List Cond := .code yX1_has cX1_has 2 (some .boolean) :: ([])
def wsX0_comesBefore : List Cond := .code yX0_comesBefore cX0_comesBefore 3 (some .boolean) :: ([.fieldLink RX0 15 "DefaultReasoner$Priorities" "reached" "[I", .static yX1_has, .initialized RX1, .code yX1_has cX1_has 2 (some .boolean)] ++ wsX00)
def wsX0_comesBeforeOneOf : List Cond := .code yX0_comesBeforeOneOf cX0_comesBeforeOneOf 3 (some .boolean) :: ([.fieldLink RX0 15 "DefaultReasoner$Priorities" "reached" "[I"] ++ wsX00)
def wsX0_followChains : List Cond := .code yX0_followChains cX0_followChains 3 none :: ([.fieldLink RX0 15 "DefaultReasoner$Priorities" "reached" "[I", .fieldLink RX0 9 "DefaultReasoner$Priorities" "given" "[I", .static yX1_has, .initialized RX1, .code yX1_has cX1_has 2 (some .boolean)] ++ wsX00)
def wsX0_put : List Cond := .code yX0_put cX0_put 3 none :: ([.fieldLink RX0 9 "DefaultReasoner$Priorities" "given" "[I", .methodLink RX0 22 yX0_followChains, .instanceMethod yX0_followChains, .selects RX0 yX0_followChains yX0_followChains, .initialized RX0, .code yX0_followChains cX0_followChains 3 none, .fieldLink RX0 15 "DefaultReasoner$Priorities" "reached" "[I", .static yX1_has, .initialized RX1, .code yX1_has cX1_has 2 (some .boolean)] ++ wsX00)
def wsX0_removeAllWith : List Cond := .code yX0_removeAllWith cX0_removeAllWith 3 none :: ([.fieldLink RX0 9 "DefaultReasoner$Priorities" "given" "[I", .methodLink RX0 22 yX0_followChains, .instanceMethod yX0_followChains, .selects RX0 yX0_followChains yX0_followChains, .initialized RX0, .code yX0_followChains cX0_followChains 3 none, .fieldLink RX0 15 "DefaultReasoner$Priorities" "reached" "[I", .static yX1_has, .initialized RX1, .code yX1_has cX1_has 2 (some .boolean)] ++ wsX00)
def wsX0_clear : List Cond := .code yX0_clear cX0_clear 2 none :: ([.fieldLink RX0 9 "DefaultReasoner$Priorities" "given" "[I", .fieldLink RX0 15 "DefaultReasoner$Priorities" "reached" "[I"] ++ wsX00)
def wsJ6_bitCount_0f7a4 : List Cond := .code yJ6_bitCount_0f7a4 cJ6_bitCount_0f7a4 1 (some .int) :: ([.constant RJ6 265 (1431655765), .constant RJ6 266 (858993459), .constant RJ6 267 (252645135)])
def wsX0_pairs : List Cond := .code yX0_pairs cX0_pairs 3 (some .int) :: ([.fieldLink RX0 15 "DefaultReasoner$Priorities" "reached" "[I", .methodLink RX0 25 yJ6_bitCount_0f7a4, .static yJ6_bitCount_0f7a4, .initialized RJ6, .code yJ6_bitCount_0f7a4 cJ6_bitCount_0f7a4 1 (some .int), .constant RJ6 265 (1431655765), .constant RJ6 266 (858993459), .constant RJ6 267 (252645135)] ++ wsX00)
def wsX1_init_r1 : List Cond := [Cond.methodLink RX1 1 objectInit, Cond.instanceMethod objectInit, Cond.code objectInit ⟨#[0xb1]⟩ 1 none, Cond.arrayClass .int, Cond.fieldLink RX1 9 "DefaultReasoner" "bodies" "[I", Cond.fieldLink RX1 13 "DefaultReasoner" "heads" "[I", Cond.fieldLink RX1 16 "DefaultReasoner" "prerequisites" "[I", Cond.fieldLink RX1 19 "DefaultReasoner" "justifications" "[I", Cond.fieldLink RX1 22 "DefaultReasoner" "conclusions" "[I", Cond.classLink RX1 25 RX0, Cond.instantiable RX0 2, Cond.initialized RX0, Cond.fieldLink RX1 28 "DefaultReasoner" "priorities" "LDefaultReasoner$Priorities;", Cond.fieldLink RX1 32 "DefaultReasoner" "latestWalk" "[I", Cond.fieldLink RX1 35 "DefaultReasoner" "lineup" "[I", Cond.fieldLink RX1 38 "DefaultReasoner" "held" "[I", Cond.fieldLink RX1 41 "DefaultReasoner" "usable" "[I", Cond.fieldLink RX1 44 "DefaultReasoner" "extensions" "[I", Cond.arrayClass .boolean, Cond.fieldLink RX1 47 "DefaultReasoner" "preferred" "[Z", Cond.instanceMethod yX0_init, Cond.code yX0_init cX0_init 1 none, Cond.methodLink RX0 3 objectInit, Cond.fieldLink RX0 9 "DefaultReasoner$Priorities" "given" "[I"]
def wsX1_init_r2 : List Cond := [Cond.fieldLink RX0 15 "DefaultReasoner$Priorities" "reached" "[I"]
def wsX1_init : List Cond := .code yX1_init cX1_init 1 none :: ((wsX1_init_r1 ++ wsX1_init_r2) ++ wsX10 ++ wsX00)
def wsX1_checkLiteral : List Cond := .code yX1_checkLiteral cX1_checkLiteral 1 none :: ([.classLink RX1 155 "java/lang/IndexOutOfBoundsException", .initialized "java/lang/IndexOutOfBoundsException"] ++ (vx_atS RX1 159 "java/lang/IndexOutOfBoundsException" ["java/lang/RuntimeException", "java/lang/Exception"]).filter goodWord)
def wsX1_forgetFindings : List Cond := .code yX1_forgetFindings cX1_forgetFindings 1 none :: ([.fieldLink RX1 191 "DefaultReasoner" "extensionsKnown" "Z", .fieldLink RX1 106 "DefaultReasoner" "preferredKnown" "Z"] ++ wsX10)
def wsX1_setFact : List Cond := .code yX1_setFact cX1_setFact 4 (some .boolean) :: ([.fieldLink RX1 55 "DefaultReasoner" "factSet" "I", .methodLink RX1 51 yX1_checkLiteral, .static yX1_checkLiteral, .initialized RX1, .code yX1_checkLiteral cX1_checkLiteral 1 none, .classLink RX1 155 "java/lang/IndexOutOfBoundsException", .initialized "java/lang/IndexOutOfBoundsException", .methodLink RX1 59 yX1_has, .static yX1_has, .code yX1_has cX1_has 2 (some .boolean), .methodLink RX1 63 yX1_forgetFindings, .instanceMethod yX1_forgetFindings, .selects RX1 yX1_forgetFindings yX1_forgetFindings, .code yX1_forgetFindings cX1_forgetFindings 1 none, .fieldLink RX1 191 "DefaultReasoner" "extensionsKnown" "Z", .fieldLink RX1 106 "DefaultReasoner" "preferredKnown" "Z"] ++ wsX10 ++ (vx_atS RX1 159 "java/lang/IndexOutOfBoundsException" ["java/lang/RuntimeException", "java/lang/Exception"]).filter goodWord)
def wsX1_checkSet : List Cond := .code yX1_checkSet cX1_checkSet 1 none :: ([.classLink RX1 97 "java/lang/IllegalArgumentException", .initialized "java/lang/IllegalArgumentException", .constant RX1 142 (65535)] ++ (vx_atS RX1 101 "java/lang/IllegalArgumentException" ["java/lang/RuntimeException", "java/lang/Exception"]).filter goodWord)
def wsX1_addRule : List Cond := .code yX1_addRule cX1_addRule 4 (some .int) :: ([.classLink RX1 72 "java/lang/IllegalStateException", .initialized "java/lang/IllegalStateException", .fieldLink RX1 69 "DefaultReasoner" "ruleTotal" "I", .fieldLink RX1 9 "DefaultReasoner" "bodies" "[I", .fieldLink RX1 13 "DefaultReasoner" "heads" "[I", .methodLink RX1 51 yX1_checkLiteral, .static yX1_checkLiteral, .initialized RX1, .code yX1_checkLiteral cX1_checkLiteral 1 none, .classLink RX1 155 "java/lang/IndexOutOfBoundsException", .initialized "java/lang/IndexOutOfBoundsException", .methodLink RX1 66 yX1_checkSet, .static yX1_checkSet, .code yX1_checkSet cX1_checkSet 1 none, .classLink RX1 97 "java/lang/IllegalArgumentException", .initialized "java/lang/IllegalArgumentException", .constant RX1 142 (65535), .methodLink RX1 63 yX1_forgetFindings, .instanceMethod yX1_forgetFindings, .selects RX1 yX1_forgetFindings yX1_forgetFindings, .code yX1_forgetFindings cX1_forgetFindings 1 none, .fieldLink RX1 191 "DefaultReasoner" "extensionsKnown" "Z", .fieldLink RX1 106 "DefaultReasoner" "preferredKnown" "Z"] ++ wsX10 ++ (vx_atS RX1 76 "java/lang/IllegalStateException" ["java/lang/RuntimeException", "java/lang/Exception"]).filter goodWord ++ (vx_atS RX1 159 "java/lang/IndexOutOfBoundsException" ["java/lang/RuntimeException", "java/lang/Exception"]).filter goodWord ++ (vx_atS RX1 101 "java/lang/IllegalArgumentException" ["java/lang/RuntimeException", "java/lang/Exception"]).filter goodWord)
def wsX1_addDefault : List Cond := .code yX1_addDefault cX1_addDefault 5 (some .int) :: ([.classLink RX1 72 "java/lang/IllegalStateException", .initialized "java/lang/IllegalStateException", .fieldLink RX1 79 "DefaultReasoner" "defaultTotal" "I", .fieldLink RX1 16 "DefaultReasoner" "prerequisites" "[I", .fieldLink RX1 19 "DefaultReasoner" "justifications" "[I", .fieldLink RX1 22 "DefaultReasoner" "conclusions" "[I", .methodLink RX1 51 yX1_checkLiteral, .static yX1_checkLiteral, .initialized RX1, .code yX1_checkLiteral cX1_checkLiteral 1 none, .classLink RX1 155 "java/lang/IndexOutOfBoundsException", .initialized "java/lang/IndexOutOfBoundsException", .methodLink RX1 66 yX1_checkSet, .static yX1_checkSet, .code yX1_checkSet cX1_checkSet 1 none, .classLink RX1 97 "java/lang/IllegalArgumentException", .initialized "java/lang/IllegalArgumentException", .constant RX1 142 (65535), .methodLink RX1 63 yX1_forgetFindings, .instanceMethod yX1_forgetFindings, .selects RX1 yX1_forgetFindings yX1_forgetFindings, .code yX1_forgetFindings cX1_forgetFindings 1 none, .fieldLink RX1 191 "DefaultReasoner" "extensionsKnown" "Z", .fieldLink RX1 106 "DefaultReasoner" "preferredKnown" "Z"] ++ wsX10 ++ (vx_atS RX1 76 "java/lang/IllegalStateException" ["java/lang/RuntimeException", "java/lang/Exception"]).filter goodWord ++ (vx_atS RX1 159 "java/lang/IndexOutOfBoundsException" ["java/lang/RuntimeException", "java/lang/Exception"]).filter goodWord ++ (vx_atS RX1 101 "java/lang/IllegalArgumentException" ["java/lang/RuntimeException", "java/lang/Exception"]).filter goodWord)
def wsX1_dropRule : List Cond := .code yX1_dropRule cX1_dropRule 1 (some .int) :: ([.classLink RX1 72 "java/lang/IllegalStateException", .initialized "java/lang/IllegalStateException", .fieldLink RX1 69 "DefaultReasoner" "ruleTotal" "I", .methodLink RX1 63 yX1_forgetFindings, .instanceMethod yX1_forgetFindings, .selects RX1 yX1_forgetFindings yX1_forgetFindings, .initialized RX1, .code yX1_forgetFindings cX1_forgetFindings 1 none, .fieldLink RX1 191 "DefaultReasoner" "extensionsKnown" "Z", .fieldLink RX1 106 "DefaultReasoner" "preferredKnown" "Z"] ++ wsX10 ++ (vx_atS RX1 76 "java/lang/IllegalStateException" ["java/lang/RuntimeException", "java/lang/Exception"]).filter goodWord)
def wsX1_dropDefault : List Cond := .code yX1_dropDefault cX1_dropDefault 1 (some .int) :: ([.classLink RX1 72 "java/lang/IllegalStateException", .initialized "java/lang/IllegalStateException", .fieldLink RX1 79 "DefaultReasoner" "defaultTotal" "I", .fieldLink RX1 28 "DefaultReasoner" "priorities" "LDefaultReasoner$Priorities;", .instanceMethod yX0_removeAllWith, .initialized RX0, .selects RX0 yX0_removeAllWith yX0_removeAllWith, .code yX0_removeAllWith cX0_removeAllWith 3 none, .fieldLink RX0 9 "DefaultReasoner$Priorities" "given" "[I", .methodLink RX0 22 yX0_followChains, .instanceMethod yX0_followChains, .selects RX0 yX0_followChains yX0_followChains, .code yX0_followChains cX0_followChains 3 none, .fieldLink RX0 15 "DefaultReasoner$Priorities" "reached" "[I", .static yX1_has, .initialized RX1, .code yX1_has cX1_has 2 (some .boolean), .methodLink RX1 63 yX1_forgetFindings, .instanceMethod yX1_forgetFindings, .selects RX1 yX1_forgetFindings yX1_forgetFindings, .code yX1_forgetFindings cX1_forgetFindings 1 none, .fieldLink RX1 191 "DefaultReasoner" "extensionsKnown" "Z", .fieldLink RX1 106 "DefaultReasoner" "preferredKnown" "Z"] ++ wsX10 ++ wsX00 ++ (vx_atS RX1 76 "java/lang/IllegalStateException" ["java/lang/RuntimeException", "java/lang/Exception"]).filter goodWord)
def wsX1_checkDefault : List Cond := .code yX1_checkDefault cX1_checkDefault 2 none :: ([.classLink RX1 155 "java/lang/IndexOutOfBoundsException", .initialized "java/lang/IndexOutOfBoundsException", .fieldLink RX1 79 "DefaultReasoner" "defaultTotal" "I"] ++ wsX10 ++ (vx_atS RX1 159 "java/lang/IndexOutOfBoundsException" ["java/lang/RuntimeException", "java/lang/Exception"]).filter goodWord)
def wsX1_prefer_r1 : List Cond := [Cond.classLink RX1 97 "java/lang/IllegalArgumentException", Cond.initialized "java/lang/IllegalArgumentException", Cond.fieldLink RX1 28 "DefaultReasoner" "priorities" "LDefaultReasoner$Priorities;", Cond.fieldLink RX1 106 "DefaultReasoner" "preferredKnown" "Z", Cond.methodLink RX1 91 yX1_checkDefault, Cond.instanceMethod yX1_checkDefault, Cond.selects RX1 yX1_checkDefault yX1_checkDefault, Cond.initialized RX1, Cond.code yX1_checkDefault cX1_checkDefault 2 none, Cond.classLink RX1 155 "java/lang/IndexOutOfBoundsException", Cond.initialized "java/lang/IndexOutOfBoundsException", Cond.fieldLink RX1 79 "DefaultReasoner" "defaultTotal" "I", Cond.instanceMethod yX0_comesBefore, Cond.initialized RX0, Cond.selects RX0 yX0_comesBefore yX0_comesBefore, Cond.code yX0_comesBefore cX0_comesBefore 3 (some .boolean), Cond.fieldLink RX0 15 "DefaultReasoner$Priorities" "reached" "[I", Cond.static yX1_has, Cond.code yX1_has cX1_has 2 (some .boolean), Cond.instanceMethod yX0_put, Cond.selects RX0 yX0_put yX0_put, Cond.code yX0_put cX0_put 3 none, Cond.fieldLink RX0 9 "DefaultReasoner$Priorities" "given" "[I", Cond.methodLink RX0 22 yX0_followChains]
def wsX1_prefer_r2 : List Cond := [Cond.instanceMethod yX0_followChains, Cond.selects RX0 yX0_followChains yX0_followChains, Cond.code yX0_followChains cX0_followChains 3 none]
def wsX1_prefer : List Cond := .code yX1_prefer cX1_prefer 4 (some .boolean) :: ((wsX1_prefer_r1 ++ wsX1_prefer_r2) ++ wsX10 ++ wsX00 ++ (vx_atS RX1 101 "java/lang/IllegalArgumentException" ["java/lang/RuntimeException", "java/lang/Exception"]).filter goodWord ++ (vx_atS RX1 159 "java/lang/IndexOutOfBoundsException" ["java/lang/RuntimeException", "java/lang/Exception"]).filter goodWord)
def wsX1_forgetPriorities : List Cond := .code yX1_forgetPriorities cX1_forgetPriorities 2 (some .int) :: ([.fieldLink RX1 28 "DefaultReasoner" "priorities" "LDefaultReasoner$Priorities;", .fieldLink RX1 106 "DefaultReasoner" "preferredKnown" "Z", .instanceMethod yX0_pairs, .initialized RX0, .selects RX0 yX0_pairs yX0_pairs, .code yX0_pairs cX0_pairs 3 (some .int), .fieldLink RX0 15 "DefaultReasoner$Priorities" "reached" "[I", .methodLink RX0 25 yJ6_bitCount_0f7a4, .static yJ6_bitCount_0f7a4, .initialized RJ6, .code yJ6_bitCount_0f7a4 cJ6_bitCount_0f7a4 1 (some .int), .constant RJ6 265 (1431655765), .constant RJ6 266 (858993459), .constant RJ6 267 (252645135), .instanceMethod yX0_clear, .selects RX0 yX0_clear yX0_clear, .code yX0_clear cX0_clear 2 none, .fieldLink RX0 9 "DefaultReasoner$Priorities" "given" "[I"] ++ wsX10 ++ wsX00)
def wsX1_isBefore : List Cond := .code yX1_isBefore cX1_isBefore 3 (some .boolean) :: ([.fieldLink RX1 28 "DefaultReasoner" "priorities" "LDefaultReasoner$Priorities;", .methodLink RX1 91 yX1_checkDefault, .instanceMethod yX1_checkDefault, .selects RX1 yX1_checkDefault yX1_checkDefault, .initialized RX1, .code yX1_checkDefault cX1_checkDefault 2 none, .classLink RX1 155 "java/lang/IndexOutOfBoundsException", .initialized "java/lang/IndexOutOfBoundsException", .fieldLink RX1 79 "DefaultReasoner" "defaultTotal" "I", .instanceMethod yX0_comesBefore, .initialized RX0, .selects RX0 yX0_comesBefore yX0_comesBefore, .code yX0_comesBefore cX0_comesBefore 3 (some .boolean), .fieldLink RX0 15 "DefaultReasoner$Priorities" "reached" "[I", .static yX1_has, .code yX1_has cX1_has 2 (some .boolean)] ++ wsX10 ++ wsX00 ++ (vx_atS RX1 159 "java/lang/IndexOutOfBoundsException" ["java/lang/RuntimeException", "java/lang/Exception"]).filter goodWord)
def wsX1_facts : List Cond := .code yX1_facts cX1_facts 1 (some .int) :: ([.fieldLink RX1 55 "DefaultReasoner" "factSet" "I"] ++ wsX10)
def wsX1_defaultCount : List Cond := .code yX1_defaultCount cX1_defaultCount 1 (some .int) :: ([.fieldLink RX1 79 "DefaultReasoner" "defaultTotal" "I"] ++ wsX10)
def wsX1_contains : List Cond := .code yX1_contains cX1_contains 2 (some .boolean) :: ([])
def wsX1_complements : List Cond := .code yX1_complements cX1_complements 1 (some .int) :: ([])
def wsX1_closeUp : List Cond := .code yX1_closeUp cX1_closeUp 6 (some .int) :: ([.fieldLink RX1 69 "DefaultReasoner" "ruleTotal" "I", .fieldLink RX1 9 "DefaultReasoner" "bodies" "[I", .fieldLink RX1 13 "DefaultReasoner" "heads" "[I", .constant RX1 142 (65535), .methodLink RX1 185 yX1_contains, .static yX1_contains, .initialized RX1, .code yX1_contains cX1_contains 2 (some .boolean), .methodLink RX1 188 yX1_complements, .static yX1_complements, .code yX1_complements cX1_complements 1 (some .int)] ++ wsX10)
def wsX1_closure : List Cond := .code yX1_closure cX1_closure 2 (some .int) :: ([.methodLink RX1 66 yX1_checkSet, .static yX1_checkSet, .initialized RX1, .code yX1_checkSet cX1_checkSet 1 none, .classLink RX1 97 "java/lang/IllegalArgumentException", .initialized "java/lang/IllegalArgumentException", .constant RX1 142 (65535), .methodLink RX1 117 yX1_closeUp, .instanceMethod yX1_closeUp, .selects RX1 yX1_closeUp yX1_closeUp, .code yX1_closeUp cX1_closeUp 6 (some .int), .fieldLink RX1 69 "DefaultReasoner" "ruleTotal" "I", .fieldLink RX1 9 "DefaultReasoner" "bodies" "[I", .fieldLink RX1 13 "DefaultReasoner" "heads" "[I", .methodLink RX1 185 yX1_contains, .static yX1_contains, .code yX1_contains cX1_contains 2 (some .boolean), .methodLink RX1 188 yX1_complements, .static yX1_complements, .code yX1_complements cX1_complements 1 (some .int)] ++ wsX10 ++ (vx_atS RX1 101 "java/lang/IllegalArgumentException" ["java/lang/RuntimeException", "java/lang/Exception"]).filter goodWord)
def wsX1_opens : List Cond := .code yX1_opens cX1_opens 3 (some .boolean) :: ([.fieldLink RX1 19 "DefaultReasoner" "justifications" "[I", .methodLink RX1 188 yX1_complements, .static yX1_complements, .initialized RX1, .code yX1_complements cX1_complements 1 (some .int)] ++ wsX10)
def wsX1_isOpen : List Cond := .code yX1_isOpen cX1_isOpen 3 (some .boolean) :: ([.methodLink RX1 91 yX1_checkDefault, .instanceMethod yX1_checkDefault, .selects RX1 yX1_checkDefault yX1_checkDefault, .initialized RX1, .code yX1_checkDefault cX1_checkDefault 2 none, .classLink RX1 155 "java/lang/IndexOutOfBoundsException", .initialized "java/lang/IndexOutOfBoundsException", .fieldLink RX1 79 "DefaultReasoner" "defaultTotal" "I", .methodLink RX1 66 yX1_checkSet, .static yX1_checkSet, .code yX1_checkSet cX1_checkSet 1 none, .classLink RX1 97 "java/lang/IllegalArgumentException", .initialized "java/lang/IllegalArgumentException", .constant RX1 142 (65535), .methodLink RX1 121 yX1_opens, .instanceMethod yX1_opens, .selects RX1 yX1_opens yX1_opens, .code yX1_opens cX1_opens 3 (some .boolean), .fieldLink RX1 19 "DefaultReasoner" "justifications" "[I", .methodLink RX1 188 yX1_complements, .static yX1_complements, .code yX1_complements cX1_complements 1 (some .int)] ++ wsX10 ++ (vx_atS RX1 159 "java/lang/IndexOutOfBoundsException" ["java/lang/RuntimeException", "java/lang/Exception"]).filter goodWord ++ (vx_atS RX1 101 "java/lang/IllegalArgumentException" ["java/lang/RuntimeException", "java/lang/Exception"]).filter goodWord)
def wsX1_conclusionsOf : List Cond := .code yX1_conclusionsOf cX1_conclusionsOf 4 (some .int) :: ([.fieldLink RX1 79 "DefaultReasoner" "defaultTotal" "I", .fieldLink RX1 22 "DefaultReasoner" "conclusions" "[I", .methodLink RX1 59 yX1_has, .static yX1_has, .initialized RX1, .code yX1_has cX1_has 2 (some .boolean)] ++ wsX10)
def wsX1_usableFor : List Cond := .code yX1_usableFor cX1_usableFor 4 (some .int) :: ([.fieldLink RX1 79 "DefaultReasoner" "defaultTotal" "I", .fieldLink RX1 16 "DefaultReasoner" "prerequisites" "[I", .fieldLink RX1 22 "DefaultReasoner" "conclusions" "[I", .methodLink RX1 185 yX1_contains, .static yX1_contains, .initialized RX1, .code yX1_contains cX1_contains 2 (some .boolean), .methodLink RX1 121 yX1_opens, .instanceMethod yX1_opens, .selects RX1 yX1_opens yX1_opens, .code yX1_opens cX1_opens 3 (some .boolean), .fieldLink RX1 19 "DefaultReasoner" "justifications" "[I", .methodLink RX1 188 yX1_complements, .static yX1_complements, .code yX1_complements cX1_complements 1 (some .int), .methodLink RX1 59 yX1_has, .static yX1_has, .code yX1_has cX1_has 2 (some .boolean)] ++ wsX10)
def wsX1_generatorsFor : List Cond := .code yX1_generatorsFor cX1_generatorsFor 6 (some .int) :: ([.fieldLink RX1 79 "DefaultReasoner" "defaultTotal" "I", .fieldLink RX1 38 "DefaultReasoner" "held" "[I", .fieldLink RX1 16 "DefaultReasoner" "prerequisites" "[I", .methodLink RX1 121 yX1_opens, .instanceMethod yX1_opens, .selects RX1 yX1_opens yX1_opens, .initialized RX1, .code yX1_opens cX1_opens 3 (some .boolean), .fieldLink RX1 19 "DefaultReasoner" "justifications" "[I", .methodLink RX1 188 yX1_complements, .static yX1_complements, .code yX1_complements cX1_complements 1 (some .int), .methodLink RX1 185 yX1_contains, .static yX1_contains, .code yX1_contains cX1_contains 2 (some .boolean)] ++ wsX10)
def wsX1_insertExtension : List Cond := .code yX1_insertExtension cX1_insertExtension 3 none :: ([.fieldLink RX1 130 "DefaultReasoner" "extensionTotal" "I", .fieldLink RX1 44 "DefaultReasoner" "extensions" "[I"] ++ wsX10)
def wsX1_findExtensions_r1 : List Cond := [Cond.fieldLink RX1 191 "DefaultReasoner" "extensionsKnown" "Z", Cond.fieldLink RX1 79 "DefaultReasoner" "defaultTotal" "I", Cond.fieldLink RX1 38 "DefaultReasoner" "held" "[I", Cond.fieldLink RX1 55 "DefaultReasoner" "factSet" "I", Cond.fieldLink RX1 41 "DefaultReasoner" "usable" "[I", Cond.fieldLink RX1 130 "DefaultReasoner" "extensionTotal" "I", Cond.methodLink RX1 194 yX1_conclusionsOf, Cond.instanceMethod yX1_conclusionsOf, Cond.selects RX1 yX1_conclusionsOf yX1_conclusionsOf, Cond.initialized RX1, Cond.code yX1_conclusionsOf cX1_conclusionsOf 4 (some .int), Cond.fieldLink RX1 22 "DefaultReasoner" "conclusions" "[I", Cond.methodLink RX1 59 yX1_has, Cond.static yX1_has, Cond.code yX1_has cX1_has 2 (some .boolean), Cond.methodLink RX1 117 yX1_closeUp, Cond.instanceMethod yX1_closeUp, Cond.selects RX1 yX1_closeUp yX1_closeUp, Cond.code yX1_closeUp cX1_closeUp 6 (some .int), Cond.fieldLink RX1 69 "DefaultReasoner" "ruleTotal" "I", Cond.fieldLink RX1 9 "DefaultReasoner" "bodies" "[I", Cond.fieldLink RX1 13 "DefaultReasoner" "heads" "[I", Cond.constant RX1 142 (65535), Cond.methodLink RX1 185 yX1_contains]
def wsX1_findExtensions_r2 : List Cond := [Cond.static yX1_contains, Cond.code yX1_contains cX1_contains 2 (some .boolean), Cond.methodLink RX1 188 yX1_complements, Cond.static yX1_complements, Cond.code yX1_complements cX1_complements 1 (some .int), Cond.methodLink RX1 197 yX1_usableFor, Cond.instanceMethod yX1_usableFor, Cond.selects RX1 yX1_usableFor yX1_usableFor, Cond.code yX1_usableFor cX1_usableFor 4 (some .int), Cond.fieldLink RX1 16 "DefaultReasoner" "prerequisites" "[I", Cond.methodLink RX1 121 yX1_opens, Cond.instanceMethod yX1_opens, Cond.selects RX1 yX1_opens yX1_opens, Cond.code yX1_opens cX1_opens 3 (some .boolean), Cond.fieldLink RX1 19 "DefaultReasoner" "justifications" "[I", Cond.methodLink RX1 127 yX1_generatorsFor, Cond.instanceMethod yX1_generatorsFor, Cond.selects RX1 yX1_generatorsFor yX1_generatorsFor, Cond.code yX1_generatorsFor cX1_generatorsFor 6 (some .int), Cond.methodLink RX1 200 yX1_insertExtension, Cond.instanceMethod yX1_insertExtension, Cond.selects RX1 yX1_insertExtension yX1_insertExtension, Cond.code yX1_insertExtension cX1_insertExtension 3 none, Cond.fieldLink RX1 44 "DefaultReasoner" "extensions" "[I"]
def wsX1_findExtensions : List Cond := .code yX1_findExtensions cX1_findExtensions 3 none :: ((wsX1_findExtensions_r1 ++ wsX1_findExtensions_r2) ++ wsX10)
def wsX1_generatorsOf_r1 : List Cond := [Cond.methodLink RX1 66 yX1_checkSet, Cond.static yX1_checkSet, Cond.initialized RX1, Cond.code yX1_checkSet cX1_checkSet 1 none, Cond.classLink RX1 97 "java/lang/IllegalArgumentException", Cond.initialized "java/lang/IllegalArgumentException", Cond.constant RX1 142 (65535), Cond.methodLink RX1 124 yX1_findExtensions, Cond.instanceMethod yX1_findExtensions, Cond.selects RX1 yX1_findExtensions yX1_findExtensions, Cond.code yX1_findExtensions cX1_findExtensions 3 none, Cond.fieldLink RX1 191 "DefaultReasoner" "extensionsKnown" "Z", Cond.fieldLink RX1 79 "DefaultReasoner" "defaultTotal" "I", Cond.fieldLink RX1 38 "DefaultReasoner" "held" "[I", Cond.fieldLink RX1 55 "DefaultReasoner" "factSet" "I", Cond.fieldLink RX1 41 "DefaultReasoner" "usable" "[I", Cond.fieldLink RX1 130 "DefaultReasoner" "extensionTotal" "I", Cond.methodLink RX1 194 yX1_conclusionsOf, Cond.instanceMethod yX1_conclusionsOf, Cond.selects RX1 yX1_conclusionsOf yX1_conclusionsOf, Cond.code yX1_conclusionsOf cX1_conclusionsOf 4 (some .int), Cond.fieldLink RX1 22 "DefaultReasoner" "conclusions" "[I", Cond.methodLink RX1 59 yX1_has, Cond.static yX1_has]
def wsX1_generatorsOf_r2 : List Cond := [Cond.code yX1_has cX1_has 2 (some .boolean), Cond.methodLink RX1 117 yX1_closeUp, Cond.instanceMethod yX1_closeUp, Cond.selects RX1 yX1_closeUp yX1_closeUp, Cond.code yX1_closeUp cX1_closeUp 6 (some .int), Cond.fieldLink RX1 69 "DefaultReasoner" "ruleTotal" "I", Cond.fieldLink RX1 9 "DefaultReasoner" "bodies" "[I", Cond.fieldLink RX1 13 "DefaultReasoner" "heads" "[I", Cond.methodLink RX1 185 yX1_contains, Cond.static yX1_contains, Cond.code yX1_contains cX1_contains 2 (some .boolean), Cond.methodLink RX1 188 yX1_complements, Cond.static yX1_complements, Cond.code yX1_complements cX1_complements 1 (some .int), Cond.methodLink RX1 197 yX1_usableFor, Cond.instanceMethod yX1_usableFor, Cond.selects RX1 yX1_usableFor yX1_usableFor, Cond.code yX1_usableFor cX1_usableFor 4 (some .int), Cond.fieldLink RX1 16 "DefaultReasoner" "prerequisites" "[I", Cond.methodLink RX1 121 yX1_opens, Cond.instanceMethod yX1_opens, Cond.selects RX1 yX1_opens yX1_opens, Cond.code yX1_opens cX1_opens 3 (some .boolean), Cond.fieldLink RX1 19 "DefaultReasoner" "justifications" "[I"]
def wsX1_generatorsOf_r3 : List Cond := [Cond.methodLink RX1 127 yX1_generatorsFor, Cond.instanceMethod yX1_generatorsFor, Cond.selects RX1 yX1_generatorsFor yX1_generatorsFor, Cond.code yX1_generatorsFor cX1_generatorsFor 6 (some .int), Cond.methodLink RX1 200 yX1_insertExtension, Cond.instanceMethod yX1_insertExtension, Cond.selects RX1 yX1_insertExtension yX1_insertExtension, Cond.code yX1_insertExtension cX1_insertExtension 3 none, Cond.fieldLink RX1 44 "DefaultReasoner" "extensions" "[I"]
def wsX1_generatorsOf : List Cond := .code yX1_generatorsOf cX1_generatorsOf 2 (some .int) :: ((wsX1_generatorsOf_r1 ++ (wsX1_generatorsOf_r2 ++ wsX1_generatorsOf_r3)) ++ wsX10 ++ (vx_atS RX1 101 "java/lang/IllegalArgumentException" ["java/lang/RuntimeException", "java/lang/Exception"]).filter goodWord)
def wsX1_isExtension_r1 : List Cond := [Cond.fieldLink RX1 38 "DefaultReasoner" "held" "[I", Cond.methodLink RX1 66 yX1_checkSet, Cond.static yX1_checkSet, Cond.initialized RX1, Cond.code yX1_checkSet cX1_checkSet 1 none, Cond.classLink RX1 97 "java/lang/IllegalArgumentException", Cond.initialized "java/lang/IllegalArgumentException", Cond.constant RX1 142 (65535), Cond.methodLink RX1 124 yX1_findExtensions, Cond.instanceMethod yX1_findExtensions, Cond.selects RX1 yX1_findExtensions yX1_findExtensions, Cond.code yX1_findExtensions cX1_findExtensions 3 none, Cond.fieldLink RX1 191 "DefaultReasoner" "extensionsKnown" "Z", Cond.fieldLink RX1 79 "DefaultReasoner" "defaultTotal" "I", Cond.fieldLink RX1 55 "DefaultReasoner" "factSet" "I", Cond.fieldLink RX1 41 "DefaultReasoner" "usable" "[I", Cond.fieldLink RX1 130 "DefaultReasoner" "extensionTotal" "I", Cond.methodLink RX1 194 yX1_conclusionsOf, Cond.instanceMethod yX1_conclusionsOf, Cond.selects RX1 yX1_conclusionsOf yX1_conclusionsOf, Cond.code yX1_conclusionsOf cX1_conclusionsOf 4 (some .int), Cond.fieldLink RX1 22 "DefaultReasoner" "conclusions" "[I", Cond.methodLink RX1 59 yX1_has, Cond.static yX1_has]
def wsX1_isExtension_r2 : List Cond := [Cond.code yX1_has cX1_has 2 (some .boolean), Cond.methodLink RX1 117 yX1_closeUp, Cond.instanceMethod yX1_closeUp, Cond.selects RX1 yX1_closeUp yX1_closeUp, Cond.code yX1_closeUp cX1_closeUp 6 (some .int), Cond.fieldLink RX1 69 "DefaultReasoner" "ruleTotal" "I", Cond.fieldLink RX1 9 "DefaultReasoner" "bodies" "[I", Cond.fieldLink RX1 13 "DefaultReasoner" "heads" "[I", Cond.methodLink RX1 185 yX1_contains, Cond.static yX1_contains, Cond.code yX1_contains cX1_contains 2 (some .boolean), Cond.methodLink RX1 188 yX1_complements, Cond.static yX1_complements, Cond.code yX1_complements cX1_complements 1 (some .int), Cond.methodLink RX1 197 yX1_usableFor, Cond.instanceMethod yX1_usableFor, Cond.selects RX1 yX1_usableFor yX1_usableFor, Cond.code yX1_usableFor cX1_usableFor 4 (some .int), Cond.fieldLink RX1 16 "DefaultReasoner" "prerequisites" "[I", Cond.methodLink RX1 121 yX1_opens, Cond.instanceMethod yX1_opens, Cond.selects RX1 yX1_opens yX1_opens, Cond.code yX1_opens cX1_opens 3 (some .boolean), Cond.fieldLink RX1 19 "DefaultReasoner" "justifications" "[I"]
def wsX1_isExtension_r3 : List Cond := [Cond.methodLink RX1 127 yX1_generatorsFor, Cond.instanceMethod yX1_generatorsFor, Cond.selects RX1 yX1_generatorsFor yX1_generatorsFor, Cond.code yX1_generatorsFor cX1_generatorsFor 6 (some .int), Cond.methodLink RX1 200 yX1_insertExtension, Cond.instanceMethod yX1_insertExtension, Cond.selects RX1 yX1_insertExtension yX1_insertExtension, Cond.code yX1_insertExtension cX1_insertExtension 3 none, Cond.fieldLink RX1 44 "DefaultReasoner" "extensions" "[I"]
def wsX1_isExtension : List Cond := .code yX1_isExtension cX1_isExtension 2 (some .boolean) :: ((wsX1_isExtension_r1 ++ (wsX1_isExtension_r2 ++ wsX1_isExtension_r3)) ++ wsX10 ++ (vx_atS RX1 101 "java/lang/IllegalArgumentException" ["java/lang/RuntimeException", "java/lang/Exception"]).filter goodWord)
def wsX1_extensionCount_r1 : List Cond := [Cond.fieldLink RX1 130 "DefaultReasoner" "extensionTotal" "I", Cond.methodLink RX1 124 yX1_findExtensions, Cond.instanceMethod yX1_findExtensions, Cond.selects RX1 yX1_findExtensions yX1_findExtensions, Cond.initialized RX1, Cond.code yX1_findExtensions cX1_findExtensions 3 none, Cond.fieldLink RX1 191 "DefaultReasoner" "extensionsKnown" "Z", Cond.fieldLink RX1 79 "DefaultReasoner" "defaultTotal" "I", Cond.fieldLink RX1 38 "DefaultReasoner" "held" "[I", Cond.fieldLink RX1 55 "DefaultReasoner" "factSet" "I", Cond.fieldLink RX1 41 "DefaultReasoner" "usable" "[I", Cond.methodLink RX1 194 yX1_conclusionsOf, Cond.instanceMethod yX1_conclusionsOf, Cond.selects RX1 yX1_conclusionsOf yX1_conclusionsOf, Cond.code yX1_conclusionsOf cX1_conclusionsOf 4 (some .int), Cond.fieldLink RX1 22 "DefaultReasoner" "conclusions" "[I", Cond.methodLink RX1 59 yX1_has, Cond.static yX1_has, Cond.code yX1_has cX1_has 2 (some .boolean), Cond.methodLink RX1 117 yX1_closeUp, Cond.instanceMethod yX1_closeUp, Cond.selects RX1 yX1_closeUp yX1_closeUp, Cond.code yX1_closeUp cX1_closeUp 6 (some .int), Cond.fieldLink RX1 69 "DefaultReasoner" "ruleTotal" "I"]
def wsX1_extensionCount_r2 : List Cond := [Cond.fieldLink RX1 9 "DefaultReasoner" "bodies" "[I", Cond.fieldLink RX1 13 "DefaultReasoner" "heads" "[I", Cond.constant RX1 142 (65535), Cond.methodLink RX1 185 yX1_contains, Cond.static yX1_contains, Cond.code yX1_contains cX1_contains 2 (some .boolean), Cond.methodLink RX1 188 yX1_complements, Cond.static yX1_complements, Cond.code yX1_complements cX1_complements 1 (some .int), Cond.methodLink RX1 197 yX1_usableFor, Cond.instanceMethod yX1_usableFor, Cond.selects RX1 yX1_usableFor yX1_usableFor, Cond.code yX1_usableFor cX1_usableFor 4 (some .int), Cond.fieldLink RX1 16 "DefaultReasoner" "prerequisites" "[I", Cond.methodLink RX1 121 yX1_opens, Cond.instanceMethod yX1_opens, Cond.selects RX1 yX1_opens yX1_opens, Cond.code yX1_opens cX1_opens 3 (some .boolean), Cond.fieldLink RX1 19 "DefaultReasoner" "justifications" "[I", Cond.methodLink RX1 127 yX1_generatorsFor, Cond.instanceMethod yX1_generatorsFor, Cond.selects RX1 yX1_generatorsFor yX1_generatorsFor, Cond.code yX1_generatorsFor cX1_generatorsFor 6 (some .int), Cond.methodLink RX1 200 yX1_insertExtension]
def wsX1_extensionCount_r3 : List Cond := [Cond.instanceMethod yX1_insertExtension, Cond.selects RX1 yX1_insertExtension yX1_insertExtension, Cond.code yX1_insertExtension cX1_insertExtension 3 none, Cond.fieldLink RX1 44 "DefaultReasoner" "extensions" "[I"]
def wsX1_extensionCount : List Cond := .code yX1_extensionCount cX1_extensionCount 1 (some .int) :: ((wsX1_extensionCount_r1 ++ (wsX1_extensionCount_r2 ++ wsX1_extensionCount_r3)) ++ wsX10)
def wsX1_checkExtension : List Cond := .code yX1_checkExtension cX1_checkExtension 2 none :: ([.classLink RX1 155 "java/lang/IndexOutOfBoundsException", .initialized "java/lang/IndexOutOfBoundsException", .fieldLink RX1 130 "DefaultReasoner" "extensionTotal" "I"] ++ wsX10 ++ (vx_atS RX1 159 "java/lang/IndexOutOfBoundsException" ["java/lang/RuntimeException", "java/lang/Exception"]).filter goodWord)
def wsX1_extension_r1 : List Cond := [Cond.fieldLink RX1 44 "DefaultReasoner" "extensions" "[I", Cond.methodLink RX1 124 yX1_findExtensions, Cond.instanceMethod yX1_findExtensions, Cond.selects RX1 yX1_findExtensions yX1_findExtensions, Cond.initialized RX1, Cond.code yX1_findExtensions cX1_findExtensions 3 none, Cond.fieldLink RX1 191 "DefaultReasoner" "extensionsKnown" "Z", Cond.fieldLink RX1 79 "DefaultReasoner" "defaultTotal" "I", Cond.fieldLink RX1 38 "DefaultReasoner" "held" "[I", Cond.fieldLink RX1 55 "DefaultReasoner" "factSet" "I", Cond.fieldLink RX1 41 "DefaultReasoner" "usable" "[I", Cond.fieldLink RX1 130 "DefaultReasoner" "extensionTotal" "I", Cond.methodLink RX1 194 yX1_conclusionsOf, Cond.instanceMethod yX1_conclusionsOf, Cond.selects RX1 yX1_conclusionsOf yX1_conclusionsOf, Cond.code yX1_conclusionsOf cX1_conclusionsOf 4 (some .int), Cond.fieldLink RX1 22 "DefaultReasoner" "conclusions" "[I", Cond.methodLink RX1 59 yX1_has, Cond.static yX1_has, Cond.code yX1_has cX1_has 2 (some .boolean), Cond.methodLink RX1 117 yX1_closeUp, Cond.instanceMethod yX1_closeUp, Cond.selects RX1 yX1_closeUp yX1_closeUp, Cond.code yX1_closeUp cX1_closeUp 6 (some .int)]
def wsX1_extension_r2 : List Cond := [Cond.fieldLink RX1 69 "DefaultReasoner" "ruleTotal" "I", Cond.fieldLink RX1 9 "DefaultReasoner" "bodies" "[I", Cond.fieldLink RX1 13 "DefaultReasoner" "heads" "[I", Cond.constant RX1 142 (65535), Cond.methodLink RX1 185 yX1_contains, Cond.static yX1_contains, Cond.code yX1_contains cX1_contains 2 (some .boolean), Cond.methodLink RX1 188 yX1_complements, Cond.static yX1_complements, Cond.code yX1_complements cX1_complements 1 (some .int), Cond.methodLink RX1 197 yX1_usableFor, Cond.instanceMethod yX1_usableFor, Cond.selects RX1 yX1_usableFor yX1_usableFor, Cond.code yX1_usableFor cX1_usableFor 4 (some .int), Cond.fieldLink RX1 16 "DefaultReasoner" "prerequisites" "[I", Cond.methodLink RX1 121 yX1_opens, Cond.instanceMethod yX1_opens, Cond.selects RX1 yX1_opens yX1_opens, Cond.code yX1_opens cX1_opens 3 (some .boolean), Cond.fieldLink RX1 19 "DefaultReasoner" "justifications" "[I", Cond.methodLink RX1 127 yX1_generatorsFor, Cond.instanceMethod yX1_generatorsFor, Cond.selects RX1 yX1_generatorsFor yX1_generatorsFor, Cond.code yX1_generatorsFor cX1_generatorsFor 6 (some .int)]
def wsX1_extension_r3 : List Cond := [Cond.methodLink RX1 200 yX1_insertExtension, Cond.instanceMethod yX1_insertExtension, Cond.selects RX1 yX1_insertExtension yX1_insertExtension, Cond.code yX1_insertExtension cX1_insertExtension 3 none, Cond.methodLink RX1 133 yX1_checkExtension, Cond.instanceMethod yX1_checkExtension, Cond.selects RX1 yX1_checkExtension yX1_checkExtension, Cond.code yX1_checkExtension cX1_checkExtension 2 none, Cond.classLink RX1 155 "java/lang/IndexOutOfBoundsException", Cond.initialized "java/lang/IndexOutOfBoundsException"]
def wsX1_extension : List Cond := .code yX1_extension cX1_extension 2 (some .int) :: ((wsX1_extension_r1 ++ (wsX1_extension_r2 ++ wsX1_extension_r3)) ++ wsX10 ++ (vx_atS RX1 159 "java/lang/IndexOutOfBoundsException" ["java/lang/RuntimeException", "java/lang/Exception"]).filter goodWord)
def wsX1_layOut : List Cond := .code yX1_layOut cX1_layOut 7 none :: ([.fieldLink RX1 79 "DefaultReasoner" "defaultTotal" "I", .fieldLink RX1 178 "DefaultReasoner" "ORDERS" "[I", .fieldLink RX1 35 "DefaultReasoner" "lineup" "[I", .methodLink RX1 59 yX1_has, .static yX1_has, .initialized RX1, .code yX1_has cX1_has 2 (some .boolean)] ++ wsX10)
def wsX1_keepsPriorities : List Cond := .code yX1_keepsPriorities cX1_keepsPriorities 4 (some .boolean) :: ([.fieldLink RX1 79 "DefaultReasoner" "defaultTotal" "I", .fieldLink RX1 35 "DefaultReasoner" "lineup" "[I", .fieldLink RX1 28 "DefaultReasoner" "priorities" "LDefaultReasoner$Priorities;", .instanceMethod yX0_comesBeforeOneOf, .initialized RX0, .selects RX0 yX0_comesBeforeOneOf yX0_comesBeforeOneOf, .code yX0_comesBeforeOneOf cX0_comesBeforeOneOf 3 (some .boolean), .fieldLink RX0 15 "DefaultReasoner$Priorities" "reached" "[I"] ++ wsX10 ++ wsX00)
def wsX1_firstUsable : List Cond := .code yX1_firstUsable cX1_firstUsable 3 (some .int) :: ([.fieldLink RX1 79 "DefaultReasoner" "defaultTotal" "I", .fieldLink RX1 41 "DefaultReasoner" "usable" "[I", .fieldLink RX1 35 "DefaultReasoner" "lineup" "[I", .methodLink RX1 59 yX1_has, .static yX1_has, .initialized RX1, .code yX1_has cX1_has 2 (some .boolean)] ++ wsX10)
def wsX1_endOfWalk : List Cond := .code yX1_endOfWalk cX1_endOfWalk 4 (some .int) :: ([.fieldLink RX1 79 "DefaultReasoner" "defaultTotal" "I", .fieldLink RX1 38 "DefaultReasoner" "held" "[I", .methodLink RX1 152 yX1_firstUsable, .instanceMethod yX1_firstUsable, .selects RX1 yX1_firstUsable yX1_firstUsable, .initialized RX1, .code yX1_firstUsable cX1_firstUsable 3 (some .int), .fieldLink RX1 41 "DefaultReasoner" "usable" "[I", .fieldLink RX1 35 "DefaultReasoner" "lineup" "[I", .methodLink RX1 59 yX1_has, .static yX1_has, .code yX1_has cX1_has 2 (some .boolean)] ++ wsX10)
def wsX1_markPreferred : List Cond := .code yX1_markPreferred cX1_markPreferred 3 none :: ([.fieldLink RX1 130 "DefaultReasoner" "extensionTotal" "I", .fieldLink RX1 44 "DefaultReasoner" "extensions" "[I", .fieldLink RX1 47 "DefaultReasoner" "preferred" "[Z", .fieldLink RX1 139 "DefaultReasoner" "preferredTotal" "I"] ++ wsX10)
def wsX1_findPreferred_r1 : List Cond := [Cond.fieldLink RX1 106 "DefaultReasoner" "preferredKnown" "Z", Cond.fieldLink RX1 130 "DefaultReasoner" "extensionTotal" "I", Cond.fieldLink RX1 47 "DefaultReasoner" "preferred" "[Z", Cond.fieldLink RX1 139 "DefaultReasoner" "preferredTotal" "I", Cond.fieldLink RX1 178 "DefaultReasoner" "ORDERS" "[I", Cond.fieldLink RX1 79 "DefaultReasoner" "defaultTotal" "I", Cond.methodLink RX1 124 yX1_findExtensions, Cond.instanceMethod yX1_findExtensions, Cond.selects RX1 yX1_findExtensions yX1_findExtensions, Cond.initialized RX1, Cond.code yX1_findExtensions cX1_findExtensions 3 none, Cond.fieldLink RX1 191 "DefaultReasoner" "extensionsKnown" "Z", Cond.fieldLink RX1 38 "DefaultReasoner" "held" "[I", Cond.fieldLink RX1 55 "DefaultReasoner" "factSet" "I", Cond.fieldLink RX1 41 "DefaultReasoner" "usable" "[I", Cond.methodLink RX1 194 yX1_conclusionsOf, Cond.instanceMethod yX1_conclusionsOf, Cond.selects RX1 yX1_conclusionsOf yX1_conclusionsOf, Cond.code yX1_conclusionsOf cX1_conclusionsOf 4 (some .int), Cond.fieldLink RX1 22 "DefaultReasoner" "conclusions" "[I", Cond.methodLink RX1 59 yX1_has, Cond.static yX1_has, Cond.code yX1_has cX1_has 2 (some .boolean), Cond.methodLink RX1 117 yX1_closeUp]
def wsX1_findPreferred_r2 : List Cond := [Cond.instanceMethod yX1_closeUp, Cond.selects RX1 yX1_closeUp yX1_closeUp, Cond.code yX1_closeUp cX1_closeUp 6 (some .int), Cond.fieldLink RX1 69 "DefaultReasoner" "ruleTotal" "I", Cond.fieldLink RX1 9 "DefaultReasoner" "bodies" "[I", Cond.fieldLink RX1 13 "DefaultReasoner" "heads" "[I", Cond.constant RX1 142 (65535), Cond.methodLink RX1 185 yX1_contains, Cond.static yX1_contains, Cond.code yX1_contains cX1_contains 2 (some .boolean), Cond.methodLink RX1 188 yX1_complements, Cond.static yX1_complements, Cond.code yX1_complements cX1_complements 1 (some .int), Cond.methodLink RX1 197 yX1_usableFor, Cond.instanceMethod yX1_usableFor, Cond.selects RX1 yX1_usableFor yX1_usableFor, Cond.code yX1_usableFor cX1_usableFor 4 (some .int), Cond.fieldLink RX1 16 "DefaultReasoner" "prerequisites" "[I", Cond.methodLink RX1 121 yX1_opens, Cond.instanceMethod yX1_opens, Cond.selects RX1 yX1_opens yX1_opens, Cond.code yX1_opens cX1_opens 3 (some .boolean), Cond.fieldLink RX1 19 "DefaultReasoner" "justifications" "[I", Cond.methodLink RX1 127 yX1_generatorsFor]
def wsX1_findPreferred_r3 : List Cond := [Cond.instanceMethod yX1_generatorsFor, Cond.selects RX1 yX1_generatorsFor yX1_generatorsFor, Cond.code yX1_generatorsFor cX1_generatorsFor 6 (some .int), Cond.methodLink RX1 200 yX1_insertExtension, Cond.instanceMethod yX1_insertExtension, Cond.selects RX1 yX1_insertExtension yX1_insertExtension, Cond.code yX1_insertExtension cX1_insertExtension 3 none, Cond.fieldLink RX1 44 "DefaultReasoner" "extensions" "[I", Cond.methodLink RX1 146 yX1_layOut, Cond.instanceMethod yX1_layOut, Cond.selects RX1 yX1_layOut yX1_layOut, Cond.code yX1_layOut cX1_layOut 7 none, Cond.fieldLink RX1 35 "DefaultReasoner" "lineup" "[I", Cond.methodLink RX1 160 yX1_keepsPriorities, Cond.instanceMethod yX1_keepsPriorities, Cond.selects RX1 yX1_keepsPriorities yX1_keepsPriorities, Cond.code yX1_keepsPriorities cX1_keepsPriorities 4 (some .boolean), Cond.fieldLink RX1 28 "DefaultReasoner" "priorities" "LDefaultReasoner$Priorities;", Cond.instanceMethod yX0_comesBeforeOneOf, Cond.initialized RX0, Cond.selects RX0 yX0_comesBeforeOneOf yX0_comesBeforeOneOf, Cond.code yX0_comesBeforeOneOf cX0_comesBeforeOneOf 3 (some .boolean), Cond.fieldLink RX0 15 "DefaultReasoner$Priorities" "reached" "[I", Cond.methodLink RX1 203 yX1_endOfWalk]
def wsX1_findPreferred_r4 : List Cond := [Cond.instanceMethod yX1_endOfWalk, Cond.selects RX1 yX1_endOfWalk yX1_endOfWalk, Cond.code yX1_endOfWalk cX1_endOfWalk 4 (some .int), Cond.methodLink RX1 152 yX1_firstUsable, Cond.instanceMethod yX1_firstUsable, Cond.selects RX1 yX1_firstUsable yX1_firstUsable, Cond.code yX1_firstUsable cX1_firstUsable 3 (some .int), Cond.methodLink RX1 206 yX1_markPreferred, Cond.instanceMethod yX1_markPreferred, Cond.selects RX1 yX1_markPreferred yX1_markPreferred, Cond.code yX1_markPreferred cX1_markPreferred 3 none]
def wsX1_findPreferred : List Cond := .code yX1_findPreferred cX1_findPreferred 3 none :: ((wsX1_findPreferred_r1 ++ (wsX1_findPreferred_r2 ++ (wsX1_findPreferred_r3 ++ wsX1_findPreferred_r4))) ++ wsX10 ++ wsX00)
def wsX1_isPreferred_r1 : List Cond := [Cond.fieldLink RX1 47 "DefaultReasoner" "preferred" "[Z", Cond.methodLink RX1 136 yX1_findPreferred, Cond.instanceMethod yX1_findPreferred, Cond.selects RX1 yX1_findPreferred yX1_findPreferred, Cond.initialized RX1, Cond.code yX1_findPreferred cX1_findPreferred 3 none, Cond.fieldLink RX1 106 "DefaultReasoner" "preferredKnown" "Z", Cond.fieldLink RX1 130 "DefaultReasoner" "extensionTotal" "I", Cond.fieldLink RX1 139 "DefaultReasoner" "preferredTotal" "I", Cond.fieldLink RX1 178 "DefaultReasoner" "ORDERS" "[I", Cond.fieldLink RX1 79 "DefaultReasoner" "defaultTotal" "I", Cond.methodLink RX1 124 yX1_findExtensions, Cond.instanceMethod yX1_findExtensions, Cond.selects RX1 yX1_findExtensions yX1_findExtensions, Cond.code yX1_findExtensions cX1_findExtensions 3 none, Cond.fieldLink RX1 191 "DefaultReasoner" "extensionsKnown" "Z", Cond.fieldLink RX1 38 "DefaultReasoner" "held" "[I", Cond.fieldLink RX1 55 "DefaultReasoner" "factSet" "I", Cond.fieldLink RX1 41 "DefaultReasoner" "usable" "[I", Cond.methodLink RX1 194 yX1_conclusionsOf, Cond.instanceMethod yX1_conclusionsOf, Cond.selects RX1 yX1_conclusionsOf yX1_conclusionsOf, Cond.code yX1_conclusionsOf cX1_conclusionsOf 4 (some .int), Cond.fieldLink RX1 22 "DefaultReasoner" "conclusions" "[I"]
def wsX1_isPreferred_r2 : List Cond := [Cond.methodLink RX1 59 yX1_has, Cond.static yX1_has, Cond.code yX1_has cX1_has 2 (some .boolean), Cond.methodLink RX1 117 yX1_closeUp, Cond.instanceMethod yX1_closeUp, Cond.selects RX1 yX1_closeUp yX1_closeUp, Cond.code yX1_closeUp cX1_closeUp 6 (some .int), Cond.fieldLink RX1 69 "DefaultReasoner" "ruleTotal" "I", Cond.fieldLink RX1 9 "DefaultReasoner" "bodies" "[I", Cond.fieldLink RX1 13 "DefaultReasoner" "heads" "[I", Cond.constant RX1 142 (65535), Cond.methodLink RX1 185 yX1_contains, Cond.static yX1_contains, Cond.code yX1_contains cX1_contains 2 (some .boolean), Cond.methodLink RX1 188 yX1_complements, Cond.static yX1_complements, Cond.code yX1_complements cX1_complements 1 (some .int), Cond.methodLink RX1 197 yX1_usableFor, Cond.instanceMethod yX1_usableFor, Cond.selects RX1 yX1_usableFor yX1_usableFor, Cond.code yX1_usableFor cX1_usableFor 4 (some .int), Cond.fieldLink RX1 16 "DefaultReasoner" "prerequisites" "[I", Cond.methodLink RX1 121 yX1_opens, Cond.instanceMethod yX1_opens]
def wsX1_isPreferred_r3 : List Cond := [Cond.selects RX1 yX1_opens yX1_opens, Cond.code yX1_opens cX1_opens 3 (some .boolean), Cond.fieldLink RX1 19 "DefaultReasoner" "justifications" "[I", Cond.methodLink RX1 127 yX1_generatorsFor, Cond.instanceMethod yX1_generatorsFor, Cond.selects RX1 yX1_generatorsFor yX1_generatorsFor, Cond.code yX1_generatorsFor cX1_generatorsFor 6 (some .int), Cond.methodLink RX1 200 yX1_insertExtension, Cond.instanceMethod yX1_insertExtension, Cond.selects RX1 yX1_insertExtension yX1_insertExtension, Cond.code yX1_insertExtension cX1_insertExtension 3 none, Cond.fieldLink RX1 44 "DefaultReasoner" "extensions" "[I", Cond.methodLink RX1 146 yX1_layOut, Cond.instanceMethod yX1_layOut, Cond.selects RX1 yX1_layOut yX1_layOut, Cond.code yX1_layOut cX1_layOut 7 none, Cond.fieldLink RX1 35 "DefaultReasoner" "lineup" "[I", Cond.methodLink RX1 160 yX1_keepsPriorities, Cond.instanceMethod yX1_keepsPriorities, Cond.selects RX1 yX1_keepsPriorities yX1_keepsPriorities, Cond.code yX1_keepsPriorities cX1_keepsPriorities 4 (some .boolean), Cond.fieldLink RX1 28 "DefaultReasoner" "priorities" "LDefaultReasoner$Priorities;", Cond.instanceMethod yX0_comesBeforeOneOf, Cond.initialized RX0]
def wsX1_isPreferred_r4 : List Cond := [Cond.selects RX0 yX0_comesBeforeOneOf yX0_comesBeforeOneOf, Cond.code yX0_comesBeforeOneOf cX0_comesBeforeOneOf 3 (some .boolean), Cond.fieldLink RX0 15 "DefaultReasoner$Priorities" "reached" "[I", Cond.methodLink RX1 203 yX1_endOfWalk, Cond.instanceMethod yX1_endOfWalk, Cond.selects RX1 yX1_endOfWalk yX1_endOfWalk, Cond.code yX1_endOfWalk cX1_endOfWalk 4 (some .int), Cond.methodLink RX1 152 yX1_firstUsable, Cond.instanceMethod yX1_firstUsable, Cond.selects RX1 yX1_firstUsable yX1_firstUsable, Cond.code yX1_firstUsable cX1_firstUsable 3 (some .int), Cond.methodLink RX1 206 yX1_markPreferred, Cond.instanceMethod yX1_markPreferred, Cond.selects RX1 yX1_markPreferred yX1_markPreferred, Cond.code yX1_markPreferred cX1_markPreferred 3 none, Cond.methodLink RX1 133 yX1_checkExtension, Cond.instanceMethod yX1_checkExtension, Cond.selects RX1 yX1_checkExtension yX1_checkExtension, Cond.code yX1_checkExtension cX1_checkExtension 2 none, Cond.classLink RX1 155 "java/lang/IndexOutOfBoundsException", Cond.initialized "java/lang/IndexOutOfBoundsException"]
def wsX1_isPreferred : List Cond := .code yX1_isPreferred cX1_isPreferred 2 (some .boolean) :: ((wsX1_isPreferred_r1 ++ (wsX1_isPreferred_r2 ++ (wsX1_isPreferred_r3 ++ wsX1_isPreferred_r4))) ++ wsX10 ++ wsX00 ++ (vx_atS RX1 159 "java/lang/IndexOutOfBoundsException" ["java/lang/RuntimeException", "java/lang/Exception"]).filter goodWord)
def wsX1_preferredCount_r1 : List Cond := [Cond.fieldLink RX1 139 "DefaultReasoner" "preferredTotal" "I", Cond.methodLink RX1 136 yX1_findPreferred, Cond.instanceMethod yX1_findPreferred, Cond.selects RX1 yX1_findPreferred yX1_findPreferred, Cond.initialized RX1, Cond.code yX1_findPreferred cX1_findPreferred 3 none, Cond.fieldLink RX1 106 "DefaultReasoner" "preferredKnown" "Z", Cond.fieldLink RX1 130 "DefaultReasoner" "extensionTotal" "I", Cond.fieldLink RX1 47 "DefaultReasoner" "preferred" "[Z", Cond.fieldLink RX1 178 "DefaultReasoner" "ORDERS" "[I", Cond.fieldLink RX1 79 "DefaultReasoner" "defaultTotal" "I", Cond.methodLink RX1 124 yX1_findExtensions, Cond.instanceMethod yX1_findExtensions, Cond.selects RX1 yX1_findExtensions yX1_findExtensions, Cond.code yX1_findExtensions cX1_findExtensions 3 none, Cond.fieldLink RX1 191 "DefaultReasoner" "extensionsKnown" "Z", Cond.fieldLink RX1 38 "DefaultReasoner" "held" "[I", Cond.fieldLink RX1 55 "DefaultReasoner" "factSet" "I", Cond.fieldLink RX1 41 "DefaultReasoner" "usable" "[I", Cond.methodLink RX1 194 yX1_conclusionsOf, Cond.instanceMethod yX1_conclusionsOf, Cond.selects RX1 yX1_conclusionsOf yX1_conclusionsOf, Cond.code yX1_conclusionsOf cX1_conclusionsOf 4 (some .int), Cond.fieldLink RX1 22 "DefaultReasoner" "conclusions" "[I"]
def wsX1_preferredCount_r2 : List Cond := [Cond.methodLink RX1 59 yX1_has, Cond.static yX1_has, Cond.code yX1_has cX1_has 2 (some .boolean), Cond.methodLink RX1 117 yX1_closeUp, Cond.instanceMethod yX1_closeUp, Cond.selects RX1 yX1_closeUp yX1_closeUp, Cond.code yX1_closeUp cX1_closeUp 6 (some .int), Cond.fieldLink RX1 69 "DefaultReasoner" "ruleTotal" "I", Cond.fieldLink RX1 9 "DefaultReasoner" "bodies" "[I", Cond.fieldLink RX1 13 "DefaultReasoner" "heads" "[I", Cond.constant RX1 142 (65535), Cond.methodLink RX1 185 yX1_contains, Cond.static yX1_contains, Cond.code yX1_contains cX1_contains 2 (some .boolean), Cond.methodLink RX1 188 yX1_complements, Cond.static yX1_complements, Cond.code yX1_complements cX1_complements 1 (some .int), Cond.methodLink RX1 197 yX1_usableFor, Cond.instanceMethod yX1_usableFor, Cond.selects RX1 yX1_usableFor yX1_usableFor, Cond.code yX1_usableFor cX1_usableFor 4 (some .int), Cond.fieldLink RX1 16 "DefaultReasoner" "prerequisites" "[I", Cond.methodLink RX1 121 yX1_opens, Cond.instanceMethod yX1_opens]
def wsX1_preferredCount_r3 : List Cond := [Cond.selects RX1 yX1_opens yX1_opens, Cond.code yX1_opens cX1_opens 3 (some .boolean), Cond.fieldLink RX1 19 "DefaultReasoner" "justifications" "[I", Cond.methodLink RX1 127 yX1_generatorsFor, Cond.instanceMethod yX1_generatorsFor, Cond.selects RX1 yX1_generatorsFor yX1_generatorsFor, Cond.code yX1_generatorsFor cX1_generatorsFor 6 (some .int), Cond.methodLink RX1 200 yX1_insertExtension, Cond.instanceMethod yX1_insertExtension, Cond.selects RX1 yX1_insertExtension yX1_insertExtension, Cond.code yX1_insertExtension cX1_insertExtension 3 none, Cond.fieldLink RX1 44 "DefaultReasoner" "extensions" "[I", Cond.methodLink RX1 146 yX1_layOut, Cond.instanceMethod yX1_layOut, Cond.selects RX1 yX1_layOut yX1_layOut, Cond.code yX1_layOut cX1_layOut 7 none, Cond.fieldLink RX1 35 "DefaultReasoner" "lineup" "[I", Cond.methodLink RX1 160 yX1_keepsPriorities, Cond.instanceMethod yX1_keepsPriorities, Cond.selects RX1 yX1_keepsPriorities yX1_keepsPriorities, Cond.code yX1_keepsPriorities cX1_keepsPriorities 4 (some .boolean), Cond.fieldLink RX1 28 "DefaultReasoner" "priorities" "LDefaultReasoner$Priorities;", Cond.instanceMethod yX0_comesBeforeOneOf, Cond.initialized RX0]
def wsX1_preferredCount_r4 : List Cond := [Cond.selects RX0 yX0_comesBeforeOneOf yX0_comesBeforeOneOf, Cond.code yX0_comesBeforeOneOf cX0_comesBeforeOneOf 3 (some .boolean), Cond.fieldLink RX0 15 "DefaultReasoner$Priorities" "reached" "[I", Cond.methodLink RX1 203 yX1_endOfWalk, Cond.instanceMethod yX1_endOfWalk, Cond.selects RX1 yX1_endOfWalk yX1_endOfWalk, Cond.code yX1_endOfWalk cX1_endOfWalk 4 (some .int), Cond.methodLink RX1 152 yX1_firstUsable, Cond.instanceMethod yX1_firstUsable, Cond.selects RX1 yX1_firstUsable yX1_firstUsable, Cond.code yX1_firstUsable cX1_firstUsable 3 (some .int), Cond.methodLink RX1 206 yX1_markPreferred, Cond.instanceMethod yX1_markPreferred, Cond.selects RX1 yX1_markPreferred yX1_markPreferred, Cond.code yX1_markPreferred cX1_markPreferred 3 none]
def wsX1_preferredCount : List Cond := .code yX1_preferredCount cX1_preferredCount 1 (some .int) :: ((wsX1_preferredCount_r1 ++ (wsX1_preferredCount_r2 ++ (wsX1_preferredCount_r3 ++ wsX1_preferredCount_r4))) ++ wsX10 ++ wsX00)
def wsX1_supports_r1 : List Cond := [Cond.fieldLink RX1 130 "DefaultReasoner" "extensionTotal" "I", Cond.fieldLink RX1 44 "DefaultReasoner" "extensions" "[I", Cond.methodLink RX1 51 yX1_checkLiteral, Cond.static yX1_checkLiteral, Cond.initialized RX1, Cond.code yX1_checkLiteral cX1_checkLiteral 1 none, Cond.classLink RX1 155 "java/lang/IndexOutOfBoundsException", Cond.initialized "java/lang/IndexOutOfBoundsException", Cond.methodLink RX1 124 yX1_findExtensions, Cond.instanceMethod yX1_findExtensions, Cond.selects RX1 yX1_findExtensions yX1_findExtensions, Cond.code yX1_findExtensions cX1_findExtensions 3 none, Cond.fieldLink RX1 191 "DefaultReasoner" "extensionsKnown" "Z", Cond.fieldLink RX1 79 "DefaultReasoner" "defaultTotal" "I", Cond.fieldLink RX1 38 "DefaultReasoner" "held" "[I", Cond.fieldLink RX1 55 "DefaultReasoner" "factSet" "I", Cond.fieldLink RX1 41 "DefaultReasoner" "usable" "[I", Cond.methodLink RX1 194 yX1_conclusionsOf, Cond.instanceMethod yX1_conclusionsOf, Cond.selects RX1 yX1_conclusionsOf yX1_conclusionsOf, Cond.code yX1_conclusionsOf cX1_conclusionsOf 4 (some .int), Cond.fieldLink RX1 22 "DefaultReasoner" "conclusions" "[I", Cond.methodLink RX1 59 yX1_has, Cond.static yX1_has]
def wsX1_supports_r2 : List Cond := [Cond.code yX1_has cX1_has 2 (some .boolean), Cond.methodLink RX1 117 yX1_closeUp, Cond.instanceMethod yX1_closeUp, Cond.selects RX1 yX1_closeUp yX1_closeUp, Cond.code yX1_closeUp cX1_closeUp 6 (some .int), Cond.fieldLink RX1 69 "DefaultReasoner" "ruleTotal" "I", Cond.fieldLink RX1 9 "DefaultReasoner" "bodies" "[I", Cond.fieldLink RX1 13 "DefaultReasoner" "heads" "[I", Cond.constant RX1 142 (65535), Cond.methodLink RX1 185 yX1_contains, Cond.static yX1_contains, Cond.code yX1_contains cX1_contains 2 (some .boolean), Cond.methodLink RX1 188 yX1_complements, Cond.static yX1_complements, Cond.code yX1_complements cX1_complements 1 (some .int), Cond.methodLink RX1 197 yX1_usableFor, Cond.instanceMethod yX1_usableFor, Cond.selects RX1 yX1_usableFor yX1_usableFor, Cond.code yX1_usableFor cX1_usableFor 4 (some .int), Cond.fieldLink RX1 16 "DefaultReasoner" "prerequisites" "[I", Cond.methodLink RX1 121 yX1_opens, Cond.instanceMethod yX1_opens, Cond.selects RX1 yX1_opens yX1_opens, Cond.code yX1_opens cX1_opens 3 (some .boolean)]
def wsX1_supports_r3 : List Cond := [Cond.fieldLink RX1 19 "DefaultReasoner" "justifications" "[I", Cond.methodLink RX1 127 yX1_generatorsFor, Cond.instanceMethod yX1_generatorsFor, Cond.selects RX1 yX1_generatorsFor yX1_generatorsFor, Cond.code yX1_generatorsFor cX1_generatorsFor 6 (some .int), Cond.methodLink RX1 200 yX1_insertExtension, Cond.instanceMethod yX1_insertExtension, Cond.selects RX1 yX1_insertExtension yX1_insertExtension, Cond.code yX1_insertExtension cX1_insertExtension 3 none]
def wsX1_supports : List Cond := .code yX1_supports cX1_supports 4 (some .int) :: ((wsX1_supports_r1 ++ (wsX1_supports_r2 ++ wsX1_supports_r3)) ++ wsX10 ++ (vx_atS RX1 159 "java/lang/IndexOutOfBoundsException" ["java/lang/RuntimeException", "java/lang/Exception"]).filter goodWord)
def wsX1_common_r1 : List Cond := [Cond.constant RX1 142 (65535), Cond.fieldLink RX1 130 "DefaultReasoner" "extensionTotal" "I", Cond.fieldLink RX1 47 "DefaultReasoner" "preferred" "[Z", Cond.fieldLink RX1 44 "DefaultReasoner" "extensions" "[I", Cond.methodLink RX1 136 yX1_findPreferred, Cond.instanceMethod yX1_findPreferred, Cond.selects RX1 yX1_findPreferred yX1_findPreferred, Cond.initialized RX1, Cond.code yX1_findPreferred cX1_findPreferred 3 none, Cond.fieldLink RX1 106 "DefaultReasoner" "preferredKnown" "Z", Cond.fieldLink RX1 139 "DefaultReasoner" "preferredTotal" "I", Cond.fieldLink RX1 178 "DefaultReasoner" "ORDERS" "[I", Cond.fieldLink RX1 79 "DefaultReasoner" "defaultTotal" "I", Cond.methodLink RX1 124 yX1_findExtensions, Cond.instanceMethod yX1_findExtensions, Cond.selects RX1 yX1_findExtensions yX1_findExtensions, Cond.code yX1_findExtensions cX1_findExtensions 3 none, Cond.fieldLink RX1 191 "DefaultReasoner" "extensionsKnown" "Z", Cond.fieldLink RX1 38 "DefaultReasoner" "held" "[I", Cond.fieldLink RX1 55 "DefaultReasoner" "factSet" "I", Cond.fieldLink RX1 41 "DefaultReasoner" "usable" "[I", Cond.methodLink RX1 194 yX1_conclusionsOf, Cond.instanceMethod yX1_conclusionsOf, Cond.selects RX1 yX1_conclusionsOf yX1_conclusionsOf]
def wsX1_common_r2 : List Cond := [Cond.code yX1_conclusionsOf cX1_conclusionsOf 4 (some .int), Cond.fieldLink RX1 22 "DefaultReasoner" "conclusions" "[I", Cond.methodLink RX1 59 yX1_has, Cond.static yX1_has, Cond.code yX1_has cX1_has 2 (some .boolean), Cond.methodLink RX1 117 yX1_closeUp, Cond.instanceMethod yX1_closeUp, Cond.selects RX1 yX1_closeUp yX1_closeUp, Cond.code yX1_closeUp cX1_closeUp 6 (some .int), Cond.fieldLink RX1 69 "DefaultReasoner" "ruleTotal" "I", Cond.fieldLink RX1 9 "DefaultReasoner" "bodies" "[I", Cond.fieldLink RX1 13 "DefaultReasoner" "heads" "[I", Cond.methodLink RX1 185 yX1_contains, Cond.static yX1_contains, Cond.code yX1_contains cX1_contains 2 (some .boolean), Cond.methodLink RX1 188 yX1_complements, Cond.static yX1_complements, Cond.code yX1_complements cX1_complements 1 (some .int), Cond.methodLink RX1 197 yX1_usableFor, Cond.instanceMethod yX1_usableFor, Cond.selects RX1 yX1_usableFor yX1_usableFor, Cond.code yX1_usableFor cX1_usableFor 4 (some .int), Cond.fieldLink RX1 16 "DefaultReasoner" "prerequisites" "[I", Cond.methodLink RX1 121 yX1_opens]
def wsX1_common_r3 : List Cond := [Cond.instanceMethod yX1_opens, Cond.selects RX1 yX1_opens yX1_opens, Cond.code yX1_opens cX1_opens 3 (some .boolean), Cond.fieldLink RX1 19 "DefaultReasoner" "justifications" "[I", Cond.methodLink RX1 127 yX1_generatorsFor, Cond.instanceMethod yX1_generatorsFor, Cond.selects RX1 yX1_generatorsFor yX1_generatorsFor, Cond.code yX1_generatorsFor cX1_generatorsFor 6 (some .int), Cond.methodLink RX1 200 yX1_insertExtension, Cond.instanceMethod yX1_insertExtension, Cond.selects RX1 yX1_insertExtension yX1_insertExtension, Cond.code yX1_insertExtension cX1_insertExtension 3 none, Cond.methodLink RX1 146 yX1_layOut, Cond.instanceMethod yX1_layOut, Cond.selects RX1 yX1_layOut yX1_layOut, Cond.code yX1_layOut cX1_layOut 7 none, Cond.fieldLink RX1 35 "DefaultReasoner" "lineup" "[I", Cond.methodLink RX1 160 yX1_keepsPriorities, Cond.instanceMethod yX1_keepsPriorities, Cond.selects RX1 yX1_keepsPriorities yX1_keepsPriorities, Cond.code yX1_keepsPriorities cX1_keepsPriorities 4 (some .boolean), Cond.fieldLink RX1 28 "DefaultReasoner" "priorities" "LDefaultReasoner$Priorities;", Cond.instanceMethod yX0_comesBeforeOneOf, Cond.initialized RX0]
def wsX1_common_r4 : List Cond := [Cond.selects RX0 yX0_comesBeforeOneOf yX0_comesBeforeOneOf, Cond.code yX0_comesBeforeOneOf cX0_comesBeforeOneOf 3 (some .boolean), Cond.fieldLink RX0 15 "DefaultReasoner$Priorities" "reached" "[I", Cond.methodLink RX1 203 yX1_endOfWalk, Cond.instanceMethod yX1_endOfWalk, Cond.selects RX1 yX1_endOfWalk yX1_endOfWalk, Cond.code yX1_endOfWalk cX1_endOfWalk 4 (some .int), Cond.methodLink RX1 152 yX1_firstUsable, Cond.instanceMethod yX1_firstUsable, Cond.selects RX1 yX1_firstUsable yX1_firstUsable, Cond.code yX1_firstUsable cX1_firstUsable 3 (some .int), Cond.methodLink RX1 206 yX1_markPreferred, Cond.instanceMethod yX1_markPreferred, Cond.selects RX1 yX1_markPreferred yX1_markPreferred, Cond.code yX1_markPreferred cX1_markPreferred 3 none]
def wsX1_common : List Cond := .code yX1_common cX1_common 4 (some .int) :: ((wsX1_common_r1 ++ (wsX1_common_r2 ++ (wsX1_common_r3 ++ wsX1_common_r4))) ++ wsX10 ++ wsX00)
def wsX1_share_r1 : List Cond := [Cond.fieldLink RX1 139 "DefaultReasoner" "preferredTotal" "I", Cond.fieldLink RX1 130 "DefaultReasoner" "extensionTotal" "I", Cond.fieldLink RX1 47 "DefaultReasoner" "preferred" "[Z", Cond.fieldLink RX1 44 "DefaultReasoner" "extensions" "[I", Cond.methodLink RX1 51 yX1_checkLiteral, Cond.static yX1_checkLiteral, Cond.initialized RX1, Cond.code yX1_checkLiteral cX1_checkLiteral 1 none, Cond.classLink RX1 155 "java/lang/IndexOutOfBoundsException", Cond.initialized "java/lang/IndexOutOfBoundsException", Cond.methodLink RX1 136 yX1_findPreferred, Cond.instanceMethod yX1_findPreferred, Cond.selects RX1 yX1_findPreferred yX1_findPreferred, Cond.code yX1_findPreferred cX1_findPreferred 3 none, Cond.fieldLink RX1 106 "DefaultReasoner" "preferredKnown" "Z", Cond.fieldLink RX1 178 "DefaultReasoner" "ORDERS" "[I", Cond.fieldLink RX1 79 "DefaultReasoner" "defaultTotal" "I", Cond.methodLink RX1 124 yX1_findExtensions, Cond.instanceMethod yX1_findExtensions, Cond.selects RX1 yX1_findExtensions yX1_findExtensions, Cond.code yX1_findExtensions cX1_findExtensions 3 none, Cond.fieldLink RX1 191 "DefaultReasoner" "extensionsKnown" "Z", Cond.fieldLink RX1 38 "DefaultReasoner" "held" "[I", Cond.fieldLink RX1 55 "DefaultReasoner" "factSet" "I"]
def wsX1_share_r2 : List Cond := [Cond.fieldLink RX1 41 "DefaultReasoner" "usable" "[I", Cond.methodLink RX1 194 yX1_conclusionsOf, Cond.instanceMethod yX1_conclusionsOf, Cond.selects RX1 yX1_conclusionsOf yX1_conclusionsOf, Cond.code yX1_conclusionsOf cX1_conclusionsOf 4 (some .int), Cond.fieldLink RX1 22 "DefaultReasoner" "conclusions" "[I", Cond.methodLink RX1 59 yX1_has, Cond.static yX1_has, Cond.code yX1_has cX1_has 2 (some .boolean), Cond.methodLink RX1 117 yX1_closeUp, Cond.instanceMethod yX1_closeUp, Cond.selects RX1 yX1_closeUp yX1_closeUp, Cond.code yX1_closeUp cX1_closeUp 6 (some .int), Cond.fieldLink RX1 69 "DefaultReasoner" "ruleTotal" "I", Cond.fieldLink RX1 9 "DefaultReasoner" "bodies" "[I", Cond.fieldLink RX1 13 "DefaultReasoner" "heads" "[I", Cond.constant RX1 142 (65535), Cond.methodLink RX1 185 yX1_contains, Cond.static yX1_contains, Cond.code yX1_contains cX1_contains 2 (some .boolean), Cond.methodLink RX1 188 yX1_complements, Cond.static yX1_complements, Cond.code yX1_complements cX1_complements 1 (some .int), Cond.methodLink RX1 197 yX1_usableFor]
def wsX1_share_r3 : List Cond := [Cond.instanceMethod yX1_usableFor, Cond.selects RX1 yX1_usableFor yX1_usableFor, Cond.code yX1_usableFor cX1_usableFor 4 (some .int), Cond.fieldLink RX1 16 "DefaultReasoner" "prerequisites" "[I", Cond.methodLink RX1 121 yX1_opens, Cond.instanceMethod yX1_opens, Cond.selects RX1 yX1_opens yX1_opens, Cond.code yX1_opens cX1_opens 3 (some .boolean), Cond.fieldLink RX1 19 "DefaultReasoner" "justifications" "[I", Cond.methodLink RX1 127 yX1_generatorsFor, Cond.instanceMethod yX1_generatorsFor, Cond.selects RX1 yX1_generatorsFor yX1_generatorsFor, Cond.code yX1_generatorsFor cX1_generatorsFor 6 (some .int), Cond.methodLink RX1 200 yX1_insertExtension, Cond.instanceMethod yX1_insertExtension, Cond.selects RX1 yX1_insertExtension yX1_insertExtension, Cond.code yX1_insertExtension cX1_insertExtension 3 none, Cond.methodLink RX1 146 yX1_layOut, Cond.instanceMethod yX1_layOut, Cond.selects RX1 yX1_layOut yX1_layOut, Cond.code yX1_layOut cX1_layOut 7 none, Cond.fieldLink RX1 35 "DefaultReasoner" "lineup" "[I", Cond.methodLink RX1 160 yX1_keepsPriorities, Cond.instanceMethod yX1_keepsPriorities]
def wsX1_share_r4 : List Cond := [Cond.selects RX1 yX1_keepsPriorities yX1_keepsPriorities, Cond.code yX1_keepsPriorities cX1_keepsPriorities 4 (some .boolean), Cond.fieldLink RX1 28 "DefaultReasoner" "priorities" "LDefaultReasoner$Priorities;", Cond.instanceMethod yX0_comesBeforeOneOf, Cond.initialized RX0, Cond.selects RX0 yX0_comesBeforeOneOf yX0_comesBeforeOneOf, Cond.code yX0_comesBeforeOneOf cX0_comesBeforeOneOf 3 (some .boolean), Cond.fieldLink RX0 15 "DefaultReasoner$Priorities" "reached" "[I", Cond.methodLink RX1 203 yX1_endOfWalk, Cond.instanceMethod yX1_endOfWalk, Cond.selects RX1 yX1_endOfWalk yX1_endOfWalk, Cond.code yX1_endOfWalk cX1_endOfWalk 4 (some .int), Cond.methodLink RX1 152 yX1_firstUsable, Cond.instanceMethod yX1_firstUsable, Cond.selects RX1 yX1_firstUsable yX1_firstUsable, Cond.code yX1_firstUsable cX1_firstUsable 3 (some .int), Cond.methodLink RX1 206 yX1_markPreferred, Cond.instanceMethod yX1_markPreferred, Cond.selects RX1 yX1_markPreferred yX1_markPreferred, Cond.code yX1_markPreferred cX1_markPreferred 3 none]
def wsX1_share : List Cond := .code yX1_share cX1_share 4 (some .double) :: ((wsX1_share_r1 ++ (wsX1_share_r2 ++ (wsX1_share_r3 ++ wsX1_share_r4))) ++ wsX10 ++ wsX00 ++ (vx_atS RX1 159 "java/lang/IndexOutOfBoundsException" ["java/lang/RuntimeException", "java/lang/Exception"]).filter goodWord)
def wsX1_checkOrder : List Cond := .code yX1_checkOrder cX1_checkOrder 2 none :: ([.classLink RX1 97 "java/lang/IllegalArgumentException", .initialized "java/lang/IllegalArgumentException", .fieldLink RX1 178 "DefaultReasoner" "ORDERS" "[I", .fieldLink RX1 79 "DefaultReasoner" "defaultTotal" "I"] ++ wsX10 ++ (vx_atS RX1 101 "java/lang/IllegalArgumentException" ["java/lang/RuntimeException", "java/lang/Exception"]).filter goodWord)
def wsX1_walk_r1 : List Cond := [Cond.fieldLink RX1 149 "DefaultReasoner" "latestTotal" "I", Cond.fieldLink RX1 79 "DefaultReasoner" "defaultTotal" "I", Cond.fieldLink RX1 32 "DefaultReasoner" "latestWalk" "[I", Cond.fieldLink RX1 38 "DefaultReasoner" "held" "[I", Cond.methodLink RX1 143 yX1_checkOrder, Cond.instanceMethod yX1_checkOrder, Cond.selects RX1 yX1_checkOrder yX1_checkOrder, Cond.initialized RX1, Cond.code yX1_checkOrder cX1_checkOrder 2 none, Cond.classLink RX1 97 "java/lang/IllegalArgumentException", Cond.initialized "java/lang/IllegalArgumentException", Cond.fieldLink RX1 178 "DefaultReasoner" "ORDERS" "[I", Cond.methodLink RX1 124 yX1_findExtensions, Cond.instanceMethod yX1_findExtensions, Cond.selects RX1 yX1_findExtensions yX1_findExtensions, Cond.code yX1_findExtensions cX1_findExtensions 3 none, Cond.fieldLink RX1 191 "DefaultReasoner" "extensionsKnown" "Z", Cond.fieldLink RX1 55 "DefaultReasoner" "factSet" "I", Cond.fieldLink RX1 41 "DefaultReasoner" "usable" "[I", Cond.fieldLink RX1 130 "DefaultReasoner" "extensionTotal" "I", Cond.methodLink RX1 194 yX1_conclusionsOf, Cond.instanceMethod yX1_conclusionsOf, Cond.selects RX1 yX1_conclusionsOf yX1_conclusionsOf, Cond.code yX1_conclusionsOf cX1_conclusionsOf 4 (some .int)]
def wsX1_walk_r2 : List Cond := [Cond.fieldLink RX1 22 "DefaultReasoner" "conclusions" "[I", Cond.methodLink RX1 59 yX1_has, Cond.static yX1_has, Cond.code yX1_has cX1_has 2 (some .boolean), Cond.methodLink RX1 117 yX1_closeUp, Cond.instanceMethod yX1_closeUp, Cond.selects RX1 yX1_closeUp yX1_closeUp, Cond.code yX1_closeUp cX1_closeUp 6 (some .int), Cond.fieldLink RX1 69 "DefaultReasoner" "ruleTotal" "I", Cond.fieldLink RX1 9 "DefaultReasoner" "bodies" "[I", Cond.fieldLink RX1 13 "DefaultReasoner" "heads" "[I", Cond.constant RX1 142 (65535), Cond.methodLink RX1 185 yX1_contains, Cond.static yX1_contains, Cond.code yX1_contains cX1_contains 2 (some .boolean), Cond.methodLink RX1 188 yX1_complements, Cond.static yX1_complements, Cond.code yX1_complements cX1_complements 1 (some .int), Cond.methodLink RX1 197 yX1_usableFor, Cond.instanceMethod yX1_usableFor, Cond.selects RX1 yX1_usableFor yX1_usableFor, Cond.code yX1_usableFor cX1_usableFor 4 (some .int), Cond.fieldLink RX1 16 "DefaultReasoner" "prerequisites" "[I", Cond.methodLink RX1 121 yX1_opens]
def wsX1_walk_r3 : List Cond := [Cond.instanceMethod yX1_opens, Cond.selects RX1 yX1_opens yX1_opens, Cond.code yX1_opens cX1_opens 3 (some .boolean), Cond.fieldLink RX1 19 "DefaultReasoner" "justifications" "[I", Cond.methodLink RX1 127 yX1_generatorsFor, Cond.instanceMethod yX1_generatorsFor, Cond.selects RX1 yX1_generatorsFor yX1_generatorsFor, Cond.code yX1_generatorsFor cX1_generatorsFor 6 (some .int), Cond.methodLink RX1 200 yX1_insertExtension, Cond.instanceMethod yX1_insertExtension, Cond.selects RX1 yX1_insertExtension yX1_insertExtension, Cond.code yX1_insertExtension cX1_insertExtension 3 none, Cond.fieldLink RX1 44 "DefaultReasoner" "extensions" "[I", Cond.methodLink RX1 146 yX1_layOut, Cond.instanceMethod yX1_layOut, Cond.selects RX1 yX1_layOut yX1_layOut, Cond.code yX1_layOut cX1_layOut 7 none, Cond.fieldLink RX1 35 "DefaultReasoner" "lineup" "[I", Cond.methodLink RX1 152 yX1_firstUsable, Cond.instanceMethod yX1_firstUsable, Cond.selects RX1 yX1_firstUsable yX1_firstUsable, Cond.code yX1_firstUsable cX1_firstUsable 3 (some .int)]
def wsX1_walk : List Cond := .code yX1_walk cX1_walk 5 (some .int) :: ((wsX1_walk_r1 ++ (wsX1_walk_r2 ++ wsX1_walk_r3)) ++ wsX10 ++ (vx_atS RX1 101 "java/lang/IllegalArgumentException" ["java/lang/RuntimeException", "java/lang/Exception"]).filter goodWord)
def wsX1_appliedCount : List Cond := .code yX1_appliedCount cX1_appliedCount 1 (some .int) :: ([.fieldLink RX1 149 "DefaultReasoner" "latestTotal" "I"] ++ wsX10)
def wsX1_applied : List Cond := .code yX1_applied cX1_applied 2 (some .int) :: ([.classLink RX1 155 "java/lang/IndexOutOfBoundsException", .initialized "java/lang/IndexOutOfBoundsException", .fieldLink RX1 149 "DefaultReasoner" "latestTotal" "I", .fieldLink RX1 32 "DefaultReasoner" "latestWalk" "[I"] ++ wsX10 ++ (vx_atS RX1 159 "java/lang/IndexOutOfBoundsException" ["java/lang/RuntimeException", "java/lang/Exception"]).filter goodWord)
def wsX1_respects_r1 : List Cond := [Cond.methodLink RX1 143 yX1_checkOrder, Cond.instanceMethod yX1_checkOrder, Cond.selects RX1 yX1_checkOrder yX1_checkOrder, Cond.initialized RX1, Cond.code yX1_checkOrder cX1_checkOrder 2 none, Cond.classLink RX1 97 "java/lang/IllegalArgumentException", Cond.initialized "java/lang/IllegalArgumentException", Cond.fieldLink RX1 178 "DefaultReasoner" "ORDERS" "[I", Cond.fieldLink RX1 79 "DefaultReasoner" "defaultTotal" "I", Cond.methodLink RX1 146 yX1_layOut, Cond.instanceMethod yX1_layOut, Cond.selects RX1 yX1_layOut yX1_layOut, Cond.code yX1_layOut cX1_layOut 7 none, Cond.fieldLink RX1 35 "DefaultReasoner" "lineup" "[I", Cond.methodLink RX1 59 yX1_has, Cond.static yX1_has, Cond.code yX1_has cX1_has 2 (some .boolean), Cond.methodLink RX1 160 yX1_keepsPriorities, Cond.instanceMethod yX1_keepsPriorities, Cond.selects RX1 yX1_keepsPriorities yX1_keepsPriorities, Cond.code yX1_keepsPriorities cX1_keepsPriorities 4 (some .boolean), Cond.fieldLink RX1 28 "DefaultReasoner" "priorities" "LDefaultReasoner$Priorities;", Cond.instanceMethod yX0_comesBeforeOneOf, Cond.initialized RX0]
def wsX1_respects_r2 : List Cond := [Cond.selects RX0 yX0_comesBeforeOneOf yX0_comesBeforeOneOf, Cond.code yX0_comesBeforeOneOf cX0_comesBeforeOneOf 3 (some .boolean), Cond.fieldLink RX0 15 "DefaultReasoner$Priorities" "reached" "[I"]
def wsX1_respects : List Cond := .code yX1_respects cX1_respects 2 (some .boolean) :: ((wsX1_respects_r1 ++ wsX1_respects_r2) ++ wsX10 ++ wsX00 ++ (vx_atS RX1 101 "java/lang/IllegalArgumentException" ["java/lang/RuntimeException", "java/lang/Exception"]).filter goodWord)
def wsX1_mix : List Cond := .code yX1_mix cX1_mix 4 (some .long) :: ([.constantLong RX1 183 (31)])
def wsX1_digest : List Cond := .code yX1_digest cX1_digest 5 (some .long) :: ([.constantLong RX1 164 (113), .fieldLink RX1 55 "DefaultReasoner" "factSet" "I", .fieldLink RX1 69 "DefaultReasoner" "ruleTotal" "I", .fieldLink RX1 9 "DefaultReasoner" "bodies" "[I", .fieldLink RX1 13 "DefaultReasoner" "heads" "[I", .fieldLink RX1 79 "DefaultReasoner" "defaultTotal" "I", .fieldLink RX1 16 "DefaultReasoner" "prerequisites" "[I", .fieldLink RX1 19 "DefaultReasoner" "justifications" "[I", .fieldLink RX1 22 "DefaultReasoner" "conclusions" "[I", .fieldLink RX1 28 "DefaultReasoner" "priorities" "LDefaultReasoner$Priorities;", .fieldLink RX1 149 "DefaultReasoner" "latestTotal" "I", .fieldLink RX1 32 "DefaultReasoner" "latestWalk" "[I", .methodLink RX1 166 yX1_mix, .static yX1_mix, .initialized RX1, .code yX1_mix cX1_mix 4 (some .long), .constantLong RX1 183 (31), .instanceMethod yX0_comesBefore, .initialized RX0, .selects RX0 yX0_comesBefore yX0_comesBefore, .code yX0_comesBefore cX0_comesBefore 3 (some .boolean), .fieldLink RX0 15 "DefaultReasoner$Priorities" "reached" "[I", .static yX1_has, .code yX1_has cX1_has 2 (some .boolean)] ++ wsX10 ++ wsX00)
def wsX2_init : List Cond := .code yX2_init cX2_init 1 none :: ([.methodLink RX2 1 objectInit, .instanceMethod objectInit, .code objectInit ⟨#[0xb1]⟩ 1 none, .arrayClass .int, .fieldLink RX2 9 "DefaultReasonerModel" "bodies" "[I", .fieldLink RX2 13 "DefaultReasonerModel" "heads" "[I", .fieldLink RX2 16 "DefaultReasonerModel" "needs" "[I", .fieldLink RX2 19 "DefaultReasonerModel" "justifications" "[I", .fieldLink RX2 22 "DefaultReasonerModel" "conclusions" "[I", .arrayClass .boolean, .fieldLink RX2 25 "DefaultReasonerModel" "told" "[Z", .fieldLink RX2 29 "DefaultReasonerModel" "path" "[I", .fieldLink RX2 32 "DefaultReasonerModel" "all" "[I", .fieldLink RX2 35 "DefaultReasonerModel" "arePreferred" "[Z"] ++ wsX20)
def wsX2_thrown : List Cond := .code yX2_thrown cX2_thrown 1 (some .int) :: ([.fieldLink RX2 38 "DefaultReasonerModel" "thrown" "I"] ++ wsX20)
def wsX2_fail : List Cond := .code yX2_fail cX2_fail 2 (some .int) :: ([.fieldLink RX2 38 "DefaultReasonerModel" "thrown" "I"] ++ wsX20)
def wsX2_isLiteral : List Cond := .code yX2_isLiteral cX2_isLiteral 1 (some .boolean) :: ([])
def wsX2_isSet : List Cond := .code yX2_isSet cX2_isSet 1 (some .boolean) :: ([.constant RX2 42 (65535)])
def wsX2_isDefault : List Cond := .code yX2_isDefault cX2_isDefault 2 (some .boolean) :: ([.fieldLink RX2 43 "DefaultReasonerModel" "defaults" "I"] ++ wsX20)
def wsX2_setFact : List Cond := .code yX2_setFact cX2_setFact 4 (some .boolean) :: ([.fieldLink RX2 38 "DefaultReasonerModel" "thrown" "I", .fieldLink RX2 50 "DefaultReasonerModel" "facts" "I", .methodLink RX2 46 yX2_isLiteral, .static yX2_isLiteral, .initialized RX2, .code yX2_isLiteral cX2_isLiteral 1 (some .boolean)] ++ wsX20)
def wsX2_addRule : List Cond := .code yX2_addRule cX2_addRule 3 (some .int) :: ([.fieldLink RX2 38 "DefaultReasonerModel" "thrown" "I", .fieldLink RX2 60 "DefaultReasonerModel" "rules" "I", .fieldLink RX2 9 "DefaultReasonerModel" "bodies" "[I", .fieldLink RX2 13 "DefaultReasonerModel" "heads" "[I", .methodLink RX2 46 yX2_isLiteral, .static yX2_isLiteral, .initialized RX2, .code yX2_isLiteral cX2_isLiteral 1 (some .boolean), .methodLink RX2 53 yX2_fail, .instanceMethod yX2_fail, .selects RX2 yX2_fail yX2_fail, .code yX2_fail cX2_fail 2 (some .int), .methodLink RX2 57 yX2_isSet, .static yX2_isSet, .code yX2_isSet cX2_isSet 1 (some .boolean), .constant RX2 42 (65535)] ++ wsX20)
def wsX2_addDefault : List Cond := .code yX2_addDefault cX2_addDefault 4 (some .int) :: ([.fieldLink RX2 38 "DefaultReasonerModel" "thrown" "I", .fieldLink RX2 43 "DefaultReasonerModel" "defaults" "I", .fieldLink RX2 16 "DefaultReasonerModel" "needs" "[I", .fieldLink RX2 19 "DefaultReasonerModel" "justifications" "[I", .fieldLink RX2 22 "DefaultReasonerModel" "conclusions" "[I", .methodLink RX2 46 yX2_isLiteral, .static yX2_isLiteral, .initialized RX2, .code yX2_isLiteral cX2_isLiteral 1 (some .boolean), .methodLink RX2 53 yX2_fail, .instanceMethod yX2_fail, .selects RX2 yX2_fail yX2_fail, .code yX2_fail cX2_fail 2 (some .int), .methodLink RX2 57 yX2_isSet, .static yX2_isSet, .code yX2_isSet cX2_isSet 1 (some .boolean), .constant RX2 42 (65535)] ++ wsX20)
def wsX2_dropRule : List Cond := .code yX2_dropRule cX2_dropRule 1 (some .int) :: ([.fieldLink RX2 38 "DefaultReasonerModel" "thrown" "I", .fieldLink RX2 60 "DefaultReasonerModel" "rules" "I", .methodLink RX2 53 yX2_fail, .instanceMethod yX2_fail, .selects RX2 yX2_fail yX2_fail, .initialized RX2, .code yX2_fail cX2_fail 2 (some .int)] ++ wsX20)
def wsX2_dropDefault : List Cond := .code yX2_dropDefault cX2_dropDefault 2 (some .int) :: ([.fieldLink RX2 38 "DefaultReasonerModel" "thrown" "I", .fieldLink RX2 43 "DefaultReasonerModel" "defaults" "I", .fieldLink RX2 25 "DefaultReasonerModel" "told" "[Z", .methodLink RX2 53 yX2_fail, .instanceMethod yX2_fail, .selects RX2 yX2_fail yX2_fail, .initialized RX2, .code yX2_fail cX2_fail 2 (some .int)] ++ wsX20)
def wsX2_leads : List Cond := .code yX2_leads cX2_leads 5 (some .boolean) :: ([.fieldLink RX2 25 "DefaultReasonerModel" "told" "[Z", .fieldLink RX2 43 "DefaultReasonerModel" "defaults" "I", .methodLink RX2 63 yX2_leads, .instanceMethod yX2_leads, .selects RX2 yX2_leads yX2_leads, .initialized RX2] ++ wsX20)
def wsX2_before : List Cond := .code yX2_before cX2_before 3 (some .boolean) :: ([.methodLink RX2 63 yX2_leads, .instanceMethod yX2_leads, .selects RX2 yX2_leads yX2_leads, .initialized RX2, .code yX2_leads cX2_leads 5 (some .boolean), .fieldLink RX2 25 "DefaultReasonerModel" "told" "[Z", .fieldLink RX2 43 "DefaultReasonerModel" "defaults" "I"] ++ wsX20)
def wsX2_prefer : List Cond := .code yX2_prefer cX2_prefer 4 (some .boolean) :: ([.fieldLink RX2 38 "DefaultReasonerModel" "thrown" "I", .fieldLink RX2 25 "DefaultReasonerModel" "told" "[Z", .methodLink RX2 67 yX2_isDefault, .instanceMethod yX2_isDefault, .selects RX2 yX2_isDefault yX2_isDefault, .initialized RX2, .code yX2_isDefault cX2_isDefault 2 (some .boolean), .fieldLink RX2 43 "DefaultReasonerModel" "defaults" "I", .methodLink RX2 70 yX2_before, .instanceMethod yX2_before, .selects RX2 yX2_before yX2_before, .code yX2_before cX2_before 3 (some .boolean), .methodLink RX2 63 yX2_leads, .instanceMethod yX2_leads, .selects RX2 yX2_leads yX2_leads, .code yX2_leads cX2_leads 5 (some .boolean)] ++ wsX20)
def wsX2_forgetPriorities : List Cond := .code yX2_forgetPriorities cX2_forgetPriorities 4 (some .int) :: ([.fieldLink RX2 38 "DefaultReasonerModel" "thrown" "I", .fieldLink RX2 43 "DefaultReasonerModel" "defaults" "I", .fieldLink RX2 25 "DefaultReasonerModel" "told" "[Z", .methodLink RX2 70 yX2_before, .instanceMethod yX2_before, .selects RX2 yX2_before yX2_before, .initialized RX2, .code yX2_before cX2_before 3 (some .boolean), .methodLink RX2 63 yX2_leads, .instanceMethod yX2_leads, .selects RX2 yX2_leads yX2_leads, .code yX2_leads cX2_leads 5 (some .boolean)] ++ wsX20)
def wsX2_isBefore : List Cond := .code yX2_isBefore cX2_isBefore 3 (some .boolean) :: ([.fieldLink RX2 38 "DefaultReasonerModel" "thrown" "I", .methodLink RX2 67 yX2_isDefault, .instanceMethod yX2_isDefault, .selects RX2 yX2_isDefault yX2_isDefault, .initialized RX2, .code yX2_isDefault cX2_isDefault 2 (some .boolean), .fieldLink RX2 43 "DefaultReasonerModel" "defaults" "I", .methodLink RX2 70 yX2_before, .instanceMethod yX2_before, .selects RX2 yX2_before yX2_before, .code yX2_before cX2_before 3 (some .boolean), .methodLink RX2 63 yX2_leads, .instanceMethod yX2_leads, .selects RX2 yX2_leads yX2_leads, .code yX2_leads cX2_leads 5 (some .boolean), .fieldLink RX2 25 "DefaultReasonerModel" "told" "[Z"] ++ wsX20)
def wsX2_facts : List Cond := .code yX2_facts cX2_facts 1 (some .int) :: ([.fieldLink RX2 38 "DefaultReasonerModel" "thrown" "I", .fieldLink RX2 50 "DefaultReasonerModel" "facts" "I"] ++ wsX20)
def wsX2_defaultCount : List Cond := .code yX2_defaultCount cX2_defaultCount 1 (some .int) :: ([.fieldLink RX2 38 "DefaultReasonerModel" "thrown" "I", .fieldLink RX2 43 "DefaultReasonerModel" "defaults" "I"] ++ wsX20)
def wsX2_complements : List Cond := .code yX2_complements cX2_complements 1 (some .int) :: ([])
def wsX2_close : List Cond := .code yX2_close cX2_close 5 (some .int) :: ([.fieldLink RX2 60 "DefaultReasonerModel" "rules" "I", .fieldLink RX2 9 "DefaultReasonerModel" "bodies" "[I", .fieldLink RX2 13 "DefaultReasonerModel" "heads" "[I", .constant RX2 42 (65535), .methodLink RX2 74 yX2_complements, .static yX2_complements, .initialized RX2, .code yX2_complements cX2_complements 1 (some .int)] ++ wsX20)
def wsX2_open : List Cond := .code yX2_open cX2_open 3 (some .boolean) :: ([.fieldLink RX2 19 "DefaultReasonerModel" "justifications" "[I", .methodLink RX2 74 yX2_complements, .static yX2_complements, .initialized RX2, .code yX2_complements cX2_complements 1 (some .int)] ++ wsX20)
def wsX2_consequences : List Cond := .code yX2_consequences cX2_consequences 4 (some .int) :: ([.fieldLink RX2 50 "DefaultReasonerModel" "facts" "I", .fieldLink RX2 43 "DefaultReasonerModel" "defaults" "I", .fieldLink RX2 22 "DefaultReasonerModel" "conclusions" "[I", .methodLink RX2 77 yX2_close, .instanceMethod yX2_close, .selects RX2 yX2_close yX2_close, .initialized RX2, .code yX2_close cX2_close 5 (some .int), .fieldLink RX2 60 "DefaultReasonerModel" "rules" "I", .fieldLink RX2 9 "DefaultReasonerModel" "bodies" "[I", .fieldLink RX2 13 "DefaultReasonerModel" "heads" "[I", .constant RX2 42 (65535), .methodLink RX2 74 yX2_complements, .static yX2_complements, .code yX2_complements cX2_complements 1 (some .int)] ++ wsX20)
def wsX2_generators_r1 : List Cond := [Cond.fieldLink RX2 43 "DefaultReasonerModel" "defaults" "I", Cond.fieldLink RX2 16 "DefaultReasonerModel" "needs" "[I", Cond.methodLink RX2 80 yX2_consequences, Cond.instanceMethod yX2_consequences, Cond.selects RX2 yX2_consequences yX2_consequences, Cond.initialized RX2, Cond.code yX2_consequences cX2_consequences 4 (some .int), Cond.fieldLink RX2 50 "DefaultReasonerModel" "facts" "I", Cond.fieldLink RX2 22 "DefaultReasonerModel" "conclusions" "[I", Cond.methodLink RX2 77 yX2_close, Cond.instanceMethod yX2_close, Cond.selects RX2 yX2_close yX2_close, Cond.code yX2_close cX2_close 5 (some .int), Cond.fieldLink RX2 60 "DefaultReasonerModel" "rules" "I", Cond.fieldLink RX2 9 "DefaultReasonerModel" "bodies" "[I", Cond.fieldLink RX2 13 "DefaultReasonerModel" "heads" "[I", Cond.constant RX2 42 (65535), Cond.methodLink RX2 74 yX2_complements, Cond.static yX2_complements, Cond.code yX2_complements cX2_complements 1 (some .int), Cond.methodLink RX2 83 yX2_open, Cond.instanceMethod yX2_open, Cond.selects RX2 yX2_open yX2_open, Cond.code yX2_open cX2_open 3 (some .boolean)]
def wsX2_generators_r2 : List Cond := [Cond.fieldLink RX2 19 "DefaultReasonerModel" "justifications" "[I"]
def wsX2_generators : List Cond := .code yX2_generators cX2_generators 6 (some .int) :: ((wsX2_generators_r1 ++ wsX2_generators_r2) ++ wsX20)
def wsX2_isStable_r1 : List Cond := [Cond.methodLink RX2 86 yX2_generators, Cond.instanceMethod yX2_generators, Cond.selects RX2 yX2_generators yX2_generators, Cond.initialized RX2, Cond.code yX2_generators cX2_generators 6 (some .int), Cond.fieldLink RX2 43 "DefaultReasonerModel" "defaults" "I", Cond.fieldLink RX2 16 "DefaultReasonerModel" "needs" "[I", Cond.methodLink RX2 80 yX2_consequences, Cond.instanceMethod yX2_consequences, Cond.selects RX2 yX2_consequences yX2_consequences, Cond.code yX2_consequences cX2_consequences 4 (some .int), Cond.fieldLink RX2 50 "DefaultReasonerModel" "facts" "I", Cond.fieldLink RX2 22 "DefaultReasonerModel" "conclusions" "[I", Cond.methodLink RX2 77 yX2_close, Cond.instanceMethod yX2_close, Cond.selects RX2 yX2_close yX2_close, Cond.code yX2_close cX2_close 5 (some .int), Cond.fieldLink RX2 60 "DefaultReasonerModel" "rules" "I", Cond.fieldLink RX2 9 "DefaultReasonerModel" "bodies" "[I", Cond.fieldLink RX2 13 "DefaultReasonerModel" "heads" "[I", Cond.constant RX2 42 (65535), Cond.methodLink RX2 74 yX2_complements, Cond.static yX2_complements, Cond.code yX2_complements cX2_complements 1 (some .int)]
def wsX2_isStable_r2 : List Cond := [Cond.methodLink RX2 83 yX2_open, Cond.instanceMethod yX2_open, Cond.selects RX2 yX2_open yX2_open, Cond.code yX2_open cX2_open 3 (some .boolean), Cond.fieldLink RX2 19 "DefaultReasonerModel" "justifications" "[I"]
def wsX2_isStable : List Cond := .code yX2_isStable cX2_isStable 2 (some .boolean) :: ((wsX2_isStable_r1 ++ wsX2_isStable_r2) ++ wsX20)
def wsX2_closure : List Cond := .code yX2_closure cX2_closure 2 (some .int) :: ([.fieldLink RX2 38 "DefaultReasonerModel" "thrown" "I", .methodLink RX2 57 yX2_isSet, .static yX2_isSet, .initialized RX2, .code yX2_isSet cX2_isSet 1 (some .boolean), .constant RX2 42 (65535), .methodLink RX2 77 yX2_close, .instanceMethod yX2_close, .selects RX2 yX2_close yX2_close, .code yX2_close cX2_close 5 (some .int), .fieldLink RX2 60 "DefaultReasonerModel" "rules" "I", .fieldLink RX2 9 "DefaultReasonerModel" "bodies" "[I", .fieldLink RX2 13 "DefaultReasonerModel" "heads" "[I", .methodLink RX2 74 yX2_complements, .static yX2_complements, .code yX2_complements cX2_complements 1 (some .int), .methodLink RX2 53 yX2_fail, .instanceMethod yX2_fail, .selects RX2 yX2_fail yX2_fail, .code yX2_fail cX2_fail 2 (some .int)] ++ wsX20)
def wsX2_isOpen : List Cond := .code yX2_isOpen cX2_isOpen 3 (some .boolean) :: ([.fieldLink RX2 38 "DefaultReasonerModel" "thrown" "I", .methodLink RX2 67 yX2_isDefault, .instanceMethod yX2_isDefault, .selects RX2 yX2_isDefault yX2_isDefault, .initialized RX2, .code yX2_isDefault cX2_isDefault 2 (some .boolean), .fieldLink RX2 43 "DefaultReasonerModel" "defaults" "I", .methodLink RX2 57 yX2_isSet, .static yX2_isSet, .code yX2_isSet cX2_isSet 1 (some .boolean), .constant RX2 42 (65535), .methodLink RX2 83 yX2_open, .instanceMethod yX2_open, .selects RX2 yX2_open yX2_open, .code yX2_open cX2_open 3 (some .boolean), .fieldLink RX2 19 "DefaultReasonerModel" "justifications" "[I", .methodLink RX2 74 yX2_complements, .static yX2_complements, .code yX2_complements cX2_complements 1 (some .int)] ++ wsX20)
def wsX2_generatorsOf_r1 : List Cond := [Cond.fieldLink RX2 38 "DefaultReasonerModel" "thrown" "I", Cond.methodLink RX2 57 yX2_isSet, Cond.static yX2_isSet, Cond.initialized RX2, Cond.code yX2_isSet cX2_isSet 1 (some .boolean), Cond.constant RX2 42 (65535), Cond.methodLink RX2 86 yX2_generators, Cond.instanceMethod yX2_generators, Cond.selects RX2 yX2_generators yX2_generators, Cond.code yX2_generators cX2_generators 6 (some .int), Cond.fieldLink RX2 43 "DefaultReasonerModel" "defaults" "I", Cond.fieldLink RX2 16 "DefaultReasonerModel" "needs" "[I", Cond.methodLink RX2 80 yX2_consequences, Cond.instanceMethod yX2_consequences, Cond.selects RX2 yX2_consequences yX2_consequences, Cond.code yX2_consequences cX2_consequences 4 (some .int), Cond.fieldLink RX2 50 "DefaultReasonerModel" "facts" "I", Cond.fieldLink RX2 22 "DefaultReasonerModel" "conclusions" "[I", Cond.methodLink RX2 77 yX2_close, Cond.instanceMethod yX2_close, Cond.selects RX2 yX2_close yX2_close, Cond.code yX2_close cX2_close 5 (some .int), Cond.fieldLink RX2 60 "DefaultReasonerModel" "rules" "I", Cond.fieldLink RX2 9 "DefaultReasonerModel" "bodies" "[I"]
def wsX2_generatorsOf_r2 : List Cond := [Cond.fieldLink RX2 13 "DefaultReasonerModel" "heads" "[I", Cond.methodLink RX2 74 yX2_complements, Cond.static yX2_complements, Cond.code yX2_complements cX2_complements 1 (some .int), Cond.methodLink RX2 83 yX2_open, Cond.instanceMethod yX2_open, Cond.selects RX2 yX2_open yX2_open, Cond.code yX2_open cX2_open 3 (some .boolean), Cond.fieldLink RX2 19 "DefaultReasonerModel" "justifications" "[I", Cond.methodLink RX2 53 yX2_fail, Cond.instanceMethod yX2_fail, Cond.selects RX2 yX2_fail yX2_fail, Cond.code yX2_fail cX2_fail 2 (some .int)]
def wsX2_generatorsOf : List Cond := .code yX2_generatorsOf cX2_generatorsOf 2 (some .int) :: ((wsX2_generatorsOf_r1 ++ wsX2_generatorsOf_r2) ++ wsX20)
def wsX2_isExtension_r1 : List Cond := [Cond.fieldLink RX2 38 "DefaultReasonerModel" "thrown" "I", Cond.methodLink RX2 57 yX2_isSet, Cond.static yX2_isSet, Cond.initialized RX2, Cond.code yX2_isSet cX2_isSet 1 (some .boolean), Cond.constant RX2 42 (65535), Cond.methodLink RX2 89 yX2_isStable, Cond.instanceMethod yX2_isStable, Cond.selects RX2 yX2_isStable yX2_isStable, Cond.code yX2_isStable cX2_isStable 2 (some .boolean), Cond.methodLink RX2 86 yX2_generators, Cond.instanceMethod yX2_generators, Cond.selects RX2 yX2_generators yX2_generators, Cond.code yX2_generators cX2_generators 6 (some .int), Cond.fieldLink RX2 43 "DefaultReasonerModel" "defaults" "I", Cond.fieldLink RX2 16 "DefaultReasonerModel" "needs" "[I", Cond.methodLink RX2 80 yX2_consequences, Cond.instanceMethod yX2_consequences, Cond.selects RX2 yX2_consequences yX2_consequences, Cond.code yX2_consequences cX2_consequences 4 (some .int), Cond.fieldLink RX2 50 "DefaultReasonerModel" "facts" "I", Cond.fieldLink RX2 22 "DefaultReasonerModel" "conclusions" "[I", Cond.methodLink RX2 77 yX2_close, Cond.instanceMethod yX2_close]
def wsX2_isExtension_r2 : List Cond := [Cond.selects RX2 yX2_close yX2_close, Cond.code yX2_close cX2_close 5 (some .int), Cond.fieldLink RX2 60 "DefaultReasonerModel" "rules" "I", Cond.fieldLink RX2 9 "DefaultReasonerModel" "bodies" "[I", Cond.fieldLink RX2 13 "DefaultReasonerModel" "heads" "[I", Cond.methodLink RX2 74 yX2_complements, Cond.static yX2_complements, Cond.code yX2_complements cX2_complements 1 (some .int), Cond.methodLink RX2 83 yX2_open, Cond.instanceMethod yX2_open, Cond.selects RX2 yX2_open yX2_open, Cond.code yX2_open cX2_open 3 (some .boolean), Cond.fieldLink RX2 19 "DefaultReasonerModel" "justifications" "[I"]
def wsX2_isExtension : List Cond := .code yX2_isExtension cX2_isExtension 2 (some .boolean) :: ((wsX2_isExtension_r1 ++ wsX2_isExtension_r2) ++ wsX20)
def wsX2_find_r1 : List Cond := [Cond.fieldLink RX2 92 "DefaultReasonerModel" "count" "I", Cond.fieldLink RX2 43 "DefaultReasonerModel" "defaults" "I", Cond.fieldLink RX2 32 "DefaultReasonerModel" "all" "[I", Cond.methodLink RX2 80 yX2_consequences, Cond.instanceMethod yX2_consequences, Cond.selects RX2 yX2_consequences yX2_consequences, Cond.initialized RX2, Cond.code yX2_consequences cX2_consequences 4 (some .int), Cond.fieldLink RX2 50 "DefaultReasonerModel" "facts" "I", Cond.fieldLink RX2 22 "DefaultReasonerModel" "conclusions" "[I", Cond.methodLink RX2 77 yX2_close, Cond.instanceMethod yX2_close, Cond.selects RX2 yX2_close yX2_close, Cond.code yX2_close cX2_close 5 (some .int), Cond.fieldLink RX2 60 "DefaultReasonerModel" "rules" "I", Cond.fieldLink RX2 9 "DefaultReasonerModel" "bodies" "[I", Cond.fieldLink RX2 13 "DefaultReasonerModel" "heads" "[I", Cond.constant RX2 42 (65535), Cond.methodLink RX2 74 yX2_complements, Cond.static yX2_complements, Cond.code yX2_complements cX2_complements 1 (some .int), Cond.methodLink RX2 86 yX2_generators, Cond.instanceMethod yX2_generators, Cond.selects RX2 yX2_generators yX2_generators]
def wsX2_find_r2 : List Cond := [Cond.code yX2_generators cX2_generators 6 (some .int), Cond.fieldLink RX2 16 "DefaultReasonerModel" "needs" "[I", Cond.methodLink RX2 83 yX2_open, Cond.instanceMethod yX2_open, Cond.selects RX2 yX2_open yX2_open, Cond.code yX2_open cX2_open 3 (some .boolean), Cond.fieldLink RX2 19 "DefaultReasonerModel" "justifications" "[I"]
def wsX2_find : List Cond := .code yX2_find cX2_find 4 none :: ((wsX2_find_r1 ++ wsX2_find_r2) ++ wsX20)
def wsX2_orders : List Cond := .code yX2_orders cX2_orders 3 (some .int) :: ([.fieldLink RX2 43 "DefaultReasonerModel" "defaults" "I"] ++ wsX20)
def wsX2_setOrder : List Cond := .code yX2_setOrder cX2_setOrder 9 none :: ([.arrayClass .boolean, .fieldLink RX2 43 "DefaultReasonerModel" "defaults" "I", .methodLink RX2 98 yX2_orders, .instanceMethod yX2_orders, .selects RX2 yX2_orders yX2_orders, .initialized RX2, .code yX2_orders cX2_orders 3 (some .int)] ++ wsX20)
def wsX2_respects : List Cond := .code yX2_respects cX2_respects 4 (some .boolean) :: ([.fieldLink RX2 43 "DefaultReasonerModel" "defaults" "I", .methodLink RX2 70 yX2_before, .instanceMethod yX2_before, .selects RX2 yX2_before yX2_before, .initialized RX2, .code yX2_before cX2_before 3 (some .boolean), .methodLink RX2 63 yX2_leads, .instanceMethod yX2_leads, .selects RX2 yX2_leads yX2_leads, .code yX2_leads cX2_leads 5 (some .boolean), .fieldLink RX2 25 "DefaultReasonerModel" "told" "[Z"] ++ wsX20)
def wsX2_first : List Cond := .code yX2_first cX2_first 5 (some .int) :: ([.fieldLink RX2 43 "DefaultReasonerModel" "defaults" "I", .fieldLink RX2 16 "DefaultReasonerModel" "needs" "[I", .fieldLink RX2 22 "DefaultReasonerModel" "conclusions" "[I", .methodLink RX2 83 yX2_open, .instanceMethod yX2_open, .selects RX2 yX2_open yX2_open, .initialized RX2, .code yX2_open cX2_open 3 (some .boolean), .fieldLink RX2 19 "DefaultReasonerModel" "justifications" "[I", .methodLink RX2 74 yX2_complements, .static yX2_complements, .code yX2_complements cX2_complements 1 (some .int)] ++ wsX20)
def wsX2_walk_r1 : List Cond := [Cond.fieldLink RX2 50 "DefaultReasonerModel" "facts" "I", Cond.fieldLink RX2 22 "DefaultReasonerModel" "conclusions" "[I", Cond.methodLink RX2 77 yX2_close, Cond.instanceMethod yX2_close, Cond.selects RX2 yX2_close yX2_close, Cond.initialized RX2, Cond.code yX2_close cX2_close 5 (some .int), Cond.fieldLink RX2 60 "DefaultReasonerModel" "rules" "I", Cond.fieldLink RX2 9 "DefaultReasonerModel" "bodies" "[I", Cond.fieldLink RX2 13 "DefaultReasonerModel" "heads" "[I", Cond.constant RX2 42 (65535), Cond.methodLink RX2 74 yX2_complements, Cond.static yX2_complements, Cond.code yX2_complements cX2_complements 1 (some .int), Cond.methodLink RX2 123 yX2_first, Cond.instanceMethod yX2_first, Cond.selects RX2 yX2_first yX2_first, Cond.code yX2_first cX2_first 5 (some .int), Cond.fieldLink RX2 43 "DefaultReasonerModel" "defaults" "I", Cond.fieldLink RX2 16 "DefaultReasonerModel" "needs" "[I", Cond.methodLink RX2 83 yX2_open, Cond.instanceMethod yX2_open, Cond.selects RX2 yX2_open yX2_open, Cond.code yX2_open cX2_open 3 (some .boolean)]
def wsX2_walk_r2 : List Cond := [Cond.fieldLink RX2 19 "DefaultReasonerModel" "justifications" "[I"]
def wsX2_walk : List Cond := .code yX2_walk cX2_walk 5 (some .int) :: ((wsX2_walk_r1 ++ wsX2_walk_r2) ++ wsX20)
def wsX2_findPreferred_r1 : List Cond := [Cond.fieldLink RX2 92 "DefaultReasonerModel" "count" "I", Cond.fieldLink RX2 35 "DefaultReasonerModel" "arePreferred" "[Z", Cond.arrayClass .int, Cond.fieldLink RX2 32 "DefaultReasonerModel" "all" "[I", Cond.methodLink RX2 95 yX2_find, Cond.instanceMethod yX2_find, Cond.selects RX2 yX2_find yX2_find, Cond.initialized RX2, Cond.code yX2_find cX2_find 4 none, Cond.fieldLink RX2 43 "DefaultReasonerModel" "defaults" "I", Cond.methodLink RX2 80 yX2_consequences, Cond.instanceMethod yX2_consequences, Cond.selects RX2 yX2_consequences yX2_consequences, Cond.code yX2_consequences cX2_consequences 4 (some .int), Cond.fieldLink RX2 50 "DefaultReasonerModel" "facts" "I", Cond.fieldLink RX2 22 "DefaultReasonerModel" "conclusions" "[I", Cond.methodLink RX2 77 yX2_close, Cond.instanceMethod yX2_close, Cond.selects RX2 yX2_close yX2_close, Cond.code yX2_close cX2_close 5 (some .int), Cond.fieldLink RX2 60 "DefaultReasonerModel" "rules" "I", Cond.fieldLink RX2 9 "DefaultReasonerModel" "bodies" "[I", Cond.fieldLink RX2 13 "DefaultReasonerModel" "heads" "[I", Cond.constant RX2 42 (65535)]
def wsX2_findPreferred_r2 : List Cond := [Cond.methodLink RX2 74 yX2_complements, Cond.static yX2_complements, Cond.code yX2_complements cX2_complements 1 (some .int), Cond.methodLink RX2 86 yX2_generators, Cond.instanceMethod yX2_generators, Cond.selects RX2 yX2_generators yX2_generators, Cond.code yX2_generators cX2_generators 6 (some .int), Cond.fieldLink RX2 16 "DefaultReasonerModel" "needs" "[I", Cond.methodLink RX2 83 yX2_open, Cond.instanceMethod yX2_open, Cond.selects RX2 yX2_open yX2_open, Cond.code yX2_open cX2_open 3 (some .boolean), Cond.fieldLink RX2 19 "DefaultReasonerModel" "justifications" "[I", Cond.methodLink RX2 98 yX2_orders, Cond.instanceMethod yX2_orders, Cond.selects RX2 yX2_orders yX2_orders, Cond.code yX2_orders cX2_orders 3 (some .int), Cond.methodLink RX2 102 yX2_setOrder, Cond.instanceMethod yX2_setOrder, Cond.selects RX2 yX2_setOrder yX2_setOrder, Cond.code yX2_setOrder cX2_setOrder 9 none, Cond.arrayClass .boolean, Cond.methodLink RX2 106 yX2_respects, Cond.instanceMethod yX2_respects]
def wsX2_findPreferred_r3 : List Cond := [Cond.selects RX2 yX2_respects yX2_respects, Cond.code yX2_respects cX2_respects 4 (some .boolean), Cond.methodLink RX2 70 yX2_before, Cond.instanceMethod yX2_before, Cond.selects RX2 yX2_before yX2_before, Cond.code yX2_before cX2_before 3 (some .boolean), Cond.methodLink RX2 63 yX2_leads, Cond.instanceMethod yX2_leads, Cond.selects RX2 yX2_leads yX2_leads, Cond.code yX2_leads cX2_leads 5 (some .boolean), Cond.fieldLink RX2 25 "DefaultReasonerModel" "told" "[Z", Cond.methodLink RX2 110 yX2_walk, Cond.instanceMethod yX2_walk, Cond.selects RX2 yX2_walk yX2_walk, Cond.code yX2_walk cX2_walk 5 (some .int), Cond.methodLink RX2 123 yX2_first, Cond.instanceMethod yX2_first, Cond.selects RX2 yX2_first yX2_first, Cond.code yX2_first cX2_first 5 (some .int)]
def wsX2_findPreferred : List Cond := .code yX2_findPreferred cX2_findPreferred 5 none :: ((wsX2_findPreferred_r1 ++ (wsX2_findPreferred_r2 ++ wsX2_findPreferred_r3)) ++ wsX20)
def wsX2_extensionCount_r1 : List Cond := [Cond.fieldLink RX2 38 "DefaultReasonerModel" "thrown" "I", Cond.fieldLink RX2 92 "DefaultReasonerModel" "count" "I", Cond.methodLink RX2 95 yX2_find, Cond.instanceMethod yX2_find, Cond.selects RX2 yX2_find yX2_find, Cond.initialized RX2, Cond.code yX2_find cX2_find 4 none, Cond.fieldLink RX2 43 "DefaultReasonerModel" "defaults" "I", Cond.fieldLink RX2 32 "DefaultReasonerModel" "all" "[I", Cond.methodLink RX2 80 yX2_consequences, Cond.instanceMethod yX2_consequences, Cond.selects RX2 yX2_consequences yX2_consequences, Cond.code yX2_consequences cX2_consequences 4 (some .int), Cond.fieldLink RX2 50 "DefaultReasonerModel" "facts" "I", Cond.fieldLink RX2 22 "DefaultReasonerModel" "conclusions" "[I", Cond.methodLink RX2 77 yX2_close, Cond.instanceMethod yX2_close, Cond.selects RX2 yX2_close yX2_close, Cond.code yX2_close cX2_close 5 (some .int), Cond.fieldLink RX2 60 "DefaultReasonerModel" "rules" "I", Cond.fieldLink RX2 9 "DefaultReasonerModel" "bodies" "[I", Cond.fieldLink RX2 13 "DefaultReasonerModel" "heads" "[I", Cond.constant RX2 42 (65535), Cond.methodLink RX2 74 yX2_complements]
def wsX2_extensionCount_r2 : List Cond := [Cond.static yX2_complements, Cond.code yX2_complements cX2_complements 1 (some .int), Cond.methodLink RX2 86 yX2_generators, Cond.instanceMethod yX2_generators, Cond.selects RX2 yX2_generators yX2_generators, Cond.code yX2_generators cX2_generators 6 (some .int), Cond.fieldLink RX2 16 "DefaultReasonerModel" "needs" "[I", Cond.methodLink RX2 83 yX2_open, Cond.instanceMethod yX2_open, Cond.selects RX2 yX2_open yX2_open, Cond.code yX2_open cX2_open 3 (some .boolean), Cond.fieldLink RX2 19 "DefaultReasonerModel" "justifications" "[I"]
def wsX2_extensionCount : List Cond := .code yX2_extensionCount cX2_extensionCount 1 (some .int) :: ((wsX2_extensionCount_r1 ++ wsX2_extensionCount_r2) ++ wsX20)
def wsX2_asks_r1 : List Cond := [Cond.fieldLink RX2 92 "DefaultReasonerModel" "count" "I", Cond.fieldLink RX2 38 "DefaultReasonerModel" "thrown" "I", Cond.methodLink RX2 95 yX2_find, Cond.instanceMethod yX2_find, Cond.selects RX2 yX2_find yX2_find, Cond.initialized RX2, Cond.code yX2_find cX2_find 4 none, Cond.fieldLink RX2 43 "DefaultReasonerModel" "defaults" "I", Cond.fieldLink RX2 32 "DefaultReasonerModel" "all" "[I", Cond.methodLink RX2 80 yX2_consequences, Cond.instanceMethod yX2_consequences, Cond.selects RX2 yX2_consequences yX2_consequences, Cond.code yX2_consequences cX2_consequences 4 (some .int), Cond.fieldLink RX2 50 "DefaultReasonerModel" "facts" "I", Cond.fieldLink RX2 22 "DefaultReasonerModel" "conclusions" "[I", Cond.methodLink RX2 77 yX2_close, Cond.instanceMethod yX2_close, Cond.selects RX2 yX2_close yX2_close, Cond.code yX2_close cX2_close 5 (some .int), Cond.fieldLink RX2 60 "DefaultReasonerModel" "rules" "I", Cond.fieldLink RX2 9 "DefaultReasonerModel" "bodies" "[I", Cond.fieldLink RX2 13 "DefaultReasonerModel" "heads" "[I", Cond.constant RX2 42 (65535), Cond.methodLink RX2 74 yX2_complements]
def wsX2_asks_r2 : List Cond := [Cond.static yX2_complements, Cond.code yX2_complements cX2_complements 1 (some .int), Cond.methodLink RX2 86 yX2_generators, Cond.instanceMethod yX2_generators, Cond.selects RX2 yX2_generators yX2_generators, Cond.code yX2_generators cX2_generators 6 (some .int), Cond.fieldLink RX2 16 "DefaultReasonerModel" "needs" "[I", Cond.methodLink RX2 83 yX2_open, Cond.instanceMethod yX2_open, Cond.selects RX2 yX2_open yX2_open, Cond.code yX2_open cX2_open 3 (some .boolean), Cond.fieldLink RX2 19 "DefaultReasonerModel" "justifications" "[I"]
def wsX2_asks : List Cond := .code yX2_asks cX2_asks 2 (some .boolean) :: ((wsX2_asks_r1 ++ wsX2_asks_r2) ++ wsX20)
def wsX2_extension_r1 : List Cond := [Cond.fieldLink RX2 32 "DefaultReasonerModel" "all" "[I", Cond.methodLink RX2 114 yX2_asks, Cond.instanceMethod yX2_asks, Cond.selects RX2 yX2_asks yX2_asks, Cond.initialized RX2, Cond.code yX2_asks cX2_asks 2 (some .boolean), Cond.fieldLink RX2 92 "DefaultReasonerModel" "count" "I", Cond.fieldLink RX2 38 "DefaultReasonerModel" "thrown" "I", Cond.methodLink RX2 95 yX2_find, Cond.instanceMethod yX2_find, Cond.selects RX2 yX2_find yX2_find, Cond.code yX2_find cX2_find 4 none, Cond.fieldLink RX2 43 "DefaultReasonerModel" "defaults" "I", Cond.methodLink RX2 80 yX2_consequences, Cond.instanceMethod yX2_consequences, Cond.selects RX2 yX2_consequences yX2_consequences, Cond.code yX2_consequences cX2_consequences 4 (some .int), Cond.fieldLink RX2 50 "DefaultReasonerModel" "facts" "I", Cond.fieldLink RX2 22 "DefaultReasonerModel" "conclusions" "[I", Cond.methodLink RX2 77 yX2_close, Cond.instanceMethod yX2_close, Cond.selects RX2 yX2_close yX2_close, Cond.code yX2_close cX2_close 5 (some .int), Cond.fieldLink RX2 60 "DefaultReasonerModel" "rules" "I"]
def wsX2_extension_r2 : List Cond := [Cond.fieldLink RX2 9 "DefaultReasonerModel" "bodies" "[I", Cond.fieldLink RX2 13 "DefaultReasonerModel" "heads" "[I", Cond.constant RX2 42 (65535), Cond.methodLink RX2 74 yX2_complements, Cond.static yX2_complements, Cond.code yX2_complements cX2_complements 1 (some .int), Cond.methodLink RX2 86 yX2_generators, Cond.instanceMethod yX2_generators, Cond.selects RX2 yX2_generators yX2_generators, Cond.code yX2_generators cX2_generators 6 (some .int), Cond.fieldLink RX2 16 "DefaultReasonerModel" "needs" "[I", Cond.methodLink RX2 83 yX2_open, Cond.instanceMethod yX2_open, Cond.selects RX2 yX2_open yX2_open, Cond.code yX2_open cX2_open 3 (some .boolean), Cond.fieldLink RX2 19 "DefaultReasonerModel" "justifications" "[I"]
def wsX2_extension : List Cond := .code yX2_extension cX2_extension 2 (some .int) :: ((wsX2_extension_r1 ++ wsX2_extension_r2) ++ wsX20)
def wsX2_isPreferred_r1 : List Cond := [Cond.fieldLink RX2 35 "DefaultReasonerModel" "arePreferred" "[Z", Cond.methodLink RX2 114 yX2_asks, Cond.instanceMethod yX2_asks, Cond.selects RX2 yX2_asks yX2_asks, Cond.initialized RX2, Cond.code yX2_asks cX2_asks 2 (some .boolean), Cond.fieldLink RX2 92 "DefaultReasonerModel" "count" "I", Cond.fieldLink RX2 38 "DefaultReasonerModel" "thrown" "I", Cond.methodLink RX2 95 yX2_find, Cond.instanceMethod yX2_find, Cond.selects RX2 yX2_find yX2_find, Cond.code yX2_find cX2_find 4 none, Cond.fieldLink RX2 43 "DefaultReasonerModel" "defaults" "I", Cond.fieldLink RX2 32 "DefaultReasonerModel" "all" "[I", Cond.methodLink RX2 80 yX2_consequences, Cond.instanceMethod yX2_consequences, Cond.selects RX2 yX2_consequences yX2_consequences, Cond.code yX2_consequences cX2_consequences 4 (some .int), Cond.fieldLink RX2 50 "DefaultReasonerModel" "facts" "I", Cond.fieldLink RX2 22 "DefaultReasonerModel" "conclusions" "[I", Cond.methodLink RX2 77 yX2_close, Cond.instanceMethod yX2_close, Cond.selects RX2 yX2_close yX2_close, Cond.code yX2_close cX2_close 5 (some .int)]
def wsX2_isPreferred_r2 : List Cond := [Cond.fieldLink RX2 60 "DefaultReasonerModel" "rules" "I", Cond.fieldLink RX2 9 "DefaultReasonerModel" "bodies" "[I", Cond.fieldLink RX2 13 "DefaultReasonerModel" "heads" "[I", Cond.constant RX2 42 (65535), Cond.methodLink RX2 74 yX2_complements, Cond.static yX2_complements, Cond.code yX2_complements cX2_complements 1 (some .int), Cond.methodLink RX2 86 yX2_generators, Cond.instanceMethod yX2_generators, Cond.selects RX2 yX2_generators yX2_generators, Cond.code yX2_generators cX2_generators 6 (some .int), Cond.fieldLink RX2 16 "DefaultReasonerModel" "needs" "[I", Cond.methodLink RX2 83 yX2_open, Cond.instanceMethod yX2_open, Cond.selects RX2 yX2_open yX2_open, Cond.code yX2_open cX2_open 3 (some .boolean), Cond.fieldLink RX2 19 "DefaultReasonerModel" "justifications" "[I", Cond.methodLink RX2 117 yX2_findPreferred, Cond.instanceMethod yX2_findPreferred, Cond.selects RX2 yX2_findPreferred yX2_findPreferred, Cond.code yX2_findPreferred cX2_findPreferred 5 none, Cond.arrayClass .int, Cond.methodLink RX2 98 yX2_orders, Cond.instanceMethod yX2_orders]
def wsX2_isPreferred_r3 : List Cond := [Cond.selects RX2 yX2_orders yX2_orders, Cond.code yX2_orders cX2_orders 3 (some .int), Cond.methodLink RX2 102 yX2_setOrder, Cond.instanceMethod yX2_setOrder, Cond.selects RX2 yX2_setOrder yX2_setOrder, Cond.code yX2_setOrder cX2_setOrder 9 none, Cond.arrayClass .boolean, Cond.methodLink RX2 106 yX2_respects, Cond.instanceMethod yX2_respects, Cond.selects RX2 yX2_respects yX2_respects, Cond.code yX2_respects cX2_respects 4 (some .boolean), Cond.methodLink RX2 70 yX2_before, Cond.instanceMethod yX2_before, Cond.selects RX2 yX2_before yX2_before, Cond.code yX2_before cX2_before 3 (some .boolean), Cond.methodLink RX2 63 yX2_leads, Cond.instanceMethod yX2_leads, Cond.selects RX2 yX2_leads yX2_leads, Cond.code yX2_leads cX2_leads 5 (some .boolean), Cond.fieldLink RX2 25 "DefaultReasonerModel" "told" "[Z", Cond.methodLink RX2 110 yX2_walk, Cond.instanceMethod yX2_walk, Cond.selects RX2 yX2_walk yX2_walk, Cond.code yX2_walk cX2_walk 5 (some .int)]
def wsX2_isPreferred_r4 : List Cond := [Cond.methodLink RX2 123 yX2_first, Cond.instanceMethod yX2_first, Cond.selects RX2 yX2_first yX2_first, Cond.code yX2_first cX2_first 5 (some .int)]
def wsX2_isPreferred : List Cond := .code yX2_isPreferred cX2_isPreferred 2 (some .boolean) :: ((wsX2_isPreferred_r1 ++ (wsX2_isPreferred_r2 ++ (wsX2_isPreferred_r3 ++ wsX2_isPreferred_r4))) ++ wsX20)
def wsX2_preferred_r1 : List Cond := [Cond.fieldLink RX2 92 "DefaultReasonerModel" "count" "I", Cond.fieldLink RX2 35 "DefaultReasonerModel" "arePreferred" "[Z", Cond.methodLink RX2 117 yX2_findPreferred, Cond.instanceMethod yX2_findPreferred, Cond.selects RX2 yX2_findPreferred yX2_findPreferred, Cond.initialized RX2, Cond.code yX2_findPreferred cX2_findPreferred 5 none, Cond.arrayClass .int, Cond.fieldLink RX2 32 "DefaultReasonerModel" "all" "[I", Cond.methodLink RX2 95 yX2_find, Cond.instanceMethod yX2_find, Cond.selects RX2 yX2_find yX2_find, Cond.code yX2_find cX2_find 4 none, Cond.fieldLink RX2 43 "DefaultReasonerModel" "defaults" "I", Cond.methodLink RX2 80 yX2_consequences, Cond.instanceMethod yX2_consequences, Cond.selects RX2 yX2_consequences yX2_consequences, Cond.code yX2_consequences cX2_consequences 4 (some .int), Cond.fieldLink RX2 50 "DefaultReasonerModel" "facts" "I", Cond.fieldLink RX2 22 "DefaultReasonerModel" "conclusions" "[I", Cond.methodLink RX2 77 yX2_close, Cond.instanceMethod yX2_close, Cond.selects RX2 yX2_close yX2_close, Cond.code yX2_close cX2_close 5 (some .int)]
def wsX2_preferred_r2 : List Cond := [Cond.fieldLink RX2 60 "DefaultReasonerModel" "rules" "I", Cond.fieldLink RX2 9 "DefaultReasonerModel" "bodies" "[I", Cond.fieldLink RX2 13 "DefaultReasonerModel" "heads" "[I", Cond.constant RX2 42 (65535), Cond.methodLink RX2 74 yX2_complements, Cond.static yX2_complements, Cond.code yX2_complements cX2_complements 1 (some .int), Cond.methodLink RX2 86 yX2_generators, Cond.instanceMethod yX2_generators, Cond.selects RX2 yX2_generators yX2_generators, Cond.code yX2_generators cX2_generators 6 (some .int), Cond.fieldLink RX2 16 "DefaultReasonerModel" "needs" "[I", Cond.methodLink RX2 83 yX2_open, Cond.instanceMethod yX2_open, Cond.selects RX2 yX2_open yX2_open, Cond.code yX2_open cX2_open 3 (some .boolean), Cond.fieldLink RX2 19 "DefaultReasonerModel" "justifications" "[I", Cond.methodLink RX2 98 yX2_orders, Cond.instanceMethod yX2_orders, Cond.selects RX2 yX2_orders yX2_orders, Cond.code yX2_orders cX2_orders 3 (some .int), Cond.methodLink RX2 102 yX2_setOrder, Cond.instanceMethod yX2_setOrder, Cond.selects RX2 yX2_setOrder yX2_setOrder]
def wsX2_preferred_r3 : List Cond := [Cond.code yX2_setOrder cX2_setOrder 9 none, Cond.arrayClass .boolean, Cond.methodLink RX2 106 yX2_respects, Cond.instanceMethod yX2_respects, Cond.selects RX2 yX2_respects yX2_respects, Cond.code yX2_respects cX2_respects 4 (some .boolean), Cond.methodLink RX2 70 yX2_before, Cond.instanceMethod yX2_before, Cond.selects RX2 yX2_before yX2_before, Cond.code yX2_before cX2_before 3 (some .boolean), Cond.methodLink RX2 63 yX2_leads, Cond.instanceMethod yX2_leads, Cond.selects RX2 yX2_leads yX2_leads, Cond.code yX2_leads cX2_leads 5 (some .boolean), Cond.fieldLink RX2 25 "DefaultReasonerModel" "told" "[Z", Cond.methodLink RX2 110 yX2_walk, Cond.instanceMethod yX2_walk, Cond.selects RX2 yX2_walk yX2_walk, Cond.code yX2_walk cX2_walk 5 (some .int), Cond.methodLink RX2 123 yX2_first, Cond.instanceMethod yX2_first, Cond.selects RX2 yX2_first yX2_first, Cond.code yX2_first cX2_first 5 (some .int)]
def wsX2_preferred : List Cond := .code yX2_preferred cX2_preferred 3 (some .int) :: ((wsX2_preferred_r1 ++ (wsX2_preferred_r2 ++ wsX2_preferred_r3)) ++ wsX20)
def wsX2_preferredCount_r1 : List Cond := [Cond.fieldLink RX2 38 "DefaultReasonerModel" "thrown" "I", Cond.methodLink RX2 120 yX2_preferred, Cond.instanceMethod yX2_preferred, Cond.selects RX2 yX2_preferred yX2_preferred, Cond.initialized RX2, Cond.code yX2_preferred cX2_preferred 3 (some .int), Cond.fieldLink RX2 92 "DefaultReasonerModel" "count" "I", Cond.fieldLink RX2 35 "DefaultReasonerModel" "arePreferred" "[Z", Cond.methodLink RX2 117 yX2_findPreferred, Cond.instanceMethod yX2_findPreferred, Cond.selects RX2 yX2_findPreferred yX2_findPreferred, Cond.code yX2_findPreferred cX2_findPreferred 5 none, Cond.arrayClass .int, Cond.fieldLink RX2 32 "DefaultReasonerModel" "all" "[I", Cond.methodLink RX2 95 yX2_find, Cond.instanceMethod yX2_find, Cond.selects RX2 yX2_find yX2_find, Cond.code yX2_find cX2_find 4 none, Cond.fieldLink RX2 43 "DefaultReasonerModel" "defaults" "I", Cond.methodLink RX2 80 yX2_consequences, Cond.instanceMethod yX2_consequences, Cond.selects RX2 yX2_consequences yX2_consequences, Cond.code yX2_consequences cX2_consequences 4 (some .int), Cond.fieldLink RX2 50 "DefaultReasonerModel" "facts" "I"]
def wsX2_preferredCount_r2 : List Cond := [Cond.fieldLink RX2 22 "DefaultReasonerModel" "conclusions" "[I", Cond.methodLink RX2 77 yX2_close, Cond.instanceMethod yX2_close, Cond.selects RX2 yX2_close yX2_close, Cond.code yX2_close cX2_close 5 (some .int), Cond.fieldLink RX2 60 "DefaultReasonerModel" "rules" "I", Cond.fieldLink RX2 9 "DefaultReasonerModel" "bodies" "[I", Cond.fieldLink RX2 13 "DefaultReasonerModel" "heads" "[I", Cond.constant RX2 42 (65535), Cond.methodLink RX2 74 yX2_complements, Cond.static yX2_complements, Cond.code yX2_complements cX2_complements 1 (some .int), Cond.methodLink RX2 86 yX2_generators, Cond.instanceMethod yX2_generators, Cond.selects RX2 yX2_generators yX2_generators, Cond.code yX2_generators cX2_generators 6 (some .int), Cond.fieldLink RX2 16 "DefaultReasonerModel" "needs" "[I", Cond.methodLink RX2 83 yX2_open, Cond.instanceMethod yX2_open, Cond.selects RX2 yX2_open yX2_open, Cond.code yX2_open cX2_open 3 (some .boolean), Cond.fieldLink RX2 19 "DefaultReasonerModel" "justifications" "[I", Cond.methodLink RX2 98 yX2_orders, Cond.instanceMethod yX2_orders]
def wsX2_preferredCount_r3 : List Cond := [Cond.selects RX2 yX2_orders yX2_orders, Cond.code yX2_orders cX2_orders 3 (some .int), Cond.methodLink RX2 102 yX2_setOrder, Cond.instanceMethod yX2_setOrder, Cond.selects RX2 yX2_setOrder yX2_setOrder, Cond.code yX2_setOrder cX2_setOrder 9 none, Cond.arrayClass .boolean, Cond.methodLink RX2 106 yX2_respects, Cond.instanceMethod yX2_respects, Cond.selects RX2 yX2_respects yX2_respects, Cond.code yX2_respects cX2_respects 4 (some .boolean), Cond.methodLink RX2 70 yX2_before, Cond.instanceMethod yX2_before, Cond.selects RX2 yX2_before yX2_before, Cond.code yX2_before cX2_before 3 (some .boolean), Cond.methodLink RX2 63 yX2_leads, Cond.instanceMethod yX2_leads, Cond.selects RX2 yX2_leads yX2_leads, Cond.code yX2_leads cX2_leads 5 (some .boolean), Cond.fieldLink RX2 25 "DefaultReasonerModel" "told" "[Z", Cond.methodLink RX2 110 yX2_walk, Cond.instanceMethod yX2_walk, Cond.selects RX2 yX2_walk yX2_walk, Cond.code yX2_walk cX2_walk 5 (some .int)]
def wsX2_preferredCount_r4 : List Cond := [Cond.methodLink RX2 123 yX2_first, Cond.instanceMethod yX2_first, Cond.selects RX2 yX2_first yX2_first, Cond.code yX2_first cX2_first 5 (some .int)]
def wsX2_preferredCount : List Cond := .code yX2_preferredCount cX2_preferredCount 1 (some .int) :: ((wsX2_preferredCount_r1 ++ (wsX2_preferredCount_r2 ++ (wsX2_preferredCount_r3 ++ wsX2_preferredCount_r4))) ++ wsX20)
def wsX2_supports_r1 : List Cond := [Cond.fieldLink RX2 38 "DefaultReasonerModel" "thrown" "I", Cond.fieldLink RX2 92 "DefaultReasonerModel" "count" "I", Cond.fieldLink RX2 32 "DefaultReasonerModel" "all" "[I", Cond.methodLink RX2 46 yX2_isLiteral, Cond.static yX2_isLiteral, Cond.initialized RX2, Cond.code yX2_isLiteral cX2_isLiteral 1 (some .boolean), Cond.methodLink RX2 53 yX2_fail, Cond.instanceMethod yX2_fail, Cond.selects RX2 yX2_fail yX2_fail, Cond.code yX2_fail cX2_fail 2 (some .int), Cond.methodLink RX2 95 yX2_find, Cond.instanceMethod yX2_find, Cond.selects RX2 yX2_find yX2_find, Cond.code yX2_find cX2_find 4 none, Cond.fieldLink RX2 43 "DefaultReasonerModel" "defaults" "I", Cond.methodLink RX2 80 yX2_consequences, Cond.instanceMethod yX2_consequences, Cond.selects RX2 yX2_consequences yX2_consequences, Cond.code yX2_consequences cX2_consequences 4 (some .int), Cond.fieldLink RX2 50 "DefaultReasonerModel" "facts" "I", Cond.fieldLink RX2 22 "DefaultReasonerModel" "conclusions" "[I", Cond.methodLink RX2 77 yX2_close, Cond.instanceMethod yX2_close]
def wsX2_supports_r2 : List Cond := [Cond.selects RX2 yX2_close yX2_close, Cond.code yX2_close cX2_close 5 (some .int), Cond.fieldLink RX2 60 "DefaultReasonerModel" "rules" "I", Cond.fieldLink RX2 9 "DefaultReasonerModel" "bodies" "[I", Cond.fieldLink RX2 13 "DefaultReasonerModel" "heads" "[I", Cond.constant RX2 42 (65535), Cond.methodLink RX2 74 yX2_complements, Cond.static yX2_complements, Cond.code yX2_complements cX2_complements 1 (some .int), Cond.methodLink RX2 86 yX2_generators, Cond.instanceMethod yX2_generators, Cond.selects RX2 yX2_generators yX2_generators, Cond.code yX2_generators cX2_generators 6 (some .int), Cond.fieldLink RX2 16 "DefaultReasonerModel" "needs" "[I", Cond.methodLink RX2 83 yX2_open, Cond.instanceMethod yX2_open, Cond.selects RX2 yX2_open yX2_open, Cond.code yX2_open cX2_open 3 (some .boolean), Cond.fieldLink RX2 19 "DefaultReasonerModel" "justifications" "[I"]
def wsX2_supports : List Cond := .code yX2_supports cX2_supports 4 (some .int) :: ((wsX2_supports_r1 ++ wsX2_supports_r2) ++ wsX20)
def wsX2_common_r1 : List Cond := [Cond.fieldLink RX2 38 "DefaultReasonerModel" "thrown" "I", Cond.constant RX2 42 (65535), Cond.fieldLink RX2 92 "DefaultReasonerModel" "count" "I", Cond.fieldLink RX2 35 "DefaultReasonerModel" "arePreferred" "[Z", Cond.fieldLink RX2 32 "DefaultReasonerModel" "all" "[I", Cond.methodLink RX2 117 yX2_findPreferred, Cond.instanceMethod yX2_findPreferred, Cond.selects RX2 yX2_findPreferred yX2_findPreferred, Cond.initialized RX2, Cond.code yX2_findPreferred cX2_findPreferred 5 none, Cond.arrayClass .int, Cond.methodLink RX2 95 yX2_find, Cond.instanceMethod yX2_find, Cond.selects RX2 yX2_find yX2_find, Cond.code yX2_find cX2_find 4 none, Cond.fieldLink RX2 43 "DefaultReasonerModel" "defaults" "I", Cond.methodLink RX2 80 yX2_consequences, Cond.instanceMethod yX2_consequences, Cond.selects RX2 yX2_consequences yX2_consequences, Cond.code yX2_consequences cX2_consequences 4 (some .int), Cond.fieldLink RX2 50 "DefaultReasonerModel" "facts" "I", Cond.fieldLink RX2 22 "DefaultReasonerModel" "conclusions" "[I", Cond.methodLink RX2 77 yX2_close, Cond.instanceMethod yX2_close]
def wsX2_common_r2 : List Cond := [Cond.selects RX2 yX2_close yX2_close, Cond.code yX2_close cX2_close 5 (some .int), Cond.fieldLink RX2 60 "DefaultReasonerModel" "rules" "I", Cond.fieldLink RX2 9 "DefaultReasonerModel" "bodies" "[I", Cond.fieldLink RX2 13 "DefaultReasonerModel" "heads" "[I", Cond.methodLink RX2 74 yX2_complements, Cond.static yX2_complements, Cond.code yX2_complements cX2_complements 1 (some .int), Cond.methodLink RX2 86 yX2_generators, Cond.instanceMethod yX2_generators, Cond.selects RX2 yX2_generators yX2_generators, Cond.code yX2_generators cX2_generators 6 (some .int), Cond.fieldLink RX2 16 "DefaultReasonerModel" "needs" "[I", Cond.methodLink RX2 83 yX2_open, Cond.instanceMethod yX2_open, Cond.selects RX2 yX2_open yX2_open, Cond.code yX2_open cX2_open 3 (some .boolean), Cond.fieldLink RX2 19 "DefaultReasonerModel" "justifications" "[I", Cond.methodLink RX2 98 yX2_orders, Cond.instanceMethod yX2_orders, Cond.selects RX2 yX2_orders yX2_orders, Cond.code yX2_orders cX2_orders 3 (some .int), Cond.methodLink RX2 102 yX2_setOrder, Cond.instanceMethod yX2_setOrder]
def wsX2_common_r3 : List Cond := [Cond.selects RX2 yX2_setOrder yX2_setOrder, Cond.code yX2_setOrder cX2_setOrder 9 none, Cond.arrayClass .boolean, Cond.methodLink RX2 106 yX2_respects, Cond.instanceMethod yX2_respects, Cond.selects RX2 yX2_respects yX2_respects, Cond.code yX2_respects cX2_respects 4 (some .boolean), Cond.methodLink RX2 70 yX2_before, Cond.instanceMethod yX2_before, Cond.selects RX2 yX2_before yX2_before, Cond.code yX2_before cX2_before 3 (some .boolean), Cond.methodLink RX2 63 yX2_leads, Cond.instanceMethod yX2_leads, Cond.selects RX2 yX2_leads yX2_leads, Cond.code yX2_leads cX2_leads 5 (some .boolean), Cond.fieldLink RX2 25 "DefaultReasonerModel" "told" "[Z", Cond.methodLink RX2 110 yX2_walk, Cond.instanceMethod yX2_walk, Cond.selects RX2 yX2_walk yX2_walk, Cond.code yX2_walk cX2_walk 5 (some .int), Cond.methodLink RX2 123 yX2_first, Cond.instanceMethod yX2_first, Cond.selects RX2 yX2_first yX2_first, Cond.code yX2_first cX2_first 5 (some .int)]
def wsX2_common : List Cond := .code yX2_common cX2_common 4 (some .int) :: ((wsX2_common_r1 ++ (wsX2_common_r2 ++ wsX2_common_r3)) ++ wsX20)
def wsX2_share_r1 : List Cond := [Cond.fieldLink RX2 38 "DefaultReasonerModel" "thrown" "I", Cond.fieldLink RX2 92 "DefaultReasonerModel" "count" "I", Cond.fieldLink RX2 35 "DefaultReasonerModel" "arePreferred" "[Z", Cond.fieldLink RX2 32 "DefaultReasonerModel" "all" "[I", Cond.methodLink RX2 46 yX2_isLiteral, Cond.static yX2_isLiteral, Cond.initialized RX2, Cond.code yX2_isLiteral cX2_isLiteral 1 (some .boolean), Cond.methodLink RX2 120 yX2_preferred, Cond.instanceMethod yX2_preferred, Cond.selects RX2 yX2_preferred yX2_preferred, Cond.code yX2_preferred cX2_preferred 3 (some .int), Cond.methodLink RX2 117 yX2_findPreferred, Cond.instanceMethod yX2_findPreferred, Cond.selects RX2 yX2_findPreferred yX2_findPreferred, Cond.code yX2_findPreferred cX2_findPreferred 5 none, Cond.arrayClass .int, Cond.methodLink RX2 95 yX2_find, Cond.instanceMethod yX2_find, Cond.selects RX2 yX2_find yX2_find, Cond.code yX2_find cX2_find 4 none, Cond.fieldLink RX2 43 "DefaultReasonerModel" "defaults" "I", Cond.methodLink RX2 80 yX2_consequences, Cond.instanceMethod yX2_consequences]
def wsX2_share_r2 : List Cond := [Cond.selects RX2 yX2_consequences yX2_consequences, Cond.code yX2_consequences cX2_consequences 4 (some .int), Cond.fieldLink RX2 50 "DefaultReasonerModel" "facts" "I", Cond.fieldLink RX2 22 "DefaultReasonerModel" "conclusions" "[I", Cond.methodLink RX2 77 yX2_close, Cond.instanceMethod yX2_close, Cond.selects RX2 yX2_close yX2_close, Cond.code yX2_close cX2_close 5 (some .int), Cond.fieldLink RX2 60 "DefaultReasonerModel" "rules" "I", Cond.fieldLink RX2 9 "DefaultReasonerModel" "bodies" "[I", Cond.fieldLink RX2 13 "DefaultReasonerModel" "heads" "[I", Cond.constant RX2 42 (65535), Cond.methodLink RX2 74 yX2_complements, Cond.static yX2_complements, Cond.code yX2_complements cX2_complements 1 (some .int), Cond.methodLink RX2 86 yX2_generators, Cond.instanceMethod yX2_generators, Cond.selects RX2 yX2_generators yX2_generators, Cond.code yX2_generators cX2_generators 6 (some .int), Cond.fieldLink RX2 16 "DefaultReasonerModel" "needs" "[I", Cond.methodLink RX2 83 yX2_open, Cond.instanceMethod yX2_open, Cond.selects RX2 yX2_open yX2_open, Cond.code yX2_open cX2_open 3 (some .boolean)]
def wsX2_share_r3 : List Cond := [Cond.fieldLink RX2 19 "DefaultReasonerModel" "justifications" "[I", Cond.methodLink RX2 98 yX2_orders, Cond.instanceMethod yX2_orders, Cond.selects RX2 yX2_orders yX2_orders, Cond.code yX2_orders cX2_orders 3 (some .int), Cond.methodLink RX2 102 yX2_setOrder, Cond.instanceMethod yX2_setOrder, Cond.selects RX2 yX2_setOrder yX2_setOrder, Cond.code yX2_setOrder cX2_setOrder 9 none, Cond.arrayClass .boolean, Cond.methodLink RX2 106 yX2_respects, Cond.instanceMethod yX2_respects, Cond.selects RX2 yX2_respects yX2_respects, Cond.code yX2_respects cX2_respects 4 (some .boolean), Cond.methodLink RX2 70 yX2_before, Cond.instanceMethod yX2_before, Cond.selects RX2 yX2_before yX2_before, Cond.code yX2_before cX2_before 3 (some .boolean), Cond.methodLink RX2 63 yX2_leads, Cond.instanceMethod yX2_leads, Cond.selects RX2 yX2_leads yX2_leads, Cond.code yX2_leads cX2_leads 5 (some .boolean), Cond.fieldLink RX2 25 "DefaultReasonerModel" "told" "[Z", Cond.methodLink RX2 110 yX2_walk]
def wsX2_share_r4 : List Cond := [Cond.instanceMethod yX2_walk, Cond.selects RX2 yX2_walk yX2_walk, Cond.code yX2_walk cX2_walk 5 (some .int), Cond.methodLink RX2 123 yX2_first, Cond.instanceMethod yX2_first, Cond.selects RX2 yX2_first yX2_first, Cond.code yX2_first cX2_first 5 (some .int)]
def wsX2_share : List Cond := .code yX2_share cX2_share 5 (some .double) :: ((wsX2_share_r1 ++ (wsX2_share_r2 ++ (wsX2_share_r3 ++ wsX2_share_r4))) ++ wsX20)
def wsX2_isOrder : List Cond := .code yX2_isOrder cX2_isOrder 2 (some .boolean) :: ([.fieldLink RX2 38 "DefaultReasonerModel" "thrown" "I", .methodLink RX2 98 yX2_orders, .instanceMethod yX2_orders, .selects RX2 yX2_orders yX2_orders, .initialized RX2, .code yX2_orders cX2_orders 3 (some .int), .fieldLink RX2 43 "DefaultReasonerModel" "defaults" "I"] ++ wsX20)
def wsX2_walk__r1 : List Cond := [Cond.arrayClass .int, Cond.fieldLink RX2 130 "DefaultReasonerModel" "applied" "I", Cond.fieldLink RX2 29 "DefaultReasonerModel" "path" "[I", Cond.methodLink RX2 127 yX2_isOrder, Cond.instanceMethod yX2_isOrder, Cond.selects RX2 yX2_isOrder yX2_isOrder, Cond.initialized RX2, Cond.code yX2_isOrder cX2_isOrder 2 (some .boolean), Cond.fieldLink RX2 38 "DefaultReasonerModel" "thrown" "I", Cond.methodLink RX2 98 yX2_orders, Cond.instanceMethod yX2_orders, Cond.selects RX2 yX2_orders yX2_orders, Cond.code yX2_orders cX2_orders 3 (some .int), Cond.fieldLink RX2 43 "DefaultReasonerModel" "defaults" "I", Cond.methodLink RX2 102 yX2_setOrder, Cond.instanceMethod yX2_setOrder, Cond.selects RX2 yX2_setOrder yX2_setOrder, Cond.code yX2_setOrder cX2_setOrder 9 none, Cond.arrayClass .boolean, Cond.methodLink RX2 110 yX2_walk, Cond.instanceMethod yX2_walk, Cond.selects RX2 yX2_walk yX2_walk, Cond.code yX2_walk cX2_walk 5 (some .int), Cond.fieldLink RX2 50 "DefaultReasonerModel" "facts" "I"]
def wsX2_walk__r2 : List Cond := [Cond.fieldLink RX2 22 "DefaultReasonerModel" "conclusions" "[I", Cond.methodLink RX2 77 yX2_close, Cond.instanceMethod yX2_close, Cond.selects RX2 yX2_close yX2_close, Cond.code yX2_close cX2_close 5 (some .int), Cond.fieldLink RX2 60 "DefaultReasonerModel" "rules" "I", Cond.fieldLink RX2 9 "DefaultReasonerModel" "bodies" "[I", Cond.fieldLink RX2 13 "DefaultReasonerModel" "heads" "[I", Cond.constant RX2 42 (65535), Cond.methodLink RX2 74 yX2_complements, Cond.static yX2_complements, Cond.code yX2_complements cX2_complements 1 (some .int), Cond.methodLink RX2 123 yX2_first, Cond.instanceMethod yX2_first, Cond.selects RX2 yX2_first yX2_first, Cond.code yX2_first cX2_first 5 (some .int), Cond.fieldLink RX2 16 "DefaultReasonerModel" "needs" "[I", Cond.methodLink RX2 83 yX2_open, Cond.instanceMethod yX2_open, Cond.selects RX2 yX2_open yX2_open, Cond.code yX2_open cX2_open 3 (some .boolean), Cond.fieldLink RX2 19 "DefaultReasonerModel" "justifications" "[I"]
def wsX2_walk_ : List Cond := .code yX2_walk_ cX2_walk_ 6 (some .int) :: ((wsX2_walk__r1 ++ wsX2_walk__r2) ++ wsX20)
def wsX2_appliedCount : List Cond := .code yX2_appliedCount cX2_appliedCount 1 (some .int) :: ([.fieldLink RX2 38 "DefaultReasonerModel" "thrown" "I", .fieldLink RX2 130 "DefaultReasonerModel" "applied" "I"] ++ wsX20)
def wsX2_applied : List Cond := .code yX2_applied cX2_applied 2 (some .int) :: ([.fieldLink RX2 38 "DefaultReasonerModel" "thrown" "I", .fieldLink RX2 130 "DefaultReasonerModel" "applied" "I", .fieldLink RX2 29 "DefaultReasonerModel" "path" "[I", .methodLink RX2 53 yX2_fail, .instanceMethod yX2_fail, .selects RX2 yX2_fail yX2_fail, .initialized RX2, .code yX2_fail cX2_fail 2 (some .int)] ++ wsX20)
def wsX2_respects__r1 : List Cond := [Cond.arrayClass .int, Cond.methodLink RX2 127 yX2_isOrder, Cond.instanceMethod yX2_isOrder, Cond.selects RX2 yX2_isOrder yX2_isOrder, Cond.initialized RX2, Cond.code yX2_isOrder cX2_isOrder 2 (some .boolean), Cond.fieldLink RX2 38 "DefaultReasonerModel" "thrown" "I", Cond.methodLink RX2 98 yX2_orders, Cond.instanceMethod yX2_orders, Cond.selects RX2 yX2_orders yX2_orders, Cond.code yX2_orders cX2_orders 3 (some .int), Cond.fieldLink RX2 43 "DefaultReasonerModel" "defaults" "I", Cond.methodLink RX2 102 yX2_setOrder, Cond.instanceMethod yX2_setOrder, Cond.selects RX2 yX2_setOrder yX2_setOrder, Cond.code yX2_setOrder cX2_setOrder 9 none, Cond.arrayClass .boolean, Cond.methodLink RX2 106 yX2_respects, Cond.instanceMethod yX2_respects, Cond.selects RX2 yX2_respects yX2_respects, Cond.code yX2_respects cX2_respects 4 (some .boolean), Cond.methodLink RX2 70 yX2_before, Cond.instanceMethod yX2_before, Cond.selects RX2 yX2_before yX2_before]
def wsX2_respects__r2 : List Cond := [Cond.code yX2_before cX2_before 3 (some .boolean), Cond.methodLink RX2 63 yX2_leads, Cond.instanceMethod yX2_leads, Cond.selects RX2 yX2_leads yX2_leads, Cond.code yX2_leads cX2_leads 5 (some .boolean), Cond.fieldLink RX2 25 "DefaultReasonerModel" "told" "[Z"]
def wsX2_respects_ : List Cond := .code yX2_respects_ cX2_respects_ 3 (some .boolean) :: ((wsX2_respects__r1 ++ wsX2_respects__r2) ++ wsX20)
def wsX2_digest : List Cond := .code yX2_digest cX2_digest 5 (some .long) :: ([.fieldLink RX2 38 "DefaultReasonerModel" "thrown" "I", .constantLong RX2 133 (3503), .fieldLink RX2 50 "DefaultReasonerModel" "facts" "I", .constantLong RX2 135 (31), .fieldLink RX2 60 "DefaultReasonerModel" "rules" "I", .fieldLink RX2 9 "DefaultReasonerModel" "bodies" "[I", .fieldLink RX2 13 "DefaultReasonerModel" "heads" "[I", .fieldLink RX2 43 "DefaultReasonerModel" "defaults" "I", .fieldLink RX2 16 "DefaultReasonerModel" "needs" "[I", .fieldLink RX2 19 "DefaultReasonerModel" "justifications" "[I", .fieldLink RX2 22 "DefaultReasonerModel" "conclusions" "[I", .fieldLink RX2 130 "DefaultReasonerModel" "applied" "I", .fieldLink RX2 29 "DefaultReasonerModel" "path" "[I", .methodLink RX2 70 yX2_before, .instanceMethod yX2_before, .selects RX2 yX2_before yX2_before, .initialized RX2, .code yX2_before cX2_before 3 (some .boolean), .methodLink RX2 63 yX2_leads, .instanceMethod yX2_leads, .selects RX2 yX2_leads yX2_leads, .code yX2_leads cX2_leads 5 (some .boolean), .fieldLink RX2 25 "DefaultReasonerModel" "told" "[Z"] ++ wsX20)
def wsL_setFact : List Cond := .codeWith yL_setFact cL_setFact 5 (some .int) [(0, 17, 20, 13)] :: ([.classLink RL 13 "java/lang/IndexOutOfBoundsException", .methodLink RL 7 yX1_setFact, .instanceMethod yX1_setFact, .selects RX1 yX1_setFact yX1_setFact, .initialized RX1, .code yX1_setFact cX1_setFact 4 (some .boolean), .fieldLink RX1 55 "DefaultReasoner" "factSet" "I", .methodLink RX1 51 yX1_checkLiteral, .static yX1_checkLiteral, .code yX1_checkLiteral cX1_checkLiteral 1 none, .classLink RX1 155 "java/lang/IndexOutOfBoundsException", .initialized "java/lang/IndexOutOfBoundsException", .methodLink RX1 59 yX1_has, .static yX1_has, .code yX1_has cX1_has 2 (some .boolean), .methodLink RX1 63 yX1_forgetFindings, .instanceMethod yX1_forgetFindings, .selects RX1 yX1_forgetFindings yX1_forgetFindings, .code yX1_forgetFindings cX1_forgetFindings 1 none, .fieldLink RX1 191 "DefaultReasoner" "extensionsKnown" "Z", .fieldLink RX1 106 "DefaultReasoner" "preferredKnown" "Z"] ++ wsX10 ++ (vx_atS RX1 159 "java/lang/IndexOutOfBoundsException" ["java/lang/RuntimeException", "java/lang/Exception"]).filter goodWord)
def wsL_addRule_r1 : List Cond := [Cond.classLink RL 13 "java/lang/IndexOutOfBoundsException", Cond.classLink RL 19 "java/lang/IllegalArgumentException", Cond.classLink RL 21 "java/lang/IllegalStateException", Cond.methodLink RL 15 yX1_addRule, Cond.instanceMethod yX1_addRule, Cond.selects RX1 yX1_addRule yX1_addRule, Cond.initialized RX1, Cond.code yX1_addRule cX1_addRule 4 (some .int), Cond.classLink RX1 72 "java/lang/IllegalStateException", Cond.initialized "java/lang/IllegalStateException", Cond.fieldLink RX1 69 "DefaultReasoner" "ruleTotal" "I", Cond.fieldLink RX1 9 "DefaultReasoner" "bodies" "[I", Cond.fieldLink RX1 13 "DefaultReasoner" "heads" "[I", Cond.methodLink RX1 51 yX1_checkLiteral, Cond.static yX1_checkLiteral, Cond.code yX1_checkLiteral cX1_checkLiteral 1 none, Cond.classLink RX1 155 "java/lang/IndexOutOfBoundsException", Cond.initialized "java/lang/IndexOutOfBoundsException", Cond.methodLink RX1 66 yX1_checkSet, Cond.static yX1_checkSet, Cond.code yX1_checkSet cX1_checkSet 1 none, Cond.classLink RX1 97 "java/lang/IllegalArgumentException", Cond.initialized "java/lang/IllegalArgumentException", Cond.constant RX1 142 (65535)]
def wsL_addRule_r2 : List Cond := [Cond.methodLink RX1 63 yX1_forgetFindings, Cond.instanceMethod yX1_forgetFindings, Cond.selects RX1 yX1_forgetFindings yX1_forgetFindings, Cond.code yX1_forgetFindings cX1_forgetFindings 1 none, Cond.fieldLink RX1 191 "DefaultReasoner" "extensionsKnown" "Z", Cond.fieldLink RX1 106 "DefaultReasoner" "preferredKnown" "Z"]
def wsL_addRule : List Cond := .codeWith yL_addRule cL_addRule 5 (some .int) [(0, 10, 13, 13), (0, 10, 17, 19), (0, 10, 21, 21)] :: ((wsL_addRule_r1 ++ wsL_addRule_r2) ++ wsX10 ++ (vx_atS RX1 76 "java/lang/IllegalStateException" ["java/lang/RuntimeException", "java/lang/Exception"]).filter goodWord ++ (vx_atS RX1 159 "java/lang/IndexOutOfBoundsException" ["java/lang/RuntimeException", "java/lang/Exception"]).filter goodWord ++ (vx_atS RX1 101 "java/lang/IllegalArgumentException" ["java/lang/RuntimeException", "java/lang/Exception"]).filter goodWord)
def wsL_addDefault_r1 : List Cond := [Cond.classLink RL 13 "java/lang/IndexOutOfBoundsException", Cond.classLink RL 19 "java/lang/IllegalArgumentException", Cond.classLink RL 21 "java/lang/IllegalStateException", Cond.methodLink RL 23 yX1_addDefault, Cond.instanceMethod yX1_addDefault, Cond.selects RX1 yX1_addDefault yX1_addDefault, Cond.initialized RX1, Cond.code yX1_addDefault cX1_addDefault 5 (some .int), Cond.classLink RX1 72 "java/lang/IllegalStateException", Cond.initialized "java/lang/IllegalStateException", Cond.fieldLink RX1 79 "DefaultReasoner" "defaultTotal" "I", Cond.fieldLink RX1 16 "DefaultReasoner" "prerequisites" "[I", Cond.fieldLink RX1 19 "DefaultReasoner" "justifications" "[I", Cond.fieldLink RX1 22 "DefaultReasoner" "conclusions" "[I", Cond.methodLink RX1 51 yX1_checkLiteral, Cond.static yX1_checkLiteral, Cond.code yX1_checkLiteral cX1_checkLiteral 1 none, Cond.classLink RX1 155 "java/lang/IndexOutOfBoundsException", Cond.initialized "java/lang/IndexOutOfBoundsException", Cond.methodLink RX1 66 yX1_checkSet, Cond.static yX1_checkSet, Cond.code yX1_checkSet cX1_checkSet 1 none, Cond.classLink RX1 97 "java/lang/IllegalArgumentException", Cond.initialized "java/lang/IllegalArgumentException"]
def wsL_addDefault_r2 : List Cond := [Cond.constant RX1 142 (65535), Cond.methodLink RX1 63 yX1_forgetFindings, Cond.instanceMethod yX1_forgetFindings, Cond.selects RX1 yX1_forgetFindings yX1_forgetFindings, Cond.code yX1_forgetFindings cX1_forgetFindings 1 none, Cond.fieldLink RX1 191 "DefaultReasoner" "extensionsKnown" "Z", Cond.fieldLink RX1 106 "DefaultReasoner" "preferredKnown" "Z"]
def wsL_addDefault : List Cond := .codeWith yL_addDefault cL_addDefault 6 (some .int) [(0, 12, 15, 13), (0, 12, 19, 19), (0, 12, 23, 21)] :: ((wsL_addDefault_r1 ++ wsL_addDefault_r2) ++ wsX10 ++ (vx_atS RX1 76 "java/lang/IllegalStateException" ["java/lang/RuntimeException", "java/lang/Exception"]).filter goodWord ++ (vx_atS RX1 159 "java/lang/IndexOutOfBoundsException" ["java/lang/RuntimeException", "java/lang/Exception"]).filter goodWord ++ (vx_atS RX1 101 "java/lang/IllegalArgumentException" ["java/lang/RuntimeException", "java/lang/Exception"]).filter goodWord)
def wsL_dropRule : List Cond := .codeWith yL_dropRule cL_dropRule 3 (some .int) [(0, 8, 11, 21)] :: ([.classLink RL 21 "java/lang/IllegalStateException", .methodLink RL 27 yX1_dropRule, .instanceMethod yX1_dropRule, .selects RX1 yX1_dropRule yX1_dropRule, .initialized RX1, .code yX1_dropRule cX1_dropRule 1 (some .int), .classLink RX1 72 "java/lang/IllegalStateException", .initialized "java/lang/IllegalStateException", .fieldLink RX1 69 "DefaultReasoner" "ruleTotal" "I", .methodLink RX1 63 yX1_forgetFindings, .instanceMethod yX1_forgetFindings, .selects RX1 yX1_forgetFindings yX1_forgetFindings, .code yX1_forgetFindings cX1_forgetFindings 1 none, .fieldLink RX1 191 "DefaultReasoner" "extensionsKnown" "Z", .fieldLink RX1 106 "DefaultReasoner" "preferredKnown" "Z"] ++ wsX10 ++ (vx_atS RX1 76 "java/lang/IllegalStateException" ["java/lang/RuntimeException", "java/lang/Exception"]).filter goodWord)
def wsL_dropDefault_r1 : List Cond := [Cond.classLink RL 21 "java/lang/IllegalStateException", Cond.methodLink RL 31 yX1_dropDefault, Cond.instanceMethod yX1_dropDefault, Cond.selects RX1 yX1_dropDefault yX1_dropDefault, Cond.initialized RX1, Cond.code yX1_dropDefault cX1_dropDefault 1 (some .int), Cond.classLink RX1 72 "java/lang/IllegalStateException", Cond.initialized "java/lang/IllegalStateException", Cond.fieldLink RX1 79 "DefaultReasoner" "defaultTotal" "I", Cond.fieldLink RX1 28 "DefaultReasoner" "priorities" "LDefaultReasoner$Priorities;", Cond.instanceMethod yX0_removeAllWith, Cond.initialized RX0, Cond.selects RX0 yX0_removeAllWith yX0_removeAllWith, Cond.code yX0_removeAllWith cX0_removeAllWith 3 none, Cond.fieldLink RX0 9 "DefaultReasoner$Priorities" "given" "[I", Cond.methodLink RX0 22 yX0_followChains, Cond.instanceMethod yX0_followChains, Cond.selects RX0 yX0_followChains yX0_followChains, Cond.code yX0_followChains cX0_followChains 3 none, Cond.fieldLink RX0 15 "DefaultReasoner$Priorities" "reached" "[I", Cond.static yX1_has, Cond.code yX1_has cX1_has 2 (some .boolean), Cond.methodLink RX1 63 yX1_forgetFindings, Cond.instanceMethod yX1_forgetFindings]
def wsL_dropDefault_r2 : List Cond := [Cond.selects RX1 yX1_forgetFindings yX1_forgetFindings, Cond.code yX1_forgetFindings cX1_forgetFindings 1 none, Cond.fieldLink RX1 191 "DefaultReasoner" "extensionsKnown" "Z", Cond.fieldLink RX1 106 "DefaultReasoner" "preferredKnown" "Z"]
def wsL_dropDefault : List Cond := .codeWith yL_dropDefault cL_dropDefault 3 (some .int) [(0, 8, 11, 21)] :: ((wsL_dropDefault_r1 ++ wsL_dropDefault_r2) ++ wsX10 ++ wsX00 ++ (vx_atS RX1 76 "java/lang/IllegalStateException" ["java/lang/RuntimeException", "java/lang/Exception"]).filter goodWord)
def wsL_prefer_r1 : List Cond := [Cond.classLink RL 13 "java/lang/IndexOutOfBoundsException", Cond.classLink RL 19 "java/lang/IllegalArgumentException", Cond.methodLink RL 34 yX1_prefer, Cond.instanceMethod yX1_prefer, Cond.selects RX1 yX1_prefer yX1_prefer, Cond.initialized RX1, Cond.code yX1_prefer cX1_prefer 4 (some .boolean), Cond.classLink RX1 97 "java/lang/IllegalArgumentException", Cond.initialized "java/lang/IllegalArgumentException", Cond.fieldLink RX1 28 "DefaultReasoner" "priorities" "LDefaultReasoner$Priorities;", Cond.fieldLink RX1 106 "DefaultReasoner" "preferredKnown" "Z", Cond.methodLink RX1 91 yX1_checkDefault, Cond.instanceMethod yX1_checkDefault, Cond.selects RX1 yX1_checkDefault yX1_checkDefault, Cond.code yX1_checkDefault cX1_checkDefault 2 none, Cond.classLink RX1 155 "java/lang/IndexOutOfBoundsException", Cond.initialized "java/lang/IndexOutOfBoundsException", Cond.fieldLink RX1 79 "DefaultReasoner" "defaultTotal" "I", Cond.instanceMethod yX0_comesBefore, Cond.initialized RX0, Cond.selects RX0 yX0_comesBefore yX0_comesBefore, Cond.code yX0_comesBefore cX0_comesBefore 3 (some .boolean), Cond.fieldLink RX0 15 "DefaultReasoner$Priorities" "reached" "[I", Cond.static yX1_has]
def wsL_prefer_r2 : List Cond := [Cond.code yX1_has cX1_has 2 (some .boolean), Cond.instanceMethod yX0_put, Cond.selects RX0 yX0_put yX0_put, Cond.code yX0_put cX0_put 3 none, Cond.fieldLink RX0 9 "DefaultReasoner$Priorities" "given" "[I", Cond.methodLink RX0 22 yX0_followChains, Cond.instanceMethod yX0_followChains, Cond.selects RX0 yX0_followChains yX0_followChains, Cond.code yX0_followChains cX0_followChains 3 none]
def wsL_prefer : List Cond := .codeWith yL_prefer cL_prefer 5 (some .int) [(0, 17, 20, 13), (0, 17, 24, 19)] :: ((wsL_prefer_r1 ++ wsL_prefer_r2) ++ wsX10 ++ wsX00 ++ (vx_atS RX1 101 "java/lang/IllegalArgumentException" ["java/lang/RuntimeException", "java/lang/Exception"]).filter goodWord ++ (vx_atS RX1 159 "java/lang/IndexOutOfBoundsException" ["java/lang/RuntimeException", "java/lang/Exception"]).filter goodWord)
def wsL_isBefore : List Cond := .codeWith yL_isBefore cL_isBefore 5 (some .int) [(0, 17, 20, 13)] :: ([.classLink RL 13 "java/lang/IndexOutOfBoundsException", .methodLink RL 38 yX1_isBefore, .instanceMethod yX1_isBefore, .selects RX1 yX1_isBefore yX1_isBefore, .initialized RX1, .code yX1_isBefore cX1_isBefore 3 (some .boolean), .fieldLink RX1 28 "DefaultReasoner" "priorities" "LDefaultReasoner$Priorities;", .methodLink RX1 91 yX1_checkDefault, .instanceMethod yX1_checkDefault, .selects RX1 yX1_checkDefault yX1_checkDefault, .code yX1_checkDefault cX1_checkDefault 2 none, .classLink RX1 155 "java/lang/IndexOutOfBoundsException", .initialized "java/lang/IndexOutOfBoundsException", .fieldLink RX1 79 "DefaultReasoner" "defaultTotal" "I", .instanceMethod yX0_comesBefore, .initialized RX0, .selects RX0 yX0_comesBefore yX0_comesBefore, .code yX0_comesBefore cX0_comesBefore 3 (some .boolean), .fieldLink RX0 15 "DefaultReasoner$Priorities" "reached" "[I", .static yX1_has, .code yX1_has cX1_has 2 (some .boolean)] ++ wsX10 ++ wsX00 ++ (vx_atS RX1 159 "java/lang/IndexOutOfBoundsException" ["java/lang/RuntimeException", "java/lang/Exception"]).filter goodWord)
def wsL_closure_r1 : List Cond := [Cond.classLink RL 19 "java/lang/IllegalArgumentException", Cond.methodLink RL 41 yX1_closure, Cond.instanceMethod yX1_closure, Cond.selects RX1 yX1_closure yX1_closure, Cond.initialized RX1, Cond.code yX1_closure cX1_closure 2 (some .int), Cond.methodLink RX1 66 yX1_checkSet, Cond.static yX1_checkSet, Cond.code yX1_checkSet cX1_checkSet 1 none, Cond.classLink RX1 97 "java/lang/IllegalArgumentException", Cond.initialized "java/lang/IllegalArgumentException", Cond.constant RX1 142 (65535), Cond.methodLink RX1 117 yX1_closeUp, Cond.instanceMethod yX1_closeUp, Cond.selects RX1 yX1_closeUp yX1_closeUp, Cond.code yX1_closeUp cX1_closeUp 6 (some .int), Cond.fieldLink RX1 69 "DefaultReasoner" "ruleTotal" "I", Cond.fieldLink RX1 9 "DefaultReasoner" "bodies" "[I", Cond.fieldLink RX1 13 "DefaultReasoner" "heads" "[I", Cond.methodLink RX1 185 yX1_contains, Cond.static yX1_contains, Cond.code yX1_contains cX1_contains 2 (some .boolean), Cond.methodLink RX1 188 yX1_complements, Cond.static yX1_complements]
def wsL_closure_r2 : List Cond := [Cond.code yX1_complements cX1_complements 1 (some .int)]
def wsL_closure : List Cond := .codeWith yL_closure cL_closure 4 (some .int) [(0, 9, 12, 19)] :: ((wsL_closure_r1 ++ wsL_closure_r2) ++ wsX10 ++ (vx_atS RX1 101 "java/lang/IllegalArgumentException" ["java/lang/RuntimeException", "java/lang/Exception"]).filter goodWord)
def wsL_isOpen_r1 : List Cond := [Cond.classLink RL 13 "java/lang/IndexOutOfBoundsException", Cond.classLink RL 19 "java/lang/IllegalArgumentException", Cond.methodLink RL 45 yX1_isOpen, Cond.instanceMethod yX1_isOpen, Cond.selects RX1 yX1_isOpen yX1_isOpen, Cond.initialized RX1, Cond.code yX1_isOpen cX1_isOpen 3 (some .boolean), Cond.methodLink RX1 91 yX1_checkDefault, Cond.instanceMethod yX1_checkDefault, Cond.selects RX1 yX1_checkDefault yX1_checkDefault, Cond.code yX1_checkDefault cX1_checkDefault 2 none, Cond.classLink RX1 155 "java/lang/IndexOutOfBoundsException", Cond.initialized "java/lang/IndexOutOfBoundsException", Cond.fieldLink RX1 79 "DefaultReasoner" "defaultTotal" "I", Cond.methodLink RX1 66 yX1_checkSet, Cond.static yX1_checkSet, Cond.code yX1_checkSet cX1_checkSet 1 none, Cond.classLink RX1 97 "java/lang/IllegalArgumentException", Cond.initialized "java/lang/IllegalArgumentException", Cond.constant RX1 142 (65535), Cond.methodLink RX1 121 yX1_opens, Cond.instanceMethod yX1_opens, Cond.selects RX1 yX1_opens yX1_opens, Cond.code yX1_opens cX1_opens 3 (some .boolean)]
def wsL_isOpen_r2 : List Cond := [Cond.fieldLink RX1 19 "DefaultReasoner" "justifications" "[I", Cond.methodLink RX1 188 yX1_complements, Cond.static yX1_complements, Cond.code yX1_complements cX1_complements 1 (some .int)]
def wsL_isOpen : List Cond := .codeWith yL_isOpen cL_isOpen 5 (some .int) [(0, 17, 20, 13), (0, 17, 24, 19)] :: ((wsL_isOpen_r1 ++ wsL_isOpen_r2) ++ wsX10 ++ (vx_atS RX1 159 "java/lang/IndexOutOfBoundsException" ["java/lang/RuntimeException", "java/lang/Exception"]).filter goodWord ++ (vx_atS RX1 101 "java/lang/IllegalArgumentException" ["java/lang/RuntimeException", "java/lang/Exception"]).filter goodWord)
def wsL_generatorsOf_r1 : List Cond := [Cond.classLink RL 19 "java/lang/IllegalArgumentException", Cond.methodLink RL 48 yX1_generatorsOf, Cond.instanceMethod yX1_generatorsOf, Cond.selects RX1 yX1_generatorsOf yX1_generatorsOf, Cond.initialized RX1, Cond.code yX1_generatorsOf cX1_generatorsOf 2 (some .int), Cond.methodLink RX1 66 yX1_checkSet, Cond.static yX1_checkSet, Cond.code yX1_checkSet cX1_checkSet 1 none, Cond.classLink RX1 97 "java/lang/IllegalArgumentException", Cond.initialized "java/lang/IllegalArgumentException", Cond.constant RX1 142 (65535), Cond.methodLink RX1 124 yX1_findExtensions, Cond.instanceMethod yX1_findExtensions, Cond.selects RX1 yX1_findExtensions yX1_findExtensions, Cond.code yX1_findExtensions cX1_findExtensions 3 none, Cond.fieldLink RX1 191 "DefaultReasoner" "extensionsKnown" "Z", Cond.fieldLink RX1 79 "DefaultReasoner" "defaultTotal" "I", Cond.fieldLink RX1 38 "DefaultReasoner" "held" "[I", Cond.fieldLink RX1 55 "DefaultReasoner" "factSet" "I", Cond.fieldLink RX1 41 "DefaultReasoner" "usable" "[I", Cond.fieldLink RX1 130 "DefaultReasoner" "extensionTotal" "I", Cond.methodLink RX1 194 yX1_conclusionsOf, Cond.instanceMethod yX1_conclusionsOf]
def wsL_generatorsOf_r2 : List Cond := [Cond.selects RX1 yX1_conclusionsOf yX1_conclusionsOf, Cond.code yX1_conclusionsOf cX1_conclusionsOf 4 (some .int), Cond.fieldLink RX1 22 "DefaultReasoner" "conclusions" "[I", Cond.methodLink RX1 59 yX1_has, Cond.static yX1_has, Cond.code yX1_has cX1_has 2 (some .boolean), Cond.methodLink RX1 117 yX1_closeUp, Cond.instanceMethod yX1_closeUp, Cond.selects RX1 yX1_closeUp yX1_closeUp, Cond.code yX1_closeUp cX1_closeUp 6 (some .int), Cond.fieldLink RX1 69 "DefaultReasoner" "ruleTotal" "I", Cond.fieldLink RX1 9 "DefaultReasoner" "bodies" "[I", Cond.fieldLink RX1 13 "DefaultReasoner" "heads" "[I", Cond.methodLink RX1 185 yX1_contains, Cond.static yX1_contains, Cond.code yX1_contains cX1_contains 2 (some .boolean), Cond.methodLink RX1 188 yX1_complements, Cond.static yX1_complements, Cond.code yX1_complements cX1_complements 1 (some .int), Cond.methodLink RX1 197 yX1_usableFor, Cond.instanceMethod yX1_usableFor, Cond.selects RX1 yX1_usableFor yX1_usableFor, Cond.code yX1_usableFor cX1_usableFor 4 (some .int), Cond.fieldLink RX1 16 "DefaultReasoner" "prerequisites" "[I"]
def wsL_generatorsOf_r3 : List Cond := [Cond.methodLink RX1 121 yX1_opens, Cond.instanceMethod yX1_opens, Cond.selects RX1 yX1_opens yX1_opens, Cond.code yX1_opens cX1_opens 3 (some .boolean), Cond.fieldLink RX1 19 "DefaultReasoner" "justifications" "[I", Cond.methodLink RX1 127 yX1_generatorsFor, Cond.instanceMethod yX1_generatorsFor, Cond.selects RX1 yX1_generatorsFor yX1_generatorsFor, Cond.code yX1_generatorsFor cX1_generatorsFor 6 (some .int), Cond.methodLink RX1 200 yX1_insertExtension, Cond.instanceMethod yX1_insertExtension, Cond.selects RX1 yX1_insertExtension yX1_insertExtension, Cond.code yX1_insertExtension cX1_insertExtension 3 none, Cond.fieldLink RX1 44 "DefaultReasoner" "extensions" "[I"]
def wsL_generatorsOf : List Cond := .codeWith yL_generatorsOf cL_generatorsOf 4 (some .int) [(0, 9, 12, 19)] :: ((wsL_generatorsOf_r1 ++ (wsL_generatorsOf_r2 ++ wsL_generatorsOf_r3)) ++ wsX10 ++ (vx_atS RX1 101 "java/lang/IllegalArgumentException" ["java/lang/RuntimeException", "java/lang/Exception"]).filter goodWord)
def wsL_isExtension_r1 : List Cond := [Cond.classLink RL 19 "java/lang/IllegalArgumentException", Cond.methodLink RL 51 yX1_isExtension, Cond.instanceMethod yX1_isExtension, Cond.selects RX1 yX1_isExtension yX1_isExtension, Cond.initialized RX1, Cond.code yX1_isExtension cX1_isExtension 2 (some .boolean), Cond.fieldLink RX1 38 "DefaultReasoner" "held" "[I", Cond.methodLink RX1 66 yX1_checkSet, Cond.static yX1_checkSet, Cond.code yX1_checkSet cX1_checkSet 1 none, Cond.classLink RX1 97 "java/lang/IllegalArgumentException", Cond.initialized "java/lang/IllegalArgumentException", Cond.constant RX1 142 (65535), Cond.methodLink RX1 124 yX1_findExtensions, Cond.instanceMethod yX1_findExtensions, Cond.selects RX1 yX1_findExtensions yX1_findExtensions, Cond.code yX1_findExtensions cX1_findExtensions 3 none, Cond.fieldLink RX1 191 "DefaultReasoner" "extensionsKnown" "Z", Cond.fieldLink RX1 79 "DefaultReasoner" "defaultTotal" "I", Cond.fieldLink RX1 55 "DefaultReasoner" "factSet" "I", Cond.fieldLink RX1 41 "DefaultReasoner" "usable" "[I", Cond.fieldLink RX1 130 "DefaultReasoner" "extensionTotal" "I", Cond.methodLink RX1 194 yX1_conclusionsOf, Cond.instanceMethod yX1_conclusionsOf]
def wsL_isExtension_r2 : List Cond := [Cond.selects RX1 yX1_conclusionsOf yX1_conclusionsOf, Cond.code yX1_conclusionsOf cX1_conclusionsOf 4 (some .int), Cond.fieldLink RX1 22 "DefaultReasoner" "conclusions" "[I", Cond.methodLink RX1 59 yX1_has, Cond.static yX1_has, Cond.code yX1_has cX1_has 2 (some .boolean), Cond.methodLink RX1 117 yX1_closeUp, Cond.instanceMethod yX1_closeUp, Cond.selects RX1 yX1_closeUp yX1_closeUp, Cond.code yX1_closeUp cX1_closeUp 6 (some .int), Cond.fieldLink RX1 69 "DefaultReasoner" "ruleTotal" "I", Cond.fieldLink RX1 9 "DefaultReasoner" "bodies" "[I", Cond.fieldLink RX1 13 "DefaultReasoner" "heads" "[I", Cond.methodLink RX1 185 yX1_contains, Cond.static yX1_contains, Cond.code yX1_contains cX1_contains 2 (some .boolean), Cond.methodLink RX1 188 yX1_complements, Cond.static yX1_complements, Cond.code yX1_complements cX1_complements 1 (some .int), Cond.methodLink RX1 197 yX1_usableFor, Cond.instanceMethod yX1_usableFor, Cond.selects RX1 yX1_usableFor yX1_usableFor, Cond.code yX1_usableFor cX1_usableFor 4 (some .int), Cond.fieldLink RX1 16 "DefaultReasoner" "prerequisites" "[I"]
def wsL_isExtension_r3 : List Cond := [Cond.methodLink RX1 121 yX1_opens, Cond.instanceMethod yX1_opens, Cond.selects RX1 yX1_opens yX1_opens, Cond.code yX1_opens cX1_opens 3 (some .boolean), Cond.fieldLink RX1 19 "DefaultReasoner" "justifications" "[I", Cond.methodLink RX1 127 yX1_generatorsFor, Cond.instanceMethod yX1_generatorsFor, Cond.selects RX1 yX1_generatorsFor yX1_generatorsFor, Cond.code yX1_generatorsFor cX1_generatorsFor 6 (some .int), Cond.methodLink RX1 200 yX1_insertExtension, Cond.instanceMethod yX1_insertExtension, Cond.selects RX1 yX1_insertExtension yX1_insertExtension, Cond.code yX1_insertExtension cX1_insertExtension 3 none, Cond.fieldLink RX1 44 "DefaultReasoner" "extensions" "[I"]
def wsL_isExtension : List Cond := .codeWith yL_isExtension cL_isExtension 4 (some .int) [(0, 16, 19, 19)] :: ((wsL_isExtension_r1 ++ (wsL_isExtension_r2 ++ wsL_isExtension_r3)) ++ wsX10 ++ (vx_atS RX1 101 "java/lang/IllegalArgumentException" ["java/lang/RuntimeException", "java/lang/Exception"]).filter goodWord)
def wsL_extension_r1 : List Cond := [Cond.classLink RL 13 "java/lang/IndexOutOfBoundsException", Cond.methodLink RL 55 yX1_extension, Cond.instanceMethod yX1_extension, Cond.selects RX1 yX1_extension yX1_extension, Cond.initialized RX1, Cond.code yX1_extension cX1_extension 2 (some .int), Cond.fieldLink RX1 44 "DefaultReasoner" "extensions" "[I", Cond.methodLink RX1 124 yX1_findExtensions, Cond.instanceMethod yX1_findExtensions, Cond.selects RX1 yX1_findExtensions yX1_findExtensions, Cond.code yX1_findExtensions cX1_findExtensions 3 none, Cond.fieldLink RX1 191 "DefaultReasoner" "extensionsKnown" "Z", Cond.fieldLink RX1 79 "DefaultReasoner" "defaultTotal" "I", Cond.fieldLink RX1 38 "DefaultReasoner" "held" "[I", Cond.fieldLink RX1 55 "DefaultReasoner" "factSet" "I", Cond.fieldLink RX1 41 "DefaultReasoner" "usable" "[I", Cond.fieldLink RX1 130 "DefaultReasoner" "extensionTotal" "I", Cond.methodLink RX1 194 yX1_conclusionsOf, Cond.instanceMethod yX1_conclusionsOf, Cond.selects RX1 yX1_conclusionsOf yX1_conclusionsOf, Cond.code yX1_conclusionsOf cX1_conclusionsOf 4 (some .int), Cond.fieldLink RX1 22 "DefaultReasoner" "conclusions" "[I", Cond.methodLink RX1 59 yX1_has, Cond.static yX1_has]
def wsL_extension_r2 : List Cond := [Cond.code yX1_has cX1_has 2 (some .boolean), Cond.methodLink RX1 117 yX1_closeUp, Cond.instanceMethod yX1_closeUp, Cond.selects RX1 yX1_closeUp yX1_closeUp, Cond.code yX1_closeUp cX1_closeUp 6 (some .int), Cond.fieldLink RX1 69 "DefaultReasoner" "ruleTotal" "I", Cond.fieldLink RX1 9 "DefaultReasoner" "bodies" "[I", Cond.fieldLink RX1 13 "DefaultReasoner" "heads" "[I", Cond.constant RX1 142 (65535), Cond.methodLink RX1 185 yX1_contains, Cond.static yX1_contains, Cond.code yX1_contains cX1_contains 2 (some .boolean), Cond.methodLink RX1 188 yX1_complements, Cond.static yX1_complements, Cond.code yX1_complements cX1_complements 1 (some .int), Cond.methodLink RX1 197 yX1_usableFor, Cond.instanceMethod yX1_usableFor, Cond.selects RX1 yX1_usableFor yX1_usableFor, Cond.code yX1_usableFor cX1_usableFor 4 (some .int), Cond.fieldLink RX1 16 "DefaultReasoner" "prerequisites" "[I", Cond.methodLink RX1 121 yX1_opens, Cond.instanceMethod yX1_opens, Cond.selects RX1 yX1_opens yX1_opens, Cond.code yX1_opens cX1_opens 3 (some .boolean)]
def wsL_extension_r3 : List Cond := [Cond.fieldLink RX1 19 "DefaultReasoner" "justifications" "[I", Cond.methodLink RX1 127 yX1_generatorsFor, Cond.instanceMethod yX1_generatorsFor, Cond.selects RX1 yX1_generatorsFor yX1_generatorsFor, Cond.code yX1_generatorsFor cX1_generatorsFor 6 (some .int), Cond.methodLink RX1 200 yX1_insertExtension, Cond.instanceMethod yX1_insertExtension, Cond.selects RX1 yX1_insertExtension yX1_insertExtension, Cond.code yX1_insertExtension cX1_insertExtension 3 none, Cond.methodLink RX1 133 yX1_checkExtension, Cond.instanceMethod yX1_checkExtension, Cond.selects RX1 yX1_checkExtension yX1_checkExtension, Cond.code yX1_checkExtension cX1_checkExtension 2 none, Cond.classLink RX1 155 "java/lang/IndexOutOfBoundsException", Cond.initialized "java/lang/IndexOutOfBoundsException"]
def wsL_extension : List Cond := .codeWith yL_extension cL_extension 4 (some .int) [(0, 9, 12, 13)] :: ((wsL_extension_r1 ++ (wsL_extension_r2 ++ wsL_extension_r3)) ++ wsX10 ++ (vx_atS RX1 159 "java/lang/IndexOutOfBoundsException" ["java/lang/RuntimeException", "java/lang/Exception"]).filter goodWord)
def wsL_isPreferred_r1 : List Cond := [Cond.classLink RL 13 "java/lang/IndexOutOfBoundsException", Cond.methodLink RL 58 yX1_isPreferred, Cond.instanceMethod yX1_isPreferred, Cond.selects RX1 yX1_isPreferred yX1_isPreferred, Cond.initialized RX1, Cond.code yX1_isPreferred cX1_isPreferred 2 (some .boolean), Cond.fieldLink RX1 47 "DefaultReasoner" "preferred" "[Z", Cond.methodLink RX1 136 yX1_findPreferred, Cond.instanceMethod yX1_findPreferred, Cond.selects RX1 yX1_findPreferred yX1_findPreferred, Cond.code yX1_findPreferred cX1_findPreferred 3 none, Cond.fieldLink RX1 106 "DefaultReasoner" "preferredKnown" "Z", Cond.fieldLink RX1 130 "DefaultReasoner" "extensionTotal" "I", Cond.fieldLink RX1 139 "DefaultReasoner" "preferredTotal" "I", Cond.fieldLink RX1 178 "DefaultReasoner" "ORDERS" "[I", Cond.fieldLink RX1 79 "DefaultReasoner" "defaultTotal" "I", Cond.methodLink RX1 124 yX1_findExtensions, Cond.instanceMethod yX1_findExtensions, Cond.selects RX1 yX1_findExtensions yX1_findExtensions, Cond.code yX1_findExtensions cX1_findExtensions 3 none, Cond.fieldLink RX1 191 "DefaultReasoner" "extensionsKnown" "Z", Cond.fieldLink RX1 38 "DefaultReasoner" "held" "[I", Cond.fieldLink RX1 55 "DefaultReasoner" "factSet" "I", Cond.fieldLink RX1 41 "DefaultReasoner" "usable" "[I"]
def wsL_isPreferred_r2 : List Cond := [Cond.methodLink RX1 194 yX1_conclusionsOf, Cond.instanceMethod yX1_conclusionsOf, Cond.selects RX1 yX1_conclusionsOf yX1_conclusionsOf, Cond.code yX1_conclusionsOf cX1_conclusionsOf 4 (some .int), Cond.fieldLink RX1 22 "DefaultReasoner" "conclusions" "[I", Cond.methodLink RX1 59 yX1_has, Cond.static yX1_has, Cond.code yX1_has cX1_has 2 (some .boolean), Cond.methodLink RX1 117 yX1_closeUp, Cond.instanceMethod yX1_closeUp, Cond.selects RX1 yX1_closeUp yX1_closeUp, Cond.code yX1_closeUp cX1_closeUp 6 (some .int), Cond.fieldLink RX1 69 "DefaultReasoner" "ruleTotal" "I", Cond.fieldLink RX1 9 "DefaultReasoner" "bodies" "[I", Cond.fieldLink RX1 13 "DefaultReasoner" "heads" "[I", Cond.constant RX1 142 (65535), Cond.methodLink RX1 185 yX1_contains, Cond.static yX1_contains, Cond.code yX1_contains cX1_contains 2 (some .boolean), Cond.methodLink RX1 188 yX1_complements, Cond.static yX1_complements, Cond.code yX1_complements cX1_complements 1 (some .int), Cond.methodLink RX1 197 yX1_usableFor, Cond.instanceMethod yX1_usableFor]
def wsL_isPreferred_r3 : List Cond := [Cond.selects RX1 yX1_usableFor yX1_usableFor, Cond.code yX1_usableFor cX1_usableFor 4 (some .int), Cond.fieldLink RX1 16 "DefaultReasoner" "prerequisites" "[I", Cond.methodLink RX1 121 yX1_opens, Cond.instanceMethod yX1_opens, Cond.selects RX1 yX1_opens yX1_opens, Cond.code yX1_opens cX1_opens 3 (some .boolean), Cond.fieldLink RX1 19 "DefaultReasoner" "justifications" "[I", Cond.methodLink RX1 127 yX1_generatorsFor, Cond.instanceMethod yX1_generatorsFor, Cond.selects RX1 yX1_generatorsFor yX1_generatorsFor, Cond.code yX1_generatorsFor cX1_generatorsFor 6 (some .int), Cond.methodLink RX1 200 yX1_insertExtension, Cond.instanceMethod yX1_insertExtension, Cond.selects RX1 yX1_insertExtension yX1_insertExtension, Cond.code yX1_insertExtension cX1_insertExtension 3 none, Cond.fieldLink RX1 44 "DefaultReasoner" "extensions" "[I", Cond.methodLink RX1 146 yX1_layOut, Cond.instanceMethod yX1_layOut, Cond.selects RX1 yX1_layOut yX1_layOut, Cond.code yX1_layOut cX1_layOut 7 none, Cond.fieldLink RX1 35 "DefaultReasoner" "lineup" "[I", Cond.methodLink RX1 160 yX1_keepsPriorities, Cond.instanceMethod yX1_keepsPriorities]
def wsL_isPreferred_r4 : List Cond := [Cond.selects RX1 yX1_keepsPriorities yX1_keepsPriorities, Cond.code yX1_keepsPriorities cX1_keepsPriorities 4 (some .boolean), Cond.fieldLink RX1 28 "DefaultReasoner" "priorities" "LDefaultReasoner$Priorities;", Cond.instanceMethod yX0_comesBeforeOneOf, Cond.initialized RX0, Cond.selects RX0 yX0_comesBeforeOneOf yX0_comesBeforeOneOf, Cond.code yX0_comesBeforeOneOf cX0_comesBeforeOneOf 3 (some .boolean), Cond.fieldLink RX0 15 "DefaultReasoner$Priorities" "reached" "[I", Cond.methodLink RX1 203 yX1_endOfWalk, Cond.instanceMethod yX1_endOfWalk, Cond.selects RX1 yX1_endOfWalk yX1_endOfWalk, Cond.code yX1_endOfWalk cX1_endOfWalk 4 (some .int), Cond.methodLink RX1 152 yX1_firstUsable, Cond.instanceMethod yX1_firstUsable, Cond.selects RX1 yX1_firstUsable yX1_firstUsable, Cond.code yX1_firstUsable cX1_firstUsable 3 (some .int), Cond.methodLink RX1 206 yX1_markPreferred, Cond.instanceMethod yX1_markPreferred, Cond.selects RX1 yX1_markPreferred yX1_markPreferred, Cond.code yX1_markPreferred cX1_markPreferred 3 none, Cond.methodLink RX1 133 yX1_checkExtension, Cond.instanceMethod yX1_checkExtension, Cond.selects RX1 yX1_checkExtension yX1_checkExtension, Cond.code yX1_checkExtension cX1_checkExtension 2 none]
def wsL_isPreferred_r5 : List Cond := [Cond.classLink RX1 155 "java/lang/IndexOutOfBoundsException", Cond.initialized "java/lang/IndexOutOfBoundsException"]
def wsL_isPreferred : List Cond := .codeWith yL_isPreferred cL_isPreferred 4 (some .int) [(0, 16, 19, 13)] :: ((wsL_isPreferred_r1 ++ (wsL_isPreferred_r2 ++ (wsL_isPreferred_r3 ++ (wsL_isPreferred_r4 ++ wsL_isPreferred_r5)))) ++ wsX10 ++ wsX00 ++ (vx_atS RX1 159 "java/lang/IndexOutOfBoundsException" ["java/lang/RuntimeException", "java/lang/Exception"]).filter goodWord)
def wsL_supports_r1 : List Cond := [Cond.classLink RL 13 "java/lang/IndexOutOfBoundsException", Cond.methodLink RL 61 yX1_supports, Cond.instanceMethod yX1_supports, Cond.selects RX1 yX1_supports yX1_supports, Cond.initialized RX1, Cond.code yX1_supports cX1_supports 4 (some .int), Cond.fieldLink RX1 130 "DefaultReasoner" "extensionTotal" "I", Cond.fieldLink RX1 44 "DefaultReasoner" "extensions" "[I", Cond.methodLink RX1 51 yX1_checkLiteral, Cond.static yX1_checkLiteral, Cond.code yX1_checkLiteral cX1_checkLiteral 1 none, Cond.classLink RX1 155 "java/lang/IndexOutOfBoundsException", Cond.initialized "java/lang/IndexOutOfBoundsException", Cond.methodLink RX1 124 yX1_findExtensions, Cond.instanceMethod yX1_findExtensions, Cond.selects RX1 yX1_findExtensions yX1_findExtensions, Cond.code yX1_findExtensions cX1_findExtensions 3 none, Cond.fieldLink RX1 191 "DefaultReasoner" "extensionsKnown" "Z", Cond.fieldLink RX1 79 "DefaultReasoner" "defaultTotal" "I", Cond.fieldLink RX1 38 "DefaultReasoner" "held" "[I", Cond.fieldLink RX1 55 "DefaultReasoner" "factSet" "I", Cond.fieldLink RX1 41 "DefaultReasoner" "usable" "[I", Cond.methodLink RX1 194 yX1_conclusionsOf, Cond.instanceMethod yX1_conclusionsOf]
def wsL_supports_r2 : List Cond := [Cond.selects RX1 yX1_conclusionsOf yX1_conclusionsOf, Cond.code yX1_conclusionsOf cX1_conclusionsOf 4 (some .int), Cond.fieldLink RX1 22 "DefaultReasoner" "conclusions" "[I", Cond.methodLink RX1 59 yX1_has, Cond.static yX1_has, Cond.code yX1_has cX1_has 2 (some .boolean), Cond.methodLink RX1 117 yX1_closeUp, Cond.instanceMethod yX1_closeUp, Cond.selects RX1 yX1_closeUp yX1_closeUp, Cond.code yX1_closeUp cX1_closeUp 6 (some .int), Cond.fieldLink RX1 69 "DefaultReasoner" "ruleTotal" "I", Cond.fieldLink RX1 9 "DefaultReasoner" "bodies" "[I", Cond.fieldLink RX1 13 "DefaultReasoner" "heads" "[I", Cond.constant RX1 142 (65535), Cond.methodLink RX1 185 yX1_contains, Cond.static yX1_contains, Cond.code yX1_contains cX1_contains 2 (some .boolean), Cond.methodLink RX1 188 yX1_complements, Cond.static yX1_complements, Cond.code yX1_complements cX1_complements 1 (some .int), Cond.methodLink RX1 197 yX1_usableFor, Cond.instanceMethod yX1_usableFor, Cond.selects RX1 yX1_usableFor yX1_usableFor, Cond.code yX1_usableFor cX1_usableFor 4 (some .int)]
def wsL_supports_r3 : List Cond := [Cond.fieldLink RX1 16 "DefaultReasoner" "prerequisites" "[I", Cond.methodLink RX1 121 yX1_opens, Cond.instanceMethod yX1_opens, Cond.selects RX1 yX1_opens yX1_opens, Cond.code yX1_opens cX1_opens 3 (some .boolean), Cond.fieldLink RX1 19 "DefaultReasoner" "justifications" "[I", Cond.methodLink RX1 127 yX1_generatorsFor, Cond.instanceMethod yX1_generatorsFor, Cond.selects RX1 yX1_generatorsFor yX1_generatorsFor, Cond.code yX1_generatorsFor cX1_generatorsFor 6 (some .int), Cond.methodLink RX1 200 yX1_insertExtension, Cond.instanceMethod yX1_insertExtension, Cond.selects RX1 yX1_insertExtension yX1_insertExtension, Cond.code yX1_insertExtension cX1_insertExtension 3 none]
def wsL_supports : List Cond := .codeWith yL_supports cL_supports 4 (some .int) [(0, 9, 12, 13)] :: ((wsL_supports_r1 ++ (wsL_supports_r2 ++ wsL_supports_r3)) ++ wsX10 ++ (vx_atS RX1 159 "java/lang/IndexOutOfBoundsException" ["java/lang/RuntimeException", "java/lang/Exception"]).filter goodWord)
def wsL_share_r1 : List Cond := [Cond.classLink RL 13 "java/lang/IndexOutOfBoundsException", Cond.methodLink RL 64 yX1_share, Cond.instanceMethod yX1_share, Cond.selects RX1 yX1_share yX1_share, Cond.initialized RX1, Cond.code yX1_share cX1_share 4 (some .double), Cond.fieldLink RX1 139 "DefaultReasoner" "preferredTotal" "I", Cond.fieldLink RX1 130 "DefaultReasoner" "extensionTotal" "I", Cond.fieldLink RX1 47 "DefaultReasoner" "preferred" "[Z", Cond.fieldLink RX1 44 "DefaultReasoner" "extensions" "[I", Cond.methodLink RX1 51 yX1_checkLiteral, Cond.static yX1_checkLiteral, Cond.code yX1_checkLiteral cX1_checkLiteral 1 none, Cond.classLink RX1 155 "java/lang/IndexOutOfBoundsException", Cond.initialized "java/lang/IndexOutOfBoundsException", Cond.methodLink RX1 136 yX1_findPreferred, Cond.instanceMethod yX1_findPreferred, Cond.selects RX1 yX1_findPreferred yX1_findPreferred, Cond.code yX1_findPreferred cX1_findPreferred 3 none, Cond.fieldLink RX1 106 "DefaultReasoner" "preferredKnown" "Z", Cond.fieldLink RX1 178 "DefaultReasoner" "ORDERS" "[I", Cond.fieldLink RX1 79 "DefaultReasoner" "defaultTotal" "I", Cond.methodLink RX1 124 yX1_findExtensions, Cond.instanceMethod yX1_findExtensions]
def wsL_share_r2 : List Cond := [Cond.selects RX1 yX1_findExtensions yX1_findExtensions, Cond.code yX1_findExtensions cX1_findExtensions 3 none, Cond.fieldLink RX1 191 "DefaultReasoner" "extensionsKnown" "Z", Cond.fieldLink RX1 38 "DefaultReasoner" "held" "[I", Cond.fieldLink RX1 55 "DefaultReasoner" "factSet" "I", Cond.fieldLink RX1 41 "DefaultReasoner" "usable" "[I", Cond.methodLink RX1 194 yX1_conclusionsOf, Cond.instanceMethod yX1_conclusionsOf, Cond.selects RX1 yX1_conclusionsOf yX1_conclusionsOf, Cond.code yX1_conclusionsOf cX1_conclusionsOf 4 (some .int), Cond.fieldLink RX1 22 "DefaultReasoner" "conclusions" "[I", Cond.methodLink RX1 59 yX1_has, Cond.static yX1_has, Cond.code yX1_has cX1_has 2 (some .boolean), Cond.methodLink RX1 117 yX1_closeUp, Cond.instanceMethod yX1_closeUp, Cond.selects RX1 yX1_closeUp yX1_closeUp, Cond.code yX1_closeUp cX1_closeUp 6 (some .int), Cond.fieldLink RX1 69 "DefaultReasoner" "ruleTotal" "I", Cond.fieldLink RX1 9 "DefaultReasoner" "bodies" "[I", Cond.fieldLink RX1 13 "DefaultReasoner" "heads" "[I", Cond.constant RX1 142 (65535), Cond.methodLink RX1 185 yX1_contains, Cond.static yX1_contains]
def wsL_share_r3 : List Cond := [Cond.code yX1_contains cX1_contains 2 (some .boolean), Cond.methodLink RX1 188 yX1_complements, Cond.static yX1_complements, Cond.code yX1_complements cX1_complements 1 (some .int), Cond.methodLink RX1 197 yX1_usableFor, Cond.instanceMethod yX1_usableFor, Cond.selects RX1 yX1_usableFor yX1_usableFor, Cond.code yX1_usableFor cX1_usableFor 4 (some .int), Cond.fieldLink RX1 16 "DefaultReasoner" "prerequisites" "[I", Cond.methodLink RX1 121 yX1_opens, Cond.instanceMethod yX1_opens, Cond.selects RX1 yX1_opens yX1_opens, Cond.code yX1_opens cX1_opens 3 (some .boolean), Cond.fieldLink RX1 19 "DefaultReasoner" "justifications" "[I", Cond.methodLink RX1 127 yX1_generatorsFor, Cond.instanceMethod yX1_generatorsFor, Cond.selects RX1 yX1_generatorsFor yX1_generatorsFor, Cond.code yX1_generatorsFor cX1_generatorsFor 6 (some .int), Cond.methodLink RX1 200 yX1_insertExtension, Cond.instanceMethod yX1_insertExtension, Cond.selects RX1 yX1_insertExtension yX1_insertExtension, Cond.code yX1_insertExtension cX1_insertExtension 3 none, Cond.methodLink RX1 146 yX1_layOut, Cond.instanceMethod yX1_layOut]
def wsL_share_r4 : List Cond := [Cond.selects RX1 yX1_layOut yX1_layOut, Cond.code yX1_layOut cX1_layOut 7 none, Cond.fieldLink RX1 35 "DefaultReasoner" "lineup" "[I", Cond.methodLink RX1 160 yX1_keepsPriorities, Cond.instanceMethod yX1_keepsPriorities, Cond.selects RX1 yX1_keepsPriorities yX1_keepsPriorities, Cond.code yX1_keepsPriorities cX1_keepsPriorities 4 (some .boolean), Cond.fieldLink RX1 28 "DefaultReasoner" "priorities" "LDefaultReasoner$Priorities;", Cond.instanceMethod yX0_comesBeforeOneOf, Cond.initialized RX0, Cond.selects RX0 yX0_comesBeforeOneOf yX0_comesBeforeOneOf, Cond.code yX0_comesBeforeOneOf cX0_comesBeforeOneOf 3 (some .boolean), Cond.fieldLink RX0 15 "DefaultReasoner$Priorities" "reached" "[I", Cond.methodLink RX1 203 yX1_endOfWalk, Cond.instanceMethod yX1_endOfWalk, Cond.selects RX1 yX1_endOfWalk yX1_endOfWalk, Cond.code yX1_endOfWalk cX1_endOfWalk 4 (some .int), Cond.methodLink RX1 152 yX1_firstUsable, Cond.instanceMethod yX1_firstUsable, Cond.selects RX1 yX1_firstUsable yX1_firstUsable, Cond.code yX1_firstUsable cX1_firstUsable 3 (some .int), Cond.methodLink RX1 206 yX1_markPreferred, Cond.instanceMethod yX1_markPreferred, Cond.selects RX1 yX1_markPreferred yX1_markPreferred]
def wsL_share_r5 : List Cond := [Cond.code yX1_markPreferred cX1_markPreferred 3 none]
def wsL_share : List Cond := .codeWith yL_share cL_share 4 (some .int) [(0, 8, 11, 13)] :: ((wsL_share_r1 ++ (wsL_share_r2 ++ (wsL_share_r3 ++ (wsL_share_r4 ++ wsL_share_r5)))) ++ wsX10 ++ wsX00 ++ (vx_atS RX1 159 "java/lang/IndexOutOfBoundsException" ["java/lang/RuntimeException", "java/lang/Exception"]).filter goodWord)
def wsL_walk_r1 : List Cond := [Cond.classLink RL 19 "java/lang/IllegalArgumentException", Cond.methodLink RL 68 yX1_walk, Cond.instanceMethod yX1_walk, Cond.selects RX1 yX1_walk yX1_walk, Cond.initialized RX1, Cond.code yX1_walk cX1_walk 5 (some .int), Cond.fieldLink RX1 149 "DefaultReasoner" "latestTotal" "I", Cond.fieldLink RX1 79 "DefaultReasoner" "defaultTotal" "I", Cond.fieldLink RX1 32 "DefaultReasoner" "latestWalk" "[I", Cond.fieldLink RX1 38 "DefaultReasoner" "held" "[I", Cond.methodLink RX1 143 yX1_checkOrder, Cond.instanceMethod yX1_checkOrder, Cond.selects RX1 yX1_checkOrder yX1_checkOrder, Cond.code yX1_checkOrder cX1_checkOrder 2 none, Cond.classLink RX1 97 "java/lang/IllegalArgumentException", Cond.initialized "java/lang/IllegalArgumentException", Cond.fieldLink RX1 178 "DefaultReasoner" "ORDERS" "[I", Cond.methodLink RX1 124 yX1_findExtensions, Cond.instanceMethod yX1_findExtensions, Cond.selects RX1 yX1_findExtensions yX1_findExtensions, Cond.code yX1_findExtensions cX1_findExtensions 3 none, Cond.fieldLink RX1 191 "DefaultReasoner" "extensionsKnown" "Z", Cond.fieldLink RX1 55 "DefaultReasoner" "factSet" "I", Cond.fieldLink RX1 41 "DefaultReasoner" "usable" "[I"]
def wsL_walk_r2 : List Cond := [Cond.fieldLink RX1 130 "DefaultReasoner" "extensionTotal" "I", Cond.methodLink RX1 194 yX1_conclusionsOf, Cond.instanceMethod yX1_conclusionsOf, Cond.selects RX1 yX1_conclusionsOf yX1_conclusionsOf, Cond.code yX1_conclusionsOf cX1_conclusionsOf 4 (some .int), Cond.fieldLink RX1 22 "DefaultReasoner" "conclusions" "[I", Cond.methodLink RX1 59 yX1_has, Cond.static yX1_has, Cond.code yX1_has cX1_has 2 (some .boolean), Cond.methodLink RX1 117 yX1_closeUp, Cond.instanceMethod yX1_closeUp, Cond.selects RX1 yX1_closeUp yX1_closeUp, Cond.code yX1_closeUp cX1_closeUp 6 (some .int), Cond.fieldLink RX1 69 "DefaultReasoner" "ruleTotal" "I", Cond.fieldLink RX1 9 "DefaultReasoner" "bodies" "[I", Cond.fieldLink RX1 13 "DefaultReasoner" "heads" "[I", Cond.constant RX1 142 (65535), Cond.methodLink RX1 185 yX1_contains, Cond.static yX1_contains, Cond.code yX1_contains cX1_contains 2 (some .boolean), Cond.methodLink RX1 188 yX1_complements, Cond.static yX1_complements, Cond.code yX1_complements cX1_complements 1 (some .int), Cond.methodLink RX1 197 yX1_usableFor]
def wsL_walk_r3 : List Cond := [Cond.instanceMethod yX1_usableFor, Cond.selects RX1 yX1_usableFor yX1_usableFor, Cond.code yX1_usableFor cX1_usableFor 4 (some .int), Cond.fieldLink RX1 16 "DefaultReasoner" "prerequisites" "[I", Cond.methodLink RX1 121 yX1_opens, Cond.instanceMethod yX1_opens, Cond.selects RX1 yX1_opens yX1_opens, Cond.code yX1_opens cX1_opens 3 (some .boolean), Cond.fieldLink RX1 19 "DefaultReasoner" "justifications" "[I", Cond.methodLink RX1 127 yX1_generatorsFor, Cond.instanceMethod yX1_generatorsFor, Cond.selects RX1 yX1_generatorsFor yX1_generatorsFor, Cond.code yX1_generatorsFor cX1_generatorsFor 6 (some .int), Cond.methodLink RX1 200 yX1_insertExtension, Cond.instanceMethod yX1_insertExtension, Cond.selects RX1 yX1_insertExtension yX1_insertExtension, Cond.code yX1_insertExtension cX1_insertExtension 3 none, Cond.fieldLink RX1 44 "DefaultReasoner" "extensions" "[I", Cond.methodLink RX1 146 yX1_layOut, Cond.instanceMethod yX1_layOut, Cond.selects RX1 yX1_layOut yX1_layOut, Cond.code yX1_layOut cX1_layOut 7 none, Cond.fieldLink RX1 35 "DefaultReasoner" "lineup" "[I", Cond.methodLink RX1 152 yX1_firstUsable]
def wsL_walk_r4 : List Cond := [Cond.instanceMethod yX1_firstUsable, Cond.selects RX1 yX1_firstUsable yX1_firstUsable, Cond.code yX1_firstUsable cX1_firstUsable 3 (some .int)]
def wsL_walk : List Cond := .codeWith yL_walk cL_walk 4 (some .int) [(0, 9, 12, 19)] :: ((wsL_walk_r1 ++ (wsL_walk_r2 ++ (wsL_walk_r3 ++ wsL_walk_r4))) ++ wsX10 ++ (vx_atS RX1 101 "java/lang/IllegalArgumentException" ["java/lang/RuntimeException", "java/lang/Exception"]).filter goodWord)
def wsL_applied : List Cond := .codeWith yL_applied cL_applied 4 (some .int) [(0, 9, 12, 13)] :: ([.classLink RL 13 "java/lang/IndexOutOfBoundsException", .methodLink RL 71 yX1_applied, .instanceMethod yX1_applied, .selects RX1 yX1_applied yX1_applied, .initialized RX1, .code yX1_applied cX1_applied 2 (some .int), .classLink RX1 155 "java/lang/IndexOutOfBoundsException", .initialized "java/lang/IndexOutOfBoundsException", .fieldLink RX1 149 "DefaultReasoner" "latestTotal" "I", .fieldLink RX1 32 "DefaultReasoner" "latestWalk" "[I"] ++ wsX10 ++ (vx_atS RX1 159 "java/lang/IndexOutOfBoundsException" ["java/lang/RuntimeException", "java/lang/Exception"]).filter goodWord)
def wsL_respects_r1 : List Cond := [Cond.classLink RL 19 "java/lang/IllegalArgumentException", Cond.methodLink RL 74 yX1_respects, Cond.instanceMethod yX1_respects, Cond.selects RX1 yX1_respects yX1_respects, Cond.initialized RX1, Cond.code yX1_respects cX1_respects 2 (some .boolean), Cond.methodLink RX1 143 yX1_checkOrder, Cond.instanceMethod yX1_checkOrder, Cond.selects RX1 yX1_checkOrder yX1_checkOrder, Cond.code yX1_checkOrder cX1_checkOrder 2 none, Cond.classLink RX1 97 "java/lang/IllegalArgumentException", Cond.initialized "java/lang/IllegalArgumentException", Cond.fieldLink RX1 178 "DefaultReasoner" "ORDERS" "[I", Cond.fieldLink RX1 79 "DefaultReasoner" "defaultTotal" "I", Cond.methodLink RX1 146 yX1_layOut, Cond.instanceMethod yX1_layOut, Cond.selects RX1 yX1_layOut yX1_layOut, Cond.code yX1_layOut cX1_layOut 7 none, Cond.fieldLink RX1 35 "DefaultReasoner" "lineup" "[I", Cond.methodLink RX1 59 yX1_has, Cond.static yX1_has, Cond.code yX1_has cX1_has 2 (some .boolean), Cond.methodLink RX1 160 yX1_keepsPriorities, Cond.instanceMethod yX1_keepsPriorities]
def wsL_respects_r2 : List Cond := [Cond.selects RX1 yX1_keepsPriorities yX1_keepsPriorities, Cond.code yX1_keepsPriorities cX1_keepsPriorities 4 (some .boolean), Cond.fieldLink RX1 28 "DefaultReasoner" "priorities" "LDefaultReasoner$Priorities;", Cond.instanceMethod yX0_comesBeforeOneOf, Cond.initialized RX0, Cond.selects RX0 yX0_comesBeforeOneOf yX0_comesBeforeOneOf, Cond.code yX0_comesBeforeOneOf cX0_comesBeforeOneOf 3 (some .boolean), Cond.fieldLink RX0 15 "DefaultReasoner$Priorities" "reached" "[I"]
def wsL_respects : List Cond := .codeWith yL_respects cL_respects 4 (some .int) [(0, 16, 19, 19)] :: ((wsL_respects_r1 ++ wsL_respects_r2) ++ wsX10 ++ wsX00 ++ (vx_atS RX1 101 "java/lang/IllegalArgumentException" ["java/lang/RuntimeException", "java/lang/Exception"]).filter goodWord)
def wsL_law0_r1 : List Cond := [Cond.classLink RL 8 RX1, Cond.instantiable RX1 20, Cond.initialized RX1, Cond.classLink RL 78 RX2, Cond.instantiable RX2 15, Cond.initialized RX2, Cond.arrayClass .long, Cond.arrayClass .double, Cond.methodLink RL 77 yX1_init, Cond.instanceMethod yX1_init, Cond.code yX1_init cX1_init 1 none, Cond.methodLink RX1 1 objectInit, Cond.instanceMethod objectInit, Cond.code objectInit ⟨#[0xb1]⟩ 1 none, Cond.arrayClass .int, Cond.fieldLink RX1 9 "DefaultReasoner" "bodies" "[I", Cond.fieldLink RX1 13 "DefaultReasoner" "heads" "[I", Cond.fieldLink RX1 16 "DefaultReasoner" "prerequisites" "[I", Cond.fieldLink RX1 19 "DefaultReasoner" "justifications" "[I", Cond.fieldLink RX1 22 "DefaultReasoner" "conclusions" "[I", Cond.classLink RX1 25 RX0, Cond.instantiable RX0 2, Cond.initialized RX0, Cond.fieldLink RX1 28 "DefaultReasoner" "priorities" "LDefaultReasoner$Priorities;"]
def wsL_law0_r2 : List Cond := [Cond.fieldLink RX1 32 "DefaultReasoner" "latestWalk" "[I", Cond.fieldLink RX1 35 "DefaultReasoner" "lineup" "[I", Cond.fieldLink RX1 38 "DefaultReasoner" "held" "[I", Cond.fieldLink RX1 41 "DefaultReasoner" "usable" "[I", Cond.fieldLink RX1 44 "DefaultReasoner" "extensions" "[I", Cond.arrayClass .boolean, Cond.fieldLink RX1 47 "DefaultReasoner" "preferred" "[Z", Cond.instanceMethod yX0_init, Cond.code yX0_init cX0_init 1 none, Cond.methodLink RX0 3 objectInit, Cond.fieldLink RX0 9 "DefaultReasoner$Priorities" "given" "[I", Cond.fieldLink RX0 15 "DefaultReasoner$Priorities" "reached" "[I", Cond.methodLink RL 80 yX2_init, Cond.instanceMethod yX2_init, Cond.code yX2_init cX2_init 1 none, Cond.methodLink RX2 1 objectInit, Cond.fieldLink RX2 9 "DefaultReasonerModel" "bodies" "[I", Cond.fieldLink RX2 13 "DefaultReasonerModel" "heads" "[I", Cond.fieldLink RX2 16 "DefaultReasonerModel" "needs" "[I", Cond.fieldLink RX2 19 "DefaultReasonerModel" "justifications" "[I", Cond.fieldLink RX2 22 "DefaultReasonerModel" "conclusions" "[I", Cond.fieldLink RX2 25 "DefaultReasonerModel" "told" "[Z", Cond.fieldLink RX2 29 "DefaultReasonerModel" "path" "[I", Cond.fieldLink RX2 32 "DefaultReasonerModel" "all" "[I"]
def wsL_law0_r3 : List Cond := [Cond.fieldLink RX2 35 "DefaultReasonerModel" "arePreferred" "[Z", Cond.methodLink RL 81 yL_setFact, Cond.static yL_setFact, Cond.initialized RL, Cond.codeWith yL_setFact cL_setFact 5 (some .int) [(0, 17, 20, 13)], Cond.classLink RL 13 "java/lang/IndexOutOfBoundsException", Cond.methodLink RL 7 yX1_setFact, Cond.instanceMethod yX1_setFact, Cond.selects RX1 yX1_setFact yX1_setFact, Cond.code yX1_setFact cX1_setFact 4 (some .boolean), Cond.fieldLink RX1 55 "DefaultReasoner" "factSet" "I", Cond.methodLink RX1 51 yX1_checkLiteral, Cond.static yX1_checkLiteral, Cond.code yX1_checkLiteral cX1_checkLiteral 1 none, Cond.classLink RX1 155 "java/lang/IndexOutOfBoundsException", Cond.initialized "java/lang/IndexOutOfBoundsException", Cond.methodLink RX1 59 yX1_has, Cond.static yX1_has, Cond.code yX1_has cX1_has 2 (some .boolean), Cond.methodLink RX1 63 yX1_forgetFindings, Cond.instanceMethod yX1_forgetFindings, Cond.selects RX1 yX1_forgetFindings yX1_forgetFindings, Cond.code yX1_forgetFindings cX1_forgetFindings 1 none, Cond.fieldLink RX1 191 "DefaultReasoner" "extensionsKnown" "Z"]
def wsL_law0_r4 : List Cond := [Cond.fieldLink RX1 106 "DefaultReasoner" "preferredKnown" "Z", Cond.methodLink RL 86 yX2_setFact, Cond.instanceMethod yX2_setFact, Cond.selects RX2 yX2_setFact yX2_setFact, Cond.code yX2_setFact cX2_setFact 4 (some .boolean), Cond.fieldLink RX2 38 "DefaultReasonerModel" "thrown" "I", Cond.fieldLink RX2 50 "DefaultReasonerModel" "facts" "I", Cond.methodLink RX2 46 yX2_isLiteral, Cond.static yX2_isLiteral, Cond.code yX2_isLiteral cX2_isLiteral 1 (some .boolean), Cond.methodLink RL 87 yX2_thrown, Cond.instanceMethod yX2_thrown, Cond.selects RX2 yX2_thrown yX2_thrown, Cond.code yX2_thrown cX2_thrown 1 (some .int), Cond.methodLink RL 90 yL_addRule, Cond.static yL_addRule, Cond.codeWith yL_addRule cL_addRule 5 (some .int) [(0, 10, 13, 13), (0, 10, 17, 19), (0, 10, 21, 21)], Cond.classLink RL 19 "java/lang/IllegalArgumentException", Cond.classLink RL 21 "java/lang/IllegalStateException", Cond.methodLink RL 15 yX1_addRule, Cond.instanceMethod yX1_addRule, Cond.selects RX1 yX1_addRule yX1_addRule, Cond.code yX1_addRule cX1_addRule 4 (some .int), Cond.classLink RX1 72 "java/lang/IllegalStateException"]
def wsL_law0_r5 : List Cond := [Cond.initialized "java/lang/IllegalStateException", Cond.fieldLink RX1 69 "DefaultReasoner" "ruleTotal" "I", Cond.methodLink RX1 66 yX1_checkSet, Cond.static yX1_checkSet, Cond.code yX1_checkSet cX1_checkSet 1 none, Cond.classLink RX1 97 "java/lang/IllegalArgumentException", Cond.initialized "java/lang/IllegalArgumentException", Cond.constant RX1 142 (65535), Cond.methodLink RL 93 yX2_addRule, Cond.instanceMethod yX2_addRule, Cond.selects RX2 yX2_addRule yX2_addRule, Cond.code yX2_addRule cX2_addRule 3 (some .int), Cond.fieldLink RX2 60 "DefaultReasonerModel" "rules" "I", Cond.methodLink RX2 53 yX2_fail, Cond.instanceMethod yX2_fail, Cond.selects RX2 yX2_fail yX2_fail, Cond.code yX2_fail cX2_fail 2 (some .int), Cond.methodLink RX2 57 yX2_isSet, Cond.static yX2_isSet, Cond.code yX2_isSet cX2_isSet 1 (some .boolean), Cond.constant RX2 42 (65535), Cond.methodLink RL 94 yL_addDefault, Cond.static yL_addDefault, Cond.codeWith yL_addDefault cL_addDefault 6 (some .int) [(0, 12, 15, 13), (0, 12, 19, 19), (0, 12, 23, 21)]]
def wsL_law0_r6 : List Cond := [Cond.methodLink RL 23 yX1_addDefault, Cond.instanceMethod yX1_addDefault, Cond.selects RX1 yX1_addDefault yX1_addDefault, Cond.code yX1_addDefault cX1_addDefault 5 (some .int), Cond.fieldLink RX1 79 "DefaultReasoner" "defaultTotal" "I", Cond.methodLink RL 97 yX2_addDefault, Cond.instanceMethod yX2_addDefault, Cond.selects RX2 yX2_addDefault yX2_addDefault, Cond.code yX2_addDefault cX2_addDefault 4 (some .int), Cond.fieldLink RX2 43 "DefaultReasonerModel" "defaults" "I", Cond.methodLink RL 98 yL_dropRule, Cond.static yL_dropRule, Cond.codeWith yL_dropRule cL_dropRule 3 (some .int) [(0, 8, 11, 21)], Cond.methodLink RL 27 yX1_dropRule, Cond.instanceMethod yX1_dropRule, Cond.selects RX1 yX1_dropRule yX1_dropRule, Cond.code yX1_dropRule cX1_dropRule 1 (some .int), Cond.methodLink RL 101 yX2_dropRule, Cond.instanceMethod yX2_dropRule, Cond.selects RX2 yX2_dropRule yX2_dropRule, Cond.code yX2_dropRule cX2_dropRule 1 (some .int), Cond.methodLink RL 102 yL_dropDefault, Cond.static yL_dropDefault, Cond.codeWith yL_dropDefault cL_dropDefault 3 (some .int) [(0, 8, 11, 21)]]
def wsL_law0_r7 : List Cond := [Cond.methodLink RL 31 yX1_dropDefault, Cond.instanceMethod yX1_dropDefault, Cond.selects RX1 yX1_dropDefault yX1_dropDefault, Cond.code yX1_dropDefault cX1_dropDefault 1 (some .int), Cond.instanceMethod yX0_removeAllWith, Cond.selects RX0 yX0_removeAllWith yX0_removeAllWith, Cond.code yX0_removeAllWith cX0_removeAllWith 3 none, Cond.methodLink RX0 22 yX0_followChains, Cond.instanceMethod yX0_followChains, Cond.selects RX0 yX0_followChains yX0_followChains, Cond.code yX0_followChains cX0_followChains 3 none, Cond.methodLink RL 104 yX2_dropDefault, Cond.instanceMethod yX2_dropDefault, Cond.selects RX2 yX2_dropDefault yX2_dropDefault, Cond.code yX2_dropDefault cX2_dropDefault 2 (some .int), Cond.methodLink RL 105 yL_prefer, Cond.static yL_prefer, Cond.codeWith yL_prefer cL_prefer 5 (some .int) [(0, 17, 20, 13), (0, 17, 24, 19)], Cond.methodLink RL 34 yX1_prefer, Cond.instanceMethod yX1_prefer, Cond.selects RX1 yX1_prefer yX1_prefer, Cond.code yX1_prefer cX1_prefer 4 (some .boolean), Cond.methodLink RX1 91 yX1_checkDefault, Cond.instanceMethod yX1_checkDefault]
def wsL_law0_r8 : List Cond := [Cond.selects RX1 yX1_checkDefault yX1_checkDefault, Cond.code yX1_checkDefault cX1_checkDefault 2 none, Cond.instanceMethod yX0_comesBefore, Cond.selects RX0 yX0_comesBefore yX0_comesBefore, Cond.code yX0_comesBefore cX0_comesBefore 3 (some .boolean), Cond.instanceMethod yX0_put, Cond.selects RX0 yX0_put yX0_put, Cond.code yX0_put cX0_put 3 none, Cond.methodLink RL 107 yX2_prefer, Cond.instanceMethod yX2_prefer, Cond.selects RX2 yX2_prefer yX2_prefer, Cond.code yX2_prefer cX2_prefer 4 (some .boolean), Cond.methodLink RX2 67 yX2_isDefault, Cond.instanceMethod yX2_isDefault, Cond.selects RX2 yX2_isDefault yX2_isDefault, Cond.code yX2_isDefault cX2_isDefault 2 (some .boolean), Cond.methodLink RX2 70 yX2_before, Cond.instanceMethod yX2_before, Cond.selects RX2 yX2_before yX2_before, Cond.code yX2_before cX2_before 3 (some .boolean), Cond.methodLink RX2 63 yX2_leads, Cond.instanceMethod yX2_leads, Cond.selects RX2 yX2_leads yX2_leads, Cond.code yX2_leads cX2_leads 5 (some .boolean)]
def wsL_law0_r9 : List Cond := [Cond.methodLink RL 108 yX1_forgetPriorities, Cond.instanceMethod yX1_forgetPriorities, Cond.selects RX1 yX1_forgetPriorities yX1_forgetPriorities, Cond.code yX1_forgetPriorities cX1_forgetPriorities 2 (some .int), Cond.instanceMethod yX0_pairs, Cond.selects RX0 yX0_pairs yX0_pairs, Cond.code yX0_pairs cX0_pairs 3 (some .int), Cond.methodLink RX0 25 yJ6_bitCount_0f7a4, Cond.static yJ6_bitCount_0f7a4, Cond.initialized RJ6, Cond.code yJ6_bitCount_0f7a4 cJ6_bitCount_0f7a4 1 (some .int), Cond.constant RJ6 265 (1431655765), Cond.constant RJ6 266 (858993459), Cond.constant RJ6 267 (252645135), Cond.instanceMethod yX0_clear, Cond.selects RX0 yX0_clear yX0_clear, Cond.code yX0_clear cX0_clear 2 none, Cond.methodLink RL 111 yX2_forgetPriorities, Cond.instanceMethod yX2_forgetPriorities, Cond.selects RX2 yX2_forgetPriorities yX2_forgetPriorities, Cond.code yX2_forgetPriorities cX2_forgetPriorities 4 (some .int), Cond.methodLink RL 112 yL_isBefore, Cond.static yL_isBefore, Cond.codeWith yL_isBefore cL_isBefore 5 (some .int) [(0, 17, 20, 13)]]
def wsL_law0_r10 : List Cond := [Cond.methodLink RL 38 yX1_isBefore, Cond.instanceMethod yX1_isBefore, Cond.selects RX1 yX1_isBefore yX1_isBefore, Cond.code yX1_isBefore cX1_isBefore 3 (some .boolean), Cond.methodLink RL 114 yX2_isBefore, Cond.instanceMethod yX2_isBefore, Cond.selects RX2 yX2_isBefore yX2_isBefore, Cond.code yX2_isBefore cX2_isBefore 3 (some .boolean), Cond.methodLink RL 115 yX1_facts, Cond.instanceMethod yX1_facts, Cond.selects RX1 yX1_facts yX1_facts, Cond.code yX1_facts cX1_facts 1 (some .int), Cond.methodLink RL 118 yX2_facts, Cond.instanceMethod yX2_facts, Cond.selects RX2 yX2_facts yX2_facts, Cond.code yX2_facts cX2_facts 1 (some .int), Cond.methodLink RL 119 yX1_defaultCount, Cond.instanceMethod yX1_defaultCount, Cond.selects RX1 yX1_defaultCount yX1_defaultCount, Cond.code yX1_defaultCount cX1_defaultCount 1 (some .int), Cond.methodLink RL 122 yX2_defaultCount, Cond.instanceMethod yX2_defaultCount, Cond.selects RX2 yX2_defaultCount yX2_defaultCount, Cond.code yX2_defaultCount cX2_defaultCount 1 (some .int)]
def wsL_law0_r11 : List Cond := [Cond.methodLink RL 123 yL_closure, Cond.static yL_closure, Cond.codeWith yL_closure cL_closure 4 (some .int) [(0, 9, 12, 19)], Cond.methodLink RL 41 yX1_closure, Cond.instanceMethod yX1_closure, Cond.selects RX1 yX1_closure yX1_closure, Cond.code yX1_closure cX1_closure 2 (some .int), Cond.methodLink RX1 117 yX1_closeUp, Cond.instanceMethod yX1_closeUp, Cond.selects RX1 yX1_closeUp yX1_closeUp, Cond.code yX1_closeUp cX1_closeUp 6 (some .int), Cond.methodLink RX1 185 yX1_contains, Cond.static yX1_contains, Cond.code yX1_contains cX1_contains 2 (some .boolean), Cond.methodLink RX1 188 yX1_complements, Cond.static yX1_complements, Cond.code yX1_complements cX1_complements 1 (some .int), Cond.methodLink RL 126 yX2_closure, Cond.instanceMethod yX2_closure, Cond.selects RX2 yX2_closure yX2_closure, Cond.code yX2_closure cX2_closure 2 (some .int), Cond.methodLink RX2 77 yX2_close, Cond.instanceMethod yX2_close, Cond.selects RX2 yX2_close yX2_close]
def wsL_law0_r12 : List Cond := [Cond.code yX2_close cX2_close 5 (some .int), Cond.methodLink RX2 74 yX2_complements, Cond.static yX2_complements, Cond.code yX2_complements cX2_complements 1 (some .int), Cond.methodLink RL 127 yL_isOpen, Cond.static yL_isOpen, Cond.codeWith yL_isOpen cL_isOpen 5 (some .int) [(0, 17, 20, 13), (0, 17, 24, 19)], Cond.methodLink RL 45 yX1_isOpen, Cond.instanceMethod yX1_isOpen, Cond.selects RX1 yX1_isOpen yX1_isOpen, Cond.code yX1_isOpen cX1_isOpen 3 (some .boolean), Cond.methodLink RX1 121 yX1_opens, Cond.instanceMethod yX1_opens, Cond.selects RX1 yX1_opens yX1_opens, Cond.code yX1_opens cX1_opens 3 (some .boolean), Cond.methodLink RL 129 yX2_isOpen, Cond.instanceMethod yX2_isOpen, Cond.selects RX2 yX2_isOpen yX2_isOpen, Cond.code yX2_isOpen cX2_isOpen 3 (some .boolean), Cond.methodLink RX2 83 yX2_open, Cond.instanceMethod yX2_open, Cond.selects RX2 yX2_open yX2_open, Cond.code yX2_open cX2_open 3 (some .boolean), Cond.methodLink RL 130 yL_generatorsOf]
def wsL_law0_r13 : List Cond := [Cond.static yL_generatorsOf, Cond.codeWith yL_generatorsOf cL_generatorsOf 4 (some .int) [(0, 9, 12, 19)], Cond.methodLink RL 48 yX1_generatorsOf, Cond.instanceMethod yX1_generatorsOf, Cond.selects RX1 yX1_generatorsOf yX1_generatorsOf, Cond.code yX1_generatorsOf cX1_generatorsOf 2 (some .int), Cond.methodLink RX1 124 yX1_findExtensions, Cond.instanceMethod yX1_findExtensions, Cond.selects RX1 yX1_findExtensions yX1_findExtensions, Cond.code yX1_findExtensions cX1_findExtensions 3 none, Cond.fieldLink RX1 130 "DefaultReasoner" "extensionTotal" "I", Cond.methodLink RX1 194 yX1_conclusionsOf, Cond.instanceMethod yX1_conclusionsOf, Cond.selects RX1 yX1_conclusionsOf yX1_conclusionsOf, Cond.code yX1_conclusionsOf cX1_conclusionsOf 4 (some .int), Cond.methodLink RX1 197 yX1_usableFor, Cond.instanceMethod yX1_usableFor, Cond.selects RX1 yX1_usableFor yX1_usableFor, Cond.code yX1_usableFor cX1_usableFor 4 (some .int), Cond.methodLink RX1 127 yX1_generatorsFor, Cond.instanceMethod yX1_generatorsFor, Cond.selects RX1 yX1_generatorsFor yX1_generatorsFor, Cond.code yX1_generatorsFor cX1_generatorsFor 6 (some .int), Cond.methodLink RX1 200 yX1_insertExtension]
def wsL_law0_r14 : List Cond := [Cond.instanceMethod yX1_insertExtension, Cond.selects RX1 yX1_insertExtension yX1_insertExtension, Cond.code yX1_insertExtension cX1_insertExtension 3 none, Cond.methodLink RL 132 yX2_generatorsOf, Cond.instanceMethod yX2_generatorsOf, Cond.selects RX2 yX2_generatorsOf yX2_generatorsOf, Cond.code yX2_generatorsOf cX2_generatorsOf 2 (some .int), Cond.methodLink RX2 86 yX2_generators, Cond.instanceMethod yX2_generators, Cond.selects RX2 yX2_generators yX2_generators, Cond.code yX2_generators cX2_generators 6 (some .int), Cond.methodLink RX2 80 yX2_consequences, Cond.instanceMethod yX2_consequences, Cond.selects RX2 yX2_consequences yX2_consequences, Cond.code yX2_consequences cX2_consequences 4 (some .int), Cond.methodLink RL 133 yL_isExtension, Cond.static yL_isExtension, Cond.codeWith yL_isExtension cL_isExtension 4 (some .int) [(0, 16, 19, 19)], Cond.methodLink RL 51 yX1_isExtension, Cond.instanceMethod yX1_isExtension, Cond.selects RX1 yX1_isExtension yX1_isExtension, Cond.code yX1_isExtension cX1_isExtension 2 (some .boolean), Cond.methodLink RL 135 yX2_isExtension, Cond.instanceMethod yX2_isExtension]
def wsL_law0_r15 : List Cond := [Cond.selects RX2 yX2_isExtension yX2_isExtension, Cond.code yX2_isExtension cX2_isExtension 2 (some .boolean), Cond.methodLink RX2 89 yX2_isStable, Cond.instanceMethod yX2_isStable, Cond.selects RX2 yX2_isStable yX2_isStable, Cond.code yX2_isStable cX2_isStable 2 (some .boolean), Cond.methodLink RL 136 yX1_extensionCount, Cond.instanceMethod yX1_extensionCount, Cond.selects RX1 yX1_extensionCount yX1_extensionCount, Cond.code yX1_extensionCount cX1_extensionCount 1 (some .int), Cond.methodLink RL 139 yX2_extensionCount, Cond.instanceMethod yX2_extensionCount, Cond.selects RX2 yX2_extensionCount yX2_extensionCount, Cond.code yX2_extensionCount cX2_extensionCount 1 (some .int), Cond.fieldLink RX2 92 "DefaultReasonerModel" "count" "I", Cond.methodLink RX2 95 yX2_find, Cond.instanceMethod yX2_find, Cond.selects RX2 yX2_find yX2_find, Cond.code yX2_find cX2_find 4 none, Cond.methodLink RL 140 yL_extension, Cond.static yL_extension, Cond.codeWith yL_extension cL_extension 4 (some .int) [(0, 9, 12, 13)], Cond.methodLink RL 55 yX1_extension, Cond.instanceMethod yX1_extension]
def wsL_law0_r16 : List Cond := [Cond.selects RX1 yX1_extension yX1_extension, Cond.code yX1_extension cX1_extension 2 (some .int), Cond.methodLink RX1 133 yX1_checkExtension, Cond.instanceMethod yX1_checkExtension, Cond.selects RX1 yX1_checkExtension yX1_checkExtension, Cond.code yX1_checkExtension cX1_checkExtension 2 none, Cond.methodLink RL 142 yX2_extension, Cond.instanceMethod yX2_extension, Cond.selects RX2 yX2_extension yX2_extension, Cond.code yX2_extension cX2_extension 2 (some .int), Cond.methodLink RX2 114 yX2_asks, Cond.instanceMethod yX2_asks, Cond.selects RX2 yX2_asks yX2_asks, Cond.code yX2_asks cX2_asks 2 (some .boolean), Cond.methodLink RL 143 yL_isPreferred, Cond.static yL_isPreferred, Cond.codeWith yL_isPreferred cL_isPreferred 4 (some .int) [(0, 16, 19, 13)], Cond.methodLink RL 58 yX1_isPreferred, Cond.instanceMethod yX1_isPreferred, Cond.selects RX1 yX1_isPreferred yX1_isPreferred, Cond.code yX1_isPreferred cX1_isPreferred 2 (some .boolean), Cond.methodLink RX1 136 yX1_findPreferred, Cond.instanceMethod yX1_findPreferred, Cond.selects RX1 yX1_findPreferred yX1_findPreferred]
def wsL_law0_r17 : List Cond := [Cond.code yX1_findPreferred cX1_findPreferred 3 none, Cond.fieldLink RX1 139 "DefaultReasoner" "preferredTotal" "I", Cond.fieldLink RX1 178 "DefaultReasoner" "ORDERS" "[I", Cond.methodLink RX1 146 yX1_layOut, Cond.instanceMethod yX1_layOut, Cond.selects RX1 yX1_layOut yX1_layOut, Cond.code yX1_layOut cX1_layOut 7 none, Cond.methodLink RX1 160 yX1_keepsPriorities, Cond.instanceMethod yX1_keepsPriorities, Cond.selects RX1 yX1_keepsPriorities yX1_keepsPriorities, Cond.code yX1_keepsPriorities cX1_keepsPriorities 4 (some .boolean), Cond.instanceMethod yX0_comesBeforeOneOf, Cond.selects RX0 yX0_comesBeforeOneOf yX0_comesBeforeOneOf, Cond.code yX0_comesBeforeOneOf cX0_comesBeforeOneOf 3 (some .boolean), Cond.methodLink RX1 203 yX1_endOfWalk, Cond.instanceMethod yX1_endOfWalk, Cond.selects RX1 yX1_endOfWalk yX1_endOfWalk, Cond.code yX1_endOfWalk cX1_endOfWalk 4 (some .int), Cond.methodLink RX1 152 yX1_firstUsable, Cond.instanceMethod yX1_firstUsable, Cond.selects RX1 yX1_firstUsable yX1_firstUsable, Cond.code yX1_firstUsable cX1_firstUsable 3 (some .int), Cond.methodLink RX1 206 yX1_markPreferred, Cond.instanceMethod yX1_markPreferred]
def wsL_law0_r18 : List Cond := [Cond.selects RX1 yX1_markPreferred yX1_markPreferred, Cond.code yX1_markPreferred cX1_markPreferred 3 none, Cond.methodLink RL 145 yX2_isPreferred, Cond.instanceMethod yX2_isPreferred, Cond.selects RX2 yX2_isPreferred yX2_isPreferred, Cond.code yX2_isPreferred cX2_isPreferred 2 (some .boolean), Cond.methodLink RX2 117 yX2_findPreferred, Cond.instanceMethod yX2_findPreferred, Cond.selects RX2 yX2_findPreferred yX2_findPreferred, Cond.code yX2_findPreferred cX2_findPreferred 5 none, Cond.methodLink RX2 98 yX2_orders, Cond.instanceMethod yX2_orders, Cond.selects RX2 yX2_orders yX2_orders, Cond.code yX2_orders cX2_orders 3 (some .int), Cond.methodLink RX2 102 yX2_setOrder, Cond.instanceMethod yX2_setOrder, Cond.selects RX2 yX2_setOrder yX2_setOrder, Cond.code yX2_setOrder cX2_setOrder 9 none, Cond.methodLink RX2 106 yX2_respects, Cond.instanceMethod yX2_respects, Cond.selects RX2 yX2_respects yX2_respects, Cond.code yX2_respects cX2_respects 4 (some .boolean), Cond.methodLink RX2 110 yX2_walk, Cond.instanceMethod yX2_walk]
def wsL_law0_r19 : List Cond := [Cond.selects RX2 yX2_walk yX2_walk, Cond.code yX2_walk cX2_walk 5 (some .int), Cond.methodLink RX2 123 yX2_first, Cond.instanceMethod yX2_first, Cond.selects RX2 yX2_first yX2_first, Cond.code yX2_first cX2_first 5 (some .int), Cond.methodLink RL 146 yX1_preferredCount, Cond.instanceMethod yX1_preferredCount, Cond.selects RX1 yX1_preferredCount yX1_preferredCount, Cond.code yX1_preferredCount cX1_preferredCount 1 (some .int), Cond.methodLink RL 149 yX2_preferredCount, Cond.instanceMethod yX2_preferredCount, Cond.selects RX2 yX2_preferredCount yX2_preferredCount, Cond.code yX2_preferredCount cX2_preferredCount 1 (some .int), Cond.methodLink RX2 120 yX2_preferred, Cond.instanceMethod yX2_preferred, Cond.selects RX2 yX2_preferred yX2_preferred, Cond.code yX2_preferred cX2_preferred 3 (some .int), Cond.methodLink RL 150 yL_supports, Cond.static yL_supports, Cond.codeWith yL_supports cL_supports 4 (some .int) [(0, 9, 12, 13)], Cond.methodLink RL 61 yX1_supports, Cond.instanceMethod yX1_supports, Cond.selects RX1 yX1_supports yX1_supports]
def wsL_law0_r20 : List Cond := [Cond.code yX1_supports cX1_supports 4 (some .int), Cond.methodLink RL 152 yX2_supports, Cond.instanceMethod yX2_supports, Cond.selects RX2 yX2_supports yX2_supports, Cond.code yX2_supports cX2_supports 4 (some .int), Cond.methodLink RL 153 yX1_common, Cond.instanceMethod yX1_common, Cond.selects RX1 yX1_common yX1_common, Cond.code yX1_common cX1_common 4 (some .int), Cond.methodLink RL 157 yX2_common, Cond.instanceMethod yX2_common, Cond.selects RX2 yX2_common yX2_common, Cond.code yX2_common cX2_common 4 (some .int), Cond.methodLink RL 158 yL_share, Cond.static yL_share, Cond.codeWith yL_share cL_share 4 (some .int) [(0, 8, 11, 13)], Cond.methodLink RL 64 yX1_share, Cond.instanceMethod yX1_share, Cond.selects RX1 yX1_share yX1_share, Cond.code yX1_share cX1_share 4 (some .double), Cond.methodLink RL 161 yX2_share, Cond.instanceMethod yX2_share, Cond.selects RX2 yX2_share yX2_share, Cond.code yX2_share cX2_share 5 (some .double)]
def wsL_law0_r21 : List Cond := [Cond.methodLink RL 162 yL_walk, Cond.static yL_walk, Cond.codeWith yL_walk cL_walk 4 (some .int) [(0, 9, 12, 19)], Cond.methodLink RL 68 yX1_walk, Cond.instanceMethod yX1_walk, Cond.selects RX1 yX1_walk yX1_walk, Cond.code yX1_walk cX1_walk 5 (some .int), Cond.fieldLink RX1 149 "DefaultReasoner" "latestTotal" "I", Cond.methodLink RX1 143 yX1_checkOrder, Cond.instanceMethod yX1_checkOrder, Cond.selects RX1 yX1_checkOrder yX1_checkOrder, Cond.code yX1_checkOrder cX1_checkOrder 2 none, Cond.methodLink RL 164 yX2_walk_, Cond.instanceMethod yX2_walk_, Cond.selects RX2 yX2_walk_ yX2_walk_, Cond.code yX2_walk_ cX2_walk_ 6 (some .int), Cond.fieldLink RX2 130 "DefaultReasonerModel" "applied" "I", Cond.methodLink RX2 127 yX2_isOrder, Cond.instanceMethod yX2_isOrder, Cond.selects RX2 yX2_isOrder yX2_isOrder, Cond.code yX2_isOrder cX2_isOrder 2 (some .boolean), Cond.methodLink RL 165 yX1_appliedCount, Cond.instanceMethod yX1_appliedCount, Cond.selects RX1 yX1_appliedCount yX1_appliedCount]
def wsL_law0_r22 : List Cond := [Cond.code yX1_appliedCount cX1_appliedCount 1 (some .int), Cond.methodLink RL 168 yX2_appliedCount, Cond.instanceMethod yX2_appliedCount, Cond.selects RX2 yX2_appliedCount yX2_appliedCount, Cond.code yX2_appliedCount cX2_appliedCount 1 (some .int), Cond.methodLink RL 169 yL_applied, Cond.static yL_applied, Cond.codeWith yL_applied cL_applied 4 (some .int) [(0, 9, 12, 13)], Cond.methodLink RL 71 yX1_applied, Cond.instanceMethod yX1_applied, Cond.selects RX1 yX1_applied yX1_applied, Cond.code yX1_applied cX1_applied 2 (some .int), Cond.methodLink RL 171 yX2_applied, Cond.instanceMethod yX2_applied, Cond.selects RX2 yX2_applied yX2_applied, Cond.code yX2_applied cX2_applied 2 (some .int), Cond.methodLink RL 172 yL_respects, Cond.static yL_respects, Cond.codeWith yL_respects cL_respects 4 (some .int) [(0, 16, 19, 19)], Cond.methodLink RL 74 yX1_respects, Cond.instanceMethod yX1_respects, Cond.selects RX1 yX1_respects yX1_respects, Cond.code yX1_respects cX1_respects 2 (some .boolean), Cond.methodLink RL 174 yX2_respects_]
def wsL_law0_r23 : List Cond := [Cond.instanceMethod yX2_respects_, Cond.selects RX2 yX2_respects_ yX2_respects_, Cond.code yX2_respects_ cX2_respects_ 3 (some .boolean), Cond.methodLink RL 175 yX1_digest, Cond.instanceMethod yX1_digest, Cond.selects RX1 yX1_digest yX1_digest, Cond.code yX1_digest cX1_digest 5 (some .long), Cond.constantLong RX1 164 (113), Cond.methodLink RX1 166 yX1_mix, Cond.static yX1_mix, Cond.code yX1_mix cX1_mix 4 (some .long), Cond.constantLong RX1 183 (31), Cond.methodLink RL 179 yX2_digest, Cond.instanceMethod yX2_digest, Cond.selects RX2 yX2_digest yX2_digest, Cond.code yX2_digest cX2_digest 5 (some .long), Cond.constantLong RX2 133 (3503), Cond.constantLong RX2 135 (31)]
def wsL_law0 : List Cond := (wsL_law0_r1 ++ (wsL_law0_r2 ++ (wsL_law0_r3 ++ (wsL_law0_r4 ++ (wsL_law0_r5 ++ (wsL_law0_r6 ++ (wsL_law0_r7 ++ (wsL_law0_r8 ++ (wsL_law0_r9 ++ (wsL_law0_r10 ++ (wsL_law0_r11 ++ (wsL_law0_r12 ++ (wsL_law0_r13 ++ (wsL_law0_r14 ++ (wsL_law0_r15 ++ (wsL_law0_r16 ++ (wsL_law0_r17 ++ (wsL_law0_r18 ++ (wsL_law0_r19 ++ (wsL_law0_r20 ++ (wsL_law0_r21 ++ (wsL_law0_r22 ++ wsL_law0_r23)))))))))))))))))))))) ++ wsX10 ++ wsX20 ++ wsX00 ++ ([] : List Cond)
def wsL_law : List Cond := wsL_law0 ++ (vx_atS RX1 159 "java/lang/IndexOutOfBoundsException" ["java/lang/RuntimeException", "java/lang/Exception"]).filter goodWord ++ (vx_atS RX1 76 "java/lang/IllegalStateException" ["java/lang/RuntimeException", "java/lang/Exception"]).filter goodWord ++ (vx_atS RX1 101 "java/lang/IllegalArgumentException" ["java/lang/RuntimeException", "java/lang/Exception"]).filter goodWord
set_option maxRecDepth 20000 in
theorem wsL_law0_r1_in : ∀ w ∈ wsL_law0_r1, w ∈ lw_tbl := fun w h => (goodIn_p wsL_law0_r1 [59, 62] (by decide +kernel) (by decide +kernel) w h).1
set_option maxRecDepth 20000 in
theorem wsL_law0_r2_in : ∀ w ∈ wsL_law0_r2, w ∈ lw_tbl := fun w h => (goodIn_p wsL_law0_r2 [67, 538] (by decide +kernel) (by decide +kernel) w h).1
set_option maxRecDepth 20000 in
theorem wsL_law0_r3_in : ∀ w ∈ wsL_law0_r3, w ∈ lw_tbl := fun w h => (goodIn_p wsL_law0_r3 [270, 273, 179, 345] (by decide +kernel) (by decide +kernel) w h).1
set_option maxRecDepth 20000 in
theorem wsL_law0_r4_in : ∀ w ∈ wsL_law0_r4, w ∈ lw_tbl := fun w h => (goodIn_p wsL_law0_r4 [593, 596, 589, 354] (by decide +kernel) (by decide +kernel) w h).1
set_option maxRecDepth 20000 in
theorem wsL_law0_r5_in : ∀ w ∈ wsL_law0_r5, w ∈ lw_tbl := fun w h => (goodIn_p wsL_law0_r5 [357, 600, 604, 607] (by decide +kernel) (by decide +kernel) w h).1
set_option maxRecDepth 20000 in
theorem wsL_law0_r6_in : ∀ w ∈ wsL_law0_r6, w ∈ lw_tbl := fun w h => (goodIn_p wsL_law0_r6 [396, 612, 404, 616] (by decide +kernel) (by decide +kernel) w h).1
set_option maxRecDepth 20000 in
theorem wsL_law0_r7_in : ∀ w ∈ wsL_law0_r7, w ∈ lw_tbl := fun w h => (goodIn_p wsL_law0_r7 [412, 417, 421, 620, 428] (by decide +kernel) (by decide +kernel) w h).1
set_option maxRecDepth 20000 in
theorem wsL_law0_r8_in : ∀ w ∈ wsL_law0_r8, w ∈ lw_tbl := fun w h => (goodIn_p wsL_law0_r8 [432, 261, 438, 624, 628, 632, 636] (by decide +kernel) (by decide +kernel) w h).1
set_option maxRecDepth 20000 in
theorem wsL_law0_r9_in : ∀ w ∈ wsL_law0_r9, w ∈ lw_tbl := fun w h => (goodIn_p wsL_law0_r9 [142, 146, 149, 156, 640] (by decide +kernel) (by decide +kernel) w h).1
set_option maxRecDepth 20000 in
theorem wsL_law0_r10_in : ∀ w ∈ wsL_law0_r10, w ∈ lw_tbl := fun w h => (goodIn_p wsL_law0_r10 [445, 644, 160, 648, 164, 652] (by decide +kernel) (by decide +kernel) w h).1
set_option maxRecDepth 20000 in
theorem wsL_law0_r11_in : ∀ w ∈ wsL_law0_r11, w ∈ lw_tbl := fun w h => (goodIn_p wsL_law0_r11 [452, 183, 186, 189, 656] (by decide +kernel) (by decide +kernel) w h).1
set_option maxRecDepth 20000 in
theorem wsL_law0_r12_in : ∀ w ∈ wsL_law0_r12, w ∈ lw_tbl := fun w h => (goodIn_p wsL_law0_r12 [660, 663, 459, 198, 667, 671] (by decide +kernel) (by decide +kernel) w h).1
end
section
set_option maxRecDepth 20000 in
theorem wsL_law0_r13_in : ∀ w ∈ wsL_law0_r13, w ∈ lw_tbl := fun w h => (goodIn_p wsL_law0_r13 [466, 172, 176, 194, 202] (by decide +kernel) (by decide +kernel) w h).1
set_option maxRecDepth 20000 in
theorem wsL_law0_r14_in : ∀ w ∈ wsL_law0_r14, w ∈ lw_tbl := fun w h => (goodIn_p wsL_law0_r14 [206, 675, 679, 683, 473] (by decide +kernel) (by decide +kernel) w h).1
set_option maxRecDepth 20000 in
theorem wsL_law0_r15_in : ∀ w ∈ wsL_law0_r15, w ∈ lw_tbl := fun w h => (goodIn_p wsL_law0_r15 [687, 691, 168, 695, 699] (by decide +kernel) (by decide +kernel) w h).1
set_option maxRecDepth 20000 in
theorem wsL_law0_r16_in : ∀ w ∈ wsL_law0_r16, w ∈ lw_tbl := fun w h => (goodIn_p wsL_law0_r16 [480, 484, 703, 707, 492] (by decide +kernel) (by decide +kernel) w h).1
set_option maxRecDepth 20000 in
theorem wsL_law0_r17_in : ∀ w ∈ wsL_law0_r17, w ∈ lw_tbl := fun w h => (goodIn_p wsL_law0_r17 [214, 220, 224, 228, 232, 236] (by decide +kernel) (by decide +kernel) w h).1
set_option maxRecDepth 20000 in
theorem wsL_law0_r18_in : ∀ w ∈ wsL_law0_r18, w ∈ lw_tbl := fun w h => (goodIn_p wsL_law0_r18 [240, 711, 715, 719, 723, 727] (by decide +kernel) (by decide +kernel) w h).1
set_option maxRecDepth 20000 in
theorem wsL_law0_r19_in : ∀ w ∈ wsL_law0_r19, w ∈ lw_tbl := fun w h => (goodIn_p wsL_law0_r19 [731, 735, 210, 739, 743] (by decide +kernel) (by decide +kernel) w h).1
set_option maxRecDepth 20000 in
theorem wsL_law0_r20_in : ∀ w ∈ wsL_law0_r20, w ∈ lw_tbl := fun w h => (goodIn_p wsL_law0_r20 [499, 747, 244, 751, 506, 755] (by decide +kernel) (by decide +kernel) w h).1
set_option maxRecDepth 20000 in
theorem wsL_law0_r21_in : ∀ w ∈ wsL_law0_r21, w ∈ lw_tbl := fun w h => (goodIn_p wsL_law0_r21 [513, 517, 759, 763] (by decide +kernel) (by decide +kernel) w h).1
set_option maxRecDepth 20000 in
theorem wsL_law0_r22_in : ∀ w ∈ wsL_law0_r22, w ∈ lw_tbl := fun w h => (goodIn_p wsL_law0_r22 [248, 767, 525, 771, 533] (by decide +kernel) (by decide +kernel) w h).1
set_option maxRecDepth 20000 in
theorem wsL_law0_r23_in : ∀ w ∈ wsL_law0_r23, w ∈ lw_tbl := fun w h => (goodIn_p wsL_law0_r23 [775, 252, 256, 779] (by decide +kernel) (by decide +kernel) w h).1
set_option maxRecDepth 20000 in
theorem wsX10_inT : ∀ w ∈ wsX10, w ∈ lw_tbl := by decide +kernel
set_option maxRecDepth 20000 in
theorem wsX20_inT : ∀ w ∈ wsX20, w ∈ lw_tbl := by decide +kernel
set_option maxRecDepth 20000 in
theorem wsX00_inT : ∀ w ∈ wsX00, w ∈ lw_tbl := by decide +kernel
theorem wsL_law_in0 : ∀ w ∈ wsL_law0, w ∈ lw_tbl := fun w h => by
  unfold wsL_law0 at h
  exact (List.mem_append.mp h).elim (fun h => (List.mem_append.mp h).elim (fun h => (List.mem_append.mp h).elim (fun h => (List.mem_append.mp h).elim (fun h => (List.mem_append.mp h).elim (fun h => wsL_law0_r1_in w h) (fun h => (List.mem_append.mp h).elim (fun h => wsL_law0_r2_in w h) (fun h => (List.mem_append.mp h).elim (fun h => wsL_law0_r3_in w h) (fun h => (List.mem_append.mp h).elim (fun h => wsL_law0_r4_in w h) (fun h => (List.mem_append.mp h).elim (fun h => wsL_law0_r5_in w h) (fun h => (List.mem_append.mp h).elim (fun h => wsL_law0_r6_in w h) (fun h => (List.mem_append.mp h).elim (fun h => wsL_law0_r7_in w h) (fun h => (List.mem_append.mp h).elim (fun h => wsL_law0_r8_in w h) (fun h => (List.mem_append.mp h).elim (fun h => wsL_law0_r9_in w h) (fun h => (List.mem_append.mp h).elim (fun h => wsL_law0_r10_in w h) (fun h => (List.mem_append.mp h).elim (fun h => wsL_law0_r11_in w h) (fun h => (List.mem_append.mp h).elim (fun h => wsL_law0_r12_in w h) (fun h => (List.mem_append.mp h).elim (fun h => wsL_law0_r13_in w h) (fun h => (List.mem_append.mp h).elim (fun h => wsL_law0_r14_in w h) (fun h => (List.mem_append.mp h).elim (fun h => wsL_law0_r15_in w h) (fun h => (List.mem_append.mp h).elim (fun h => wsL_law0_r16_in w h) (fun h => (List.mem_append.mp h).elim (fun h => wsL_law0_r17_in w h) (fun h => (List.mem_append.mp h).elim (fun h => wsL_law0_r18_in w h) (fun h => (List.mem_append.mp h).elim (fun h => wsL_law0_r19_in w h) (fun h => (List.mem_append.mp h).elim (fun h => wsL_law0_r20_in w h) (fun h => (List.mem_append.mp h).elim (fun h => wsL_law0_r21_in w h) (fun h => (List.mem_append.mp h).elim (fun h => wsL_law0_r22_in w h) (fun h => wsL_law0_r23_in w h))))))))))))))))))))))) (fun h => wsX10_inT w h)) (fun h => wsX20_inT w h)) (fun h => wsX00_inT w h)) (fun h => absurd h List.not_mem_nil)
theorem wsL_law_x0 : ∀ w ∈ (vx_atS RX1 159 "java/lang/IndexOutOfBoundsException" ["java/lang/RuntimeException", "java/lang/Exception"]).filter goodWord, w ∈ lw_tbl := by decide +kernel
theorem wsL_law_x1 : ∀ w ∈ (vx_atS RX1 76 "java/lang/IllegalStateException" ["java/lang/RuntimeException", "java/lang/Exception"]).filter goodWord, w ∈ lw_tbl := by decide +kernel
theorem wsL_law_x2 : ∀ w ∈ (vx_atS RX1 101 "java/lang/IllegalArgumentException" ["java/lang/RuntimeException", "java/lang/Exception"]).filter goodWord, w ∈ lw_tbl := by decide +kernel
theorem wsL_law_in : ∀ w ∈ wsL_law, w ∈ lw_tbl := fun w h => (List.mem_append.mp h).elim (fun h => (List.mem_append.mp h).elim (fun h => (List.mem_append.mp h).elim (fun h => wsL_law_in0 w h) (fun h => wsL_law_x0 w h)) (fun h => wsL_law_x1 w h)) (fun h => wsL_law_x2 w h)
theorem inlX0 : ∀ w ∈ wsX00, w ∈ wsL_law := fun _ h => List.mem_append_left _ (List.mem_append_left _ (List.mem_append_left _ (List.mem_append_left _ (List.mem_append_right _ h))))
theorem inX0 : ∀ w ∈ wsX00, w ∈ lw_tbl := fun w h => wsL_law_in w (inlX0 w h)
theorem inlX1 : ∀ w ∈ wsX10, w ∈ wsL_law := fun _ h => List.mem_append_left _ (List.mem_append_left _ (List.mem_append_left _ (List.mem_append_left _ (List.mem_append_left _ (List.mem_append_left _ (List.mem_append_right _ h))))))
theorem inX1 : ∀ w ∈ wsX10, w ∈ lw_tbl := fun w h => wsL_law_in w (inlX1 w h)
theorem inlX2 : ∀ w ∈ wsX20, w ∈ wsL_law := fun _ h => List.mem_append_left _ (List.mem_append_left _ (List.mem_append_left _ (List.mem_append_left _ (List.mem_append_left _ (List.mem_append_right _ h)))))
theorem inX2 : ∀ w ∈ wsX20, w ∈ lw_tbl := fun w h => wsL_law_in w (inlX2 w h)
theorem inJ6 : ∀ w ∈ wsJ60, w ∈ lw_tbl := by decide +kernel
theorem inJ0 : ∀ w ∈ wsJ00, w ∈ lw_tbl := by decide +kernel
abbrev vwCl : List vw_C := [(RX0, TX0, 2), (RX1, TX1, 20), (RX2, TX2, 15)]
end
section
/-! MY OWN KIT: worlds of single objects, one environment, contracts and calls in short -/
section GBase
abbrev gIO : String := "java/lang/IndexOutOfBoundsException"
abbrev gIA : String := "java/lang/IllegalArgumentException"
abbrev gIS : String := "java/lang/IllegalStateException"
/-- ids of the array classes: int[], boolean[], long[], double[] -/
abbrev gTy : Type := ClassId × ClassId × ClassId × ClassId
abbrev gTys (k : gTy) : List (ClassId × FieldType) := [(k.1, .int), (k.2.1, .boolean), (k.2.2.1, .long), (k.2.2.2, .double)]
/-- what stays through a run: ids of classes and fields, of array classes, the places of the texts, the place of ORDERS -/
abbrev gG : Type := va_G × gTy × (Nat → Nat) × Nat
/-- the number of orders of n defaults, as ORDERS has it -/
def gOrd (j : Nat) : Int32 := match j with
  | 0 => 1
  | 1 => 1
  | 2 => 2
  | 3 => 6
  | 4 => 24
  | 5 => 120
  | _ => 720
/-- the texts of the class's throws: place in its pool, text -/
def gStr : List (Nat × String) := [(74, "there are 16 strict rules"), (82, "there are 6 defaults"), (84, "there is no strict rule"), (86, "there is no default"), (99, "a default would come before itself"), (157, "the latest walk has no such index"), (170, "a literal is 0 to 15"), (172, "a set is 0 to 65535"), (174, "there is no such default"), (176, "there is no such extension"), (181, "there is no such order")]
def gCa (C T : String) (U : State) : Prop := ∃ c t : ClassId, U.vm.findClass C = some c ∧ U.vm.findClass T = some t ∧ U.vm.assignable c t = true
theorem gCa.moved {C T : String} {u U : State} (hvm : u.vm.Alike U.vm) (h : gCa C T u) : gCa C T U := by
  obtain ⟨c, t, h1, h2, h3⟩ := h
  exact ⟨c, t, by rw [hvm.findClass]; exact h1, by rw [hvm.findClass]; exact h2, by rw [hvm.assignable]; exact h3⟩
theorem gCa.of {args : Array Value} {s : State} {C T : String} (h : (Cond.castable C T).before args s = true) : gCa C T s := by
  obtain ⟨c, t, h1, h2, h3⟩ := Cond.castable_spec h
  exact ⟨c, t, h1, h2, h3⟩
theorem gCa.use {args : Array Value} {s : State} {C T : String} (h : gCa C T s) : (Cond.castable C T).before args s = true := by
  obtain ⟨c, t, h1, h2, h3⟩ := h
  simp [Cond.before, Cond.holds, Cond.value, h1, h2, h3]
def gNest : List Cond := [.methodLinkNest RX1 27 yX0_init RX1, .methodLinkNest RX1 110 yX0_pairs RX1, .methodLinkNest RX1 114 yX0_clear RX1]
def gSup : List String := ["java/lang/RuntimeException", "java/lang/Exception"]
def gDecs : List Cond := [.declares (Bundle.initS "java/lang/RuntimeException"), .declares (Bundle.initS "java/lang/Exception"), .declares (Bundle.initS Bundle.tN)]
/-- of the tables: texts, castable or not, nest mates, constructors above -/
def gTab (sa : Nat → Nat) (U : State) : Prop := (∀ q ∈ gStr, vk_R RX1 q.1 q.2 (sa q.1) U) ∧ (gCa gIO gIO U ∧ gCa gIA gIA U ∧ gCa gIS gIS U) ∧ (va_Nc gIA gIO U ∧ va_Nc gIS gIO U ∧ va_Nc gIS gIA U) ∧ (∀ w ∈ gNest, va_Nw w U) ∧ ∀ w ∈ gDecs, va_Nw w U
theorem gTab.same {sa : Nat → Nat} {u U : State} (hv : U.vm = u.vm) (h : gTab sa u) : gTab sa U := by
  have ha : u.vm.Alike U.vm := by rw [hv]; exact Vm.Alike.refl u.vm
  obtain ⟨h1, ⟨a1, a2, a3⟩, ⟨b1, b2, b3⟩, h4, h5⟩ := h
  refine ⟨fun q hq => vk_R.same hv (h1 q hq), ⟨a1.moved ha, a2.moved ha, a3.moved ha⟩, ⟨b1.moved ha, b2.moved ha, b3.moved ha⟩, fun w hw => ?_, fun w hw => ?_⟩
  · have hz := h4 w hw
    simp only [gNest, List.mem_cons, List.not_mem_nil, or_false] at hw
    rcases hw with rfl | rfl | rfl <;> exact va_Nw.same rfl hv.symm hz
  · have hz := h5 w hw
    simp only [gDecs, List.mem_cons, List.not_mem_nil, or_false] at hw
    rcases hw with rfl | rfl | rfl <;> exact va_Nw.same rfl hv.symm hz
theorem gTab.warm {sa : Nat → Nat} {s U : State} (hW : s.WarmedH U.vm) (h : gTab sa s) : gTab sa U := by
  have ha : s.vm.Alike U.vm := hW.alike
  obtain ⟨h1, ⟨a1, a2, a3⟩, ⟨b1, b2, b3⟩, h4, h5⟩ := h
  refine ⟨fun q hq => vk_R.warm hW (h1 q hq), ⟨a1.moved ha, a2.moved ha, a3.moved ha⟩, ⟨b1.moved ha, b2.moved ha, b3.moved ha⟩, fun w hw => ?_, fun w hw => ?_⟩
  · have hz := h4 w hw
    simp only [gNest, List.mem_cons, List.not_mem_nil, or_false] at hw
    rcases hw with rfl | rfl | rfl <;> exact va_Nw.warmM hW hz
  · have hz := h5 w hw
    simp only [gDecs, List.mem_cons, List.not_mem_nil, or_false] at hw
    rcases hw with rfl | rfl | rfl <;> exact va_Nw.warmD hW hz
/-- of statics: those that a throw carries, and ORDERS -/
def gSta (oA : Nat) (A : Nat → Prop) (U : State) (H : Heap) : Prop := vx_Zq Bundle.tN "UNASSIGNED_STACK" Bundle.steD A U H ∧ vx_Zq Bundle.tN "SUPPRESSED_SENTINEL" Bundle.listD A U H ∧ va_Z RX1 "ORDERS" "[I" (.ref oA) A U H ∧ va_T .int oA 7 (fun j => .int (gOrd j)) A U H
theorem gSta.moved {oA : Nat} {A : Nat → Prop} {u U : State} {H : Heap} (hvm : u.vm.Alike U.vm) (h : gSta oA A u H) : gSta oA A U H := ⟨h.1.moved hvm, h.2.1.moved hvm, h.2.2.1.moved hvm, h.2.2.2.moved hvm⟩
theorem gSta.kept {oA : Nat} {A : Nat → Prop} {U : State} {H H1 : Heap} (h : gSta oA A U H) (hq : ∀ a : Nat, a < H.size → ¬ A a → H1[a]? = H[a]?) : gSta oA A U H1 := ⟨h.1.kept hq, h.2.1.kept hq, h.2.2.1.kept hq, h.2.2.2.kept hq⟩
theorem gSta.narrow {oA : Nat} {A B : Nat → Prop} {U : State} {H : Heap} (h : gSta oA A U H) (hAB : ∀ q, B q → A q) : gSta oA B U H := ⟨h.1.narrow hAB, h.2.1.narrow hAB, h.2.2.1.narrow hAB, h.2.2.2.narrow hAB⟩
def gEnv (g : gG) (A : Nat → Prop) (U : State) (H : Heap) : Prop := gTab g.2.2.1 U ∧ gSta g.2.2.2 A U H
/-- a contract's start: the cells ws lie apart in the heap, the classes are known, the environment stands -/
def gPre (g : gG) (ws : va_W) (sz : Nat) (U : State) : Prop := U.heap.size = sz ∧ va_P g.1 vwCl ws U.heap ∧ va_K g.1 vwCl (gTys g.2.1) U ∧ va_D (fun _ => True) ws ∧ gEnv g (va_A ws sz) U U.heap
/-- .. and its end -/
def gPost (g : gG) (A : Nat → Prop) (ws : va_W) (t : State) : Prop := va_P g.1 vwCl ws t.heap ∧ va_D A ws
theorem gPre.blind {g : gG} {av : List Value} {ws : va_W} {sz : Nat} : FrameBlind (va_Pc av (gPre g ws sz)) := by
  intro a U f mk q
  obtain ⟨q0, q1, qP, qK, qD, qT, qS⟩ := q
  exact ⟨q0, q1, qP, va_K.moved (u := U) (U := U.calling f mk a) (Vm.Alike.refl U.vm) qK, qD, qT.same (u := U) (U := U.calling f mk a) rfl, qS.moved (u := U) (U := U.calling f mk a) (Vm.Alike.refl U.vm)⟩
/-- contracts: void, int (and boolean), long, double; then those that may throw -/
abbrev gMv (l : Launch) (y : MethodName) (wy : List Cond) (rm : Room) (g : gG) (av : List Value) (ws : va_W) (sz : Nat) {S : Type} (post : S → Prop) (ws' : S → va_W) (mc ms : Nat) : Prop :=
  Met l y wy rm (va_Pc av (gPre g ws sz)) (va_Qv post (fun u t => gPost g (va_A ws sz) (ws' u) t) (va_A ws sz)) mc ms (va_A ws sz)
abbrev gMi (l : Launch) (y : MethodName) (wy : List Cond) (rm : Room) (g : gG) (av : List Value) (ws : va_W) (sz : Nat) {S : Type} (post : Int32 → S → Prop) (ws' : S → va_W) (mc ms : Nat) : Prop :=
  Met l y wy rm (va_Pc av (gPre g ws sz)) (va_Qi post (fun u t => gPost g (va_A ws sz) (ws' u) t) (va_A ws sz)) mc ms (va_A ws sz)
abbrev gMl (l : Launch) (y : MethodName) (wy : List Cond) (rm : Room) (g : gG) (av : List Value) (ws : va_W) (sz : Nat) {S : Type} (post : Int64 → S → Prop) (ws' : S → va_W) (mc ms : Nat) : Prop :=
  Met l y wy rm (va_Pc av (gPre g ws sz)) (va_Ql post (fun u t => gPost g (va_A ws sz) (ws' u) t) (va_A ws sz)) mc ms (va_A ws sz)
abbrev gMd (l : Launch) (y : MethodName) (wy : List Cond) (rm : Room) (g : gG) (av : List Value) (ws : va_W) (sz : Nat) {S : Type} (post : UInt64 → S → Prop) (ws' : S → va_W) (mc ms : Nat) : Prop :=
  Met l y wy rm (va_Pc av (gPre g ws sz)) (va_Qd post (fun u t => gPost g (va_A ws sz) (ws' u) t) (va_A ws sz)) mc ms (va_A ws sz)
/-- what is said where one throws: of the class of what is thrown -/
abbrev gThr (px : String → Prop) (A : Nat → Prop) : String → State → State → Prop := vx_X (fun _ : Unit => True) (fun E _ _ => px E) A
abbrev gXv (l : Launch) (y : MethodName) (wy : List Cond) (rm : Room) (g : gG) (av : List Value) (ws : va_W) (sz : Nat) {S : Type} (post : S → Prop) (ws' : S → va_W) (px : String → Prop) (mc ms : Nat) : Prop :=
  vx_Met l y wy rm (va_Pc av (gPre g ws sz)) (va_Qv post (fun u t => gPost g (va_A ws sz) (ws' u) t) (va_A ws sz)) (gThr px (va_A ws sz)) mc ms (va_A ws sz)
abbrev gXi (l : Launch) (y : MethodName) (wy : List Cond) (rm : Room) (g : gG) (av : List Value) (ws : va_W) (sz : Nat) {S : Type} (post : Int32 → S → Prop) (ws' : S → va_W) (px : String → Prop) (mc ms : Nat) : Prop :=
  vx_Met l y wy rm (va_Pc av (gPre g ws sz)) (va_Qi post (fun u t => gPost g (va_A ws sz) (ws' u) t) (va_A ws sz)) (gThr px (va_A ws sz)) mc ms (va_A ws sz)
abbrev gXd (l : Launch) (y : MethodName) (wy : List Cond) (rm : Room) (g : gG) (av : List Value) (ws : va_W) (sz : Nat) {S : Type} (post : UInt64 → S → Prop) (ws' : S → va_W) (px : String → Prop) (mc ms : Nat) : Prop :=
  vx_Met l y wy rm (va_Pc av (gPre g ws sz)) (va_Qd post (fun u t => gPost g (va_A ws sz) (ws' u) t) (va_A ws sz)) (gThr px (va_A ws sz)) mc ms (va_A ws sz)
/-- a body's start -/
theorem g_of {l : Launch} {y : MethodName} {wy ws0 : List Cond} {rm : Room} {cc : ByteArray} {maxL : Nat} {ret : Option FieldType} {g : gG} {av : List Value} {ws : va_W} {sz mc ms : Nat} {Qc : (Nat → Prop) → Array Value → State → Outcome → State → Prop}
    (hy : plainName y.cls = true) (hw : wy = Cond.code y cc maxL ret :: ws0) (hlen : (lg_sl av).length ≤ maxL)
    (body : ∀ (p : Program) (e : Env) (s : State) (m : MethodId) (below : List Frame) (meth : Method) (c : Code) (A : Nat → Prop) (ls : Array Slot), p.tables.exec = Jvm.exec → c.code = cc → meth.sig.returnType = ret → c.maxLocals = maxL → s.vm.findClass y.cls = some m.cls → (∀ w ∈ wy, w.before av.toArray s = true) → meth.locks = false → meth.name = y.name →
      (∀ q, s.heap.size ≤ q → A q) → va_K g.1 vwCl (gTys g.2.1) s → gEnv g A s s.heap → va_P g.1 vwCl ws s.heap → va_D A ws → va_S A s.heap s.heap [] → lv_has ls maxL (lv_args 0 av) →
      W p l e rm s m av.toArray below meth c s.heap [] 0 0 (MQ below (Qc A) av.toArray s mc ms A) (F0 m 0 ls [])) :
    Met l y wy rm (va_Pc av (gPre g ws sz)) (Qc (va_A ws sz)) mc ms (va_A ws sz) := by
  refine Met.ofW (cc := cc) (maxL := maxL) (ret := ret) hy hw ?_
  intro p e s m args below meth c s₁ B hml hv
  obtain ⟨rfl, hsz, hP, hK, hD0, hE⟩ := hv
  subst hsz
  rw [lg_entry_eq]
  exact body p e s m below meth c (va_A ws s.heap.size) _ B.exec B.bytes B.returns hml (findClass_of_methodNamed B.named) (atoms_spec (ws := wy) B.pre) B.notSynchronized (name_of_methodNamed B.named B.method).1 (fun q h => Or.inr h) hK hE hP (hD0.self (sz := s.heap.size)) va_S.rf (lv_entry av (n := maxL) hlen)
theorem gx_of {l : Launch} {y : MethodName} {wy ws0 : List Cond} {rm : Room} {cc : ByteArray} {maxL : Nat} {ret : Option FieldType} {g : gG} {av : List Value} {ws : va_W} {sz mc ms : Nat} {Qc : (Nat → Prop) → Array Value → State → Outcome → State → Prop} {XC : (Nat → Prop) → String → State → State → Prop}
    (hy : plainName y.cls = true) (hw : wy = Cond.code y cc maxL ret :: ws0) (hlen : (lg_sl av).length ≤ maxL)
    (body : ∀ (p : Program) (e : Env) (s : State) (m : MethodId) (below : List Frame) (meth : Method) (c : Code) (A : Nat → Prop) (ls : Array Slot), p.tables.exec = Jvm.exec → c.code = cc → meth.sig.returnType = ret → c.maxLocals = maxL → s.vm.findClass y.cls = some m.cls → (∀ w ∈ wy, w.before av.toArray s = true) → meth.locks = false → (∀ x ∈ c.exceptionTable.toList, False) →
      (∀ q, s.heap.size ≤ q → A q) → va_K g.1 vwCl (gTys g.2.1) s → gEnv g A s s.heap → va_P g.1 vwCl ws s.heap → va_D A ws → va_S A s.heap s.heap [] → lv_has ls maxL (lv_args 0 av) →
      W p l e rm s m av.toArray below meth c s.heap [] 0 0 (vx_MQ below (Qc A) (XC A) av.toArray s mc ms A) (F0 m 0 ls [])) :
    vx_Met l y wy rm (va_Pc av (gPre g ws sz)) (Qc (va_A ws sz)) (XC (va_A ws sz)) mc ms (va_A ws sz) := by
  refine vx_ofW (cc := cc) (maxL := maxL) (ret := ret) hy hw ?_
  intro p e s m args below meth c s₁ B hml htab hv
  obtain ⟨rfl, hsz, hP, hK, hD0, hE⟩ := hv
  subst hsz
  rw [lg_entry_eq]
  exact body p e s m below meth c (va_A ws s.heap.size) _ B.exec B.bytes B.returns hml (findClass_of_methodNamed B.named) (atoms_spec (ws := wy) B.pre) B.notSynchronized htab (fun q h => Or.inr h) hK hE hP (hD0.self (sz := s.heap.size)) va_S.rf (lv_entry av (n := maxL) hlen)
/-- .. of a method with handlers that lets nothing out -/
theorem gh_of {l : Launch} {y : MethodName} {wy ws0 : List Cond} {rm : Room} {cc : ByteArray} {maxL : Nat} {ret : Option FieldType} {hh : List (Nat × Nat × Nat × Nat)} {g : gG} {av : List Value} {ws : va_W} {sz mc ms : Nat} {Qc : (Nat → Prop) → Array Value → State → Outcome → State → Prop}
    (hy : plainName y.cls = true) (hw : wy = Cond.codeWith y cc maxL ret hh :: ws0) (hlen : (lg_sl av).length ≤ maxL)
    (body : ∀ (p : Program) (e : Env) (s : State) (m : MethodId) (below : List Frame) (meth : Method) (c : Code) (A : Nat → Prop) (ls : Array Slot), p.tables.exec = Jvm.exec → c.code = cc → meth.sig.returnType = ret → c.maxLocals = maxL → s.vm.findClass y.cls = some m.cls → (∀ w ∈ wy, w.before av.toArray s = true) → meth.locks = false → c.exceptionTable.toList = tableOf hh →
      (∀ q, s.heap.size ≤ q → A q) → va_K g.1 vwCl (gTys g.2.1) s → gEnv g A s s.heap → va_P g.1 vwCl ws s.heap → va_D A ws → va_S A s.heap s.heap [] → lv_has ls maxL (lv_args 0 av) →
      W p l e rm s m av.toArray below meth c s.heap [] 0 0 (MQ below (Qc A) av.toArray s mc ms A) (F0 m 0 ls [])) :
    Met l y wy rm (va_Pc av (gPre g ws sz)) (Qc (va_A ws sz)) mc ms (va_A ws sz) := by
  refine va_MetW (cc := cc) (maxL := maxL) (ret := ret) (hh := hh) hy hw ?_
  intro p e s m args below meth c s₁ B hml hv
  obtain ⟨rfl, hsz, hP, hK, hD0, hE⟩ := hv
  subst hsz
  rw [lg_entry_eq]
  have hts := atoms_spec (ws := wy) B.pre
  exact body p e s m below meth c (va_A ws s.heap.size) _ B.exec B.bytes B.returns hml (findClass_of_methodNamed B.named) hts B.notSynchronized (vx_table (x := y) B (hts _ (by rw [hw]; exact List.mem_cons_self))) (fun q h => Or.inr h) hK hE hP (hD0.self (sz := s.heap.size)) va_S.rf (lv_entry av (n := maxL) hlen)
end GBase
end
section
section GRows
variable {p : Program} {l : Launch} {e : Env} {R : Room} {s : State} {m : MethodId} {args : Array Value} {below : List Frame} {meth : Method} {c : Code} {H : Heap} {locs : List Loc} {cells slots : Nat} {Q : State → Prop}
variable {cc : ByteArray} {pc : Nat} {ls : Array Slot} {rest st0 : List Value} {A : Nat → Prop} {g : gG} {ws : va_W}
/-- another text for what lies on top -/
theorem sy_i {x y : Int32} (h : x = y) (k : W p l e R s m args below meth c H locs cells slots Q (F0 m pc ls (.int y :: rest))) : W p l e R s m args below meth c H locs cells slots Q (F0 m pc ls (.int x :: rest)) := h ▸ k
theorem sy_l {x y : Int64} (h : x = y) (k : W p l e R s m args below meth c H locs cells slots Q (F0 m pc ls (.long y :: rest))) : W p l e R s m args below meth c H locs cells slots Q (F0 m pc ls (.long x :: rest)) := h ▸ k
theorem sy_d {x y : UInt64} (h : x = y) (k : W p l e R s m args below meth c H locs cells slots Q (F0 m pc ls (.double y :: rest))) : W p l e R s m args below meth c H locs cells slots Q (F0 m pc ls (.double x :: rest)) := h ▸ k
/-- ends -/
theorem g_ir {S : Type} {post : Int32 → S → Prop} {ws' : S → va_W} {v : Int32} {mc ms : Nat} (hx : p.tables.exec = Jvm.exec) (hb : c.code = cc) (hr : meth.sig.returnType = some .int) (hlocks : meth.locks = false) (hP : va_P g.1 vwCl ws H) (hD : va_D A ws) (hS : va_S A s.heap H locs) (u : S) (is : List Nat) (h1 : is.filterMap (fun i => ws[i]?) = ws' u) (hn : va_nd is = true) (h2 : is.map (fun i => ws[i]?) = (ws' u).map some) (hdg : decode cc pc = .ok (.ireturn, 1)) (hc : cells ≤ mc) (hs : slots ≤ ms) (hp : post v u) :
    W p l e R s m args below meth c H locs cells slots (MQ below (va_Qi post (fun u t => gPost g A (ws' u) t) A) args s mc ms A) (F0 m pc ls [.int v]) :=
  W.widen hc hs (W.iret (v := v) hx hb hr (fun t ht hW => ⟨⟨v, u, rfl, hp, by rw [ht]; exact hP.sub is h1, hD.sub is hn h2⟩, hS.F ht⟩) hS.2.2 hdg hlocks)
theorem g_zr {S : Type} {post : Int32 → S → Prop} {ws' : S → va_W} {v : Int32} {mc ms : Nat} (hx : p.tables.exec = Jvm.exec) (hb : c.code = cc) (hr : meth.sig.returnType = some .boolean) (hlocks : meth.locks = false) (hP : va_P g.1 vwCl ws H) (hD : va_D A ws) (hS : va_S A s.heap H locs) (u : S) (is : List Nat) (h1 : is.filterMap (fun i => ws[i]?) = ws' u) (hn : va_nd is = true) (h2 : is.map (fun i => ws[i]?) = (ws' u).map some) (hdg : decode cc pc = .ok (.ireturn, 1)) (hc : cells ≤ mc) (hs : slots ≤ ms) (hv : v = 0 ∨ v = 1) (hp : post v u) :
    W p l e R s m args below meth c H locs cells slots (MQ below (va_Qi post (fun u t => gPost g A (ws' u) t) A) args s mc ms A) (F0 m pc ls [.int v]) :=
  W.widen hc hs (W.zret (v := v) hx hb hr (by rcases hv with rfl | rfl <;> rfl) (fun t ht hW => ⟨⟨v, u, rfl, hp, by rw [ht]; exact hP.sub is h1, hD.sub is hn h2⟩, hS.F ht⟩) hS.2.2 hdg hlocks)
theorem g_lr {S : Type} {post : Int64 → S → Prop} {ws' : S → va_W} {v : Int64} {mc ms : Nat} (hx : p.tables.exec = Jvm.exec) (hb : c.code = cc) (hr : meth.sig.returnType = some .long) (hlocks : meth.locks = false) (hP : va_P g.1 vwCl ws H) (hD : va_D A ws) (hS : va_S A s.heap H locs) (u : S) (is : List Nat) (h1 : is.filterMap (fun i => ws[i]?) = ws' u) (hn : va_nd is = true) (h2 : is.map (fun i => ws[i]?) = (ws' u).map some) (hdg : decode cc pc = .ok (.lreturn, 1)) (hc : cells ≤ mc) (hs : slots ≤ ms) (hp : post v u) :
    W p l e R s m args below meth c H locs cells slots (MQ below (va_Ql post (fun u t => gPost g A (ws' u) t) A) args s mc ms A) (F0 m pc ls [.long v]) :=
  W.widen hc hs (W.lret (v := v) hx hb hr (fun t ht hW => ⟨⟨v, u, rfl, hp, by rw [ht]; exact hP.sub is h1, hD.sub is hn h2⟩, hS.F ht⟩) hS.2.2 hdg hlocks)
theorem g_dr {S : Type} {post : UInt64 → S → Prop} {ws' : S → va_W} {v : UInt64} {mc ms : Nat} (hx : p.tables.exec = Jvm.exec) (hb : c.code = cc) (hr : meth.sig.returnType = some .double) (hlocks : meth.locks = false) (hP : va_P g.1 vwCl ws H) (hD : va_D A ws) (hS : va_S A s.heap H locs) (u : S) (is : List Nat) (h1 : is.filterMap (fun i => ws[i]?) = ws' u) (hn : va_nd is = true) (h2 : is.map (fun i => ws[i]?) = (ws' u).map some) (hdg : decode cc pc = .ok (.dreturn, 1)) (hc : cells ≤ mc) (hs : slots ≤ ms) (hp : post v u) :
    W p l e R s m args below meth c H locs cells slots (MQ below (va_Qd post (fun u t => gPost g A (ws' u) t) A) args s mc ms A) (F0 m pc ls [.double v]) :=
  W.widen hc hs (W.dret (v := v) hx hb hr (fun t ht hW => ⟨⟨v, u, rfl, hp, by rw [ht]; exact hP.sub is h1, hD.sub is hn h2⟩, hS.F ht⟩) hS.2.2 hdg hlocks)
theorem g_vr {S : Type} {post : S → Prop} {ws' : S → va_W} {mc ms : Nat} (hx : p.tables.exec = Jvm.exec) (hb : c.code = cc) (hr : meth.sig.returnType = none) (hlocks : meth.locks = false) (hP : va_P g.1 vwCl ws H) (hD : va_D A ws) (hS : va_S A s.heap H locs) (u : S) (is : List Nat) (h1 : is.filterMap (fun i => ws[i]?) = ws' u) (hn : va_nd is = true) (h2 : is.map (fun i => ws[i]?) = (ws' u).map some) (hdg : decode cc pc = .ok (.return_, 1)) (hc : cells ≤ mc) (hs : slots ≤ ms) (hp : post u) :
    W p l e R s m args below meth c H locs cells slots (MQ below (va_Qv post (fun u t => gPost g A (ws' u) t) A) args s mc ms A) (F0 m pc ls []) :=
  W.widen hc hs (W.vret hx hb hr (fun t ht hW => ⟨⟨u, rfl, hp, by rw [ht]; exact hP.sub is h1, hD.sub is hn h2⟩, hS.F ht⟩) hS.2.2 hdg hlocks)
/-- a new array, its class known -/
theorem g_newa (hx : p.tables.exec = Jvm.exec) (hb : c.code = cc) {atype : ArrayType} (harr : (Cond.arrayClass (newarray.typeOf atype)).before args s = true) {ty : FieldType} (hty : newarray.typeOf atype = ty) (hK : va_K g.1 vwCl (gTys g.2.1) s) (t0 : Nat) {cA : ClassId} (ht : (gTys g.2.1)[t0]? = some (cA, ty)) (hra : ∀ z : ClassId, va_RA s z ty → s.vm.findClass ("[" ++ ty.toString) = some z) (hP : va_P g.1 vwCl ws H) (hD : va_D A ws) (hS : va_S A s.heap H locs) (hA : ∀ q, s.heap.size ≤ q → A q)
    {n : Int32} {N' : Nat} {a0 : vp_A} (ha : ∀ cA : ClassId, vp_cell cA a0 = arrV cA N' (fun _ => defaultValue ty)) (hn : ¬ n < 0) (hN : n.toNatClampNeg = N') (hbytes : N' * componentBytes ty ≤ 536870912) (hcells : cells + 1 ≤ R.cells) (hslots : slots + N' ≤ R.slots) (hdg : decode cc pc = .ok (.newarray atype, 2))
    (kk : ∀ (q : Nat) (H1 : Heap), va_P g.1 vwCl (ws ++ [(q, .inl (cA, a0))]) H1 → va_D A (ws ++ [(q, .inl (cA, a0))]) → va_S A s.heap H1 locs →
      W p l e R s m args below meth c H1 locs (cells + 1) (slots + N') Q (F0 m (pc + 2) ls (.ref q :: rest))) : W p l e R s m args below meth c H locs cells slots Q (F0 m pc ls (.int n :: rest)) := by
  refine va_newa hx hb harr hty hK hP hD hS hA ha hn hN hbytes hcells hslots hdg (fun q cB H1 hK1 hP1 hD1 hS1 => ?_)
  have e1 := hra _ (hK1.2 4 (cB, ty) rfl).2
  have e2 := hra _ (hK.2 t0 _ ht).2
  have e3 : cB = cA := Option.some.inj (e1.symm.trans e2)
  subst e3
  exact kk q H1 hP1 hD1 hS1
/-- the environment where a callee starts -/
theorem gEnv.to {wc : va_W} {U : State} (hE : gEnv g A s s.heap) (hS : va_S A s.heap H locs) (hFc : ∀ q, va_A wc H.size q → A q) (hU : U.heap = H) (hW : s.WarmedH U.vm) : gEnv g (va_A wc H.size) U U.heap := by
  rw [hU]
  exact ⟨hE.1.warm hW, ((hE.2.kept hS.2.1).narrow hFc).moved hW.alike⟩
section Runs
variable {y : MethodName} {wy ws0 : List Cond} {rm : Room} {As : List Value} {b : Nat} {wc : va_W} {mc ms n index maxL nL ci N q0 : Nat} {bytes : ByteArray} {ret : Option FieldType} {Ts : List Cond} {own C host : String} {T : u_T} {fs : List Value} {Qc : Array Value → State → Outcome → State → Prop} {XC : String → State → State → Prop} {free : Addr → Prop} {hh : List (Nat × Nat × Nat × Nat)}
theorem gp_S (hK : va_K g.1 vwCl (gTys g.2.1) s) (hE : gEnv g A s s.heap) (hA : ∀ q, s.heap.size ≤ q → A q) (hP : va_P g.1 vwCl ws H) (hD : va_D A ws) (hS : va_S A s.heap H locs) (isC : List Nat) (h1 : isC.filterMap (fun i => ws[i]?) = wc) (hnC : va_nd isC = true) (hC : isC.map (fun i => ws[i]?) = wc.map some) : PreS s H (va_Pc As (gPre g wc H.size)) As := by
  have hFc := va_free (wc := wc) hD hS hA isC hC
  have hDc : va_D A wc := hD.sub isC hnC hC
  exact ⟨gPre.blind, fun U hU hW => ⟨rfl, by rw [hU], by rw [hU]; exact hP.sub isC h1, va_K.moved hW.alike hK, hDc.weaken (fun _ _ _ _ => trivial), hE.to hS hFc hU hW⟩⟩
theorem gp_V (hK : va_K g.1 vwCl (gTys g.2.1) s) (hE : gEnv g A s s.heap) (hA : ∀ q, s.heap.size ≤ q → A q) (hP : va_P g.1 vwCl ws H) (hD : va_D A ws) (hS : va_S A s.heap H locs) (isC : List Nat) (h1 : isC.filterMap (fun i => ws[i]?) = wc) (hnC : va_nd isC = true) (hC : isC.map (fun i => ws[i]?) = wc.map some) (he : wc[q0]? = some (b, .inr (ci, fs))) (hcl : vwCl[ci]? = some (C, T, N)) : PreV s H C b (va_Pc (.ref b :: As) (gPre g wc H.size)) As := by
  have hPc : va_P g.1 vwCl wc H := hP.sub isC h1
  exact ⟨gPre.blind, va_recv hK hPc hcl he, (gp_S hK hE hA hP hD hS isC h1 hnC hC).2⟩
theorem gr_V (F : CallFix p m c cc nL s args Ts own) (hM : Met l y wy rm (va_Pc (.ref b :: As) (gPre g wc H.size)) Qc mc ms free) (hG : GoodIn Ts (wsV own index C y wy)) (hw : wy = Cond.code y bytes maxL ret :: ws0) (hrc : rm.cells = mc) (hrs : rm.slots = ms)
    (hd : y.cls = C ∧ y.cls ≠ "java/lang/invoke/MethodHandle" ∧ y.cls ≠ "java/lang/invoke/VarHandle" ∧ (parseMethodDescriptor y.desc).map (fun d => d.parameters.length) = some n) (hR : rm.frames + 1 ≤ R.frames ∧ 8 + (maxL + 11) + rm.locals ≤ R.locals) (hp : PreV s H C b (va_Pc (.ref b :: As) (gPre g wc H.size)) As)
    (hn : As.length = n) (hl : ls.size = nL) (hst : st0 = As.reverse ++ .ref b :: rest) (hrm : (rest.map fun v => v.category).sum ≤ 8) (hdg : decode cc pc = .ok (.invokevirtual index, 3)) (hf : cells + mc ≤ R.cells ∧ slots + ms ≤ R.slots) :
    va_Run p l e R s m args below meth c H locs cells slots mc ms (F0 m pc ls st0) rest (Qc (Value.ref b :: As).toArray) free :=
  va_runV F hM (cwV n F.2.2.2.2 hG hw hrc hrs hd hR) hp rfl hn hl hst (lv_room hrm) hdg hf
theorem gr_S (F : CallFix p m c cc nL s args Ts own) (hM : Met l y wy rm (va_Pc As (gPre g wc H.size)) Qc mc ms free) (hG : GoodIn Ts (va_wsS own index y wy)) (hw : wy = Cond.code y bytes maxL ret :: ws0) (hrc : rm.cells = mc) (hrs : rm.slots = ms)
    (hd : y.cls ≠ "java/lang/invoke/MethodHandle" ∧ y.cls ≠ "java/lang/invoke/VarHandle" ∧ (parseMethodDescriptor y.desc).map (fun d => d.parameters.length) = some n) (hR : rm.frames + 1 ≤ R.frames ∧ 8 + (maxL + 11) + rm.locals ≤ R.locals) (hp : PreS s H (va_Pc As (gPre g wc H.size)) As)
    (hn : As.length = n) (hl : ls.size = nL) (hst : st0 = As.reverse ++ rest) (hrm : (rest.map fun v => v.category).sum ≤ 8) (hdg : decode cc pc = .ok (.invokestatic index, 3)) (hf : cells + mc ≤ R.cells ∧ slots + ms ≤ R.slots) :
    va_Run p l e R s m args below meth c H locs cells slots mc ms (F0 m pc ls st0) rest (Qc As.toArray) free :=
  va_runS F hM (va_cwS n F.2.2.2.2 hG hw hrc hrs hd hR) hp rfl hn hl hst (lv_room hrm) hdg hf
/-- a static call of a method with handlers -/
theorem gr_H (F : CallFix p m c cc nL s args Ts own) (hM : Met l y wy rm (va_Pc As (gPre g wc H.size)) Qc mc ms free) (hG : GoodIn Ts (va_wsS own index y wy)) (hw : wy = Cond.codeWith y bytes maxL ret hh :: ws0) (hrc : rm.cells = mc) (hrs : rm.slots = ms)
    (hd : y.cls ≠ "java/lang/invoke/MethodHandle" ∧ y.cls ≠ "java/lang/invoke/VarHandle" ∧ (parseMethodDescriptor y.desc).map (fun d => d.parameters.length) = some n) (hR : rm.frames + 1 ≤ R.frames ∧ 8 + (maxL + 11) + rm.locals ≤ R.locals) (hp : PreS s H (va_Pc As (gPre g wc H.size)) As)
    (hn : As.length = n) (hl : ls.size = nL) (hst : st0 = As.reverse ++ rest) (hrm : (rest.map fun v => v.category).sum ≤ 8) (hdg : decode cc pc = .ok (.invokestatic index, 3)) (hf : cells + mc ≤ R.cells ∧ slots + ms ≤ R.slots) :
    va_Run p l e R s m args below meth c H locs cells slots mc ms (F0 m pc ls st0) rest (Qc As.toArray) free :=
  vx_runSW F hM (vx_cwSW n F.2.2.2.2 hG hw hrc hrs hd hR) hp rfl hn hl hst (lv_room hrm) hdg hf
/-- a private method of a nest mate -/
theorem gr_N (F : CallFix p m c cc nL s args Ts own) (hM : Met l y wy rm (va_Pc (.ref b :: As) (gPre g wc H.size)) Qc mc ms free) (hG : GoodIn Ts wy) (hw : wy = Cond.code y bytes maxL ret :: ws0) (hrc : rm.cells = mc) (hrs : rm.slots = ms) (hnw : va_Nw (.methodLinkNest own index y host) s) (hini : (Cond.initialized y.cls).before args s = true) (hin : (Cond.instanceMethod y).before args s = true) (hse : (Cond.selects C y y).before args s = true)
    (hd : y.cls ≠ "java/lang/invoke/MethodHandle" ∧ y.cls ≠ "java/lang/invoke/VarHandle" ∧ (parseMethodDescriptor y.desc).map (fun d => d.parameters.length) = some n) (hR : rm.frames + 1 ≤ R.frames ∧ 8 + (maxL + 11) + rm.locals ≤ R.locals) (hp : PreV s H C b (va_Pc (.ref b :: As) (gPre g wc H.size)) As)
    (hn : As.length = n) (hl : ls.size = nL) (hst : st0 = As.reverse ++ .ref b :: rest) (hrm : (rest.map fun v => v.category).sum ≤ 8) (hdg : decode cc pc = .ok (.invokevirtual index, 3)) (hf : cells + mc ≤ R.cells ∧ slots + ms ≤ R.slots) :
    va_Run p l e R s m args below meth c H locs cells slots mc ms (F0 m pc ls st0) rest (Qc (Value.ref b :: As).toArray) free :=
  va_runVN F hM ⟨va_cnB n F.2.2.2.2 hG hw hrc hrs hnw hini hd hR, hin, hse⟩ hp rfl hn hl hst (lv_room hrm) hdg hf
theorem gr_I (F : CallFix p m c cc nL s args Ts own) (hM : Met l y wy rm (va_Pc (.ref b :: As) (gPre g wc H.size)) Qc mc ms free) (hG : GoodIn Ts wy) (hw : wy = Cond.code y bytes maxL none :: ws0) (hrc : rm.cells = mc) (hrs : rm.slots = ms) (hini : (Cond.initialized y.cls).before args s = true) (hlk : (Cond.methodLink own index y).before args s = true) (hin : (Cond.instanceMethod y).before args s = true) (hy1 : y.name = "<init>")
    (hd : y.cls ≠ "java/lang/invoke/MethodHandle" ∧ y.cls ≠ "java/lang/invoke/VarHandle" ∧ (parseMethodDescriptor y.desc).map (fun d => d.parameters.length) = some n) (hR : rm.frames + 1 ≤ R.frames ∧ 8 + (maxL + 11) + rm.locals ≤ R.locals) (hp : PreS s H (va_Pc (.ref b :: As) (gPre g wc H.size)) (.ref b :: As))
    (hn : As.length = n) (hl : ls.size = nL) (hst : st0 = As.reverse ++ .ref b :: rest) (hrm : (rest.map fun v => v.category).sum ≤ 8) (hdg : decode cc pc = .ok (.invokespecial index, 3)) (hf : cells + mc ≤ R.cells ∧ slots + ms ≤ R.slots) :
    va_Run p l e R s m args below meth c H locs cells slots mc ms (F0 m pc ls st0) rest (Qc (Value.ref b :: As).toArray) free :=
  va_runI F hM (cwI n F.2.2.2.2 hG hw hrc hrs hini hlk hin hy1 hd hR) hp rfl hn hl hst (lv_room hrm) hdg hf
theorem gr_IN (F : CallFix p m c cc nL s args Ts own) (hM : Met l y wy rm (va_Pc (.ref b :: As) (gPre g wc H.size)) Qc mc ms free) (hG : GoodIn Ts wy) (hw : wy = Cond.code y bytes maxL none :: ws0) (hrc : rm.cells = mc) (hrs : rm.slots = ms) (hnw : va_Nw (.methodLinkNest own index y host) s) (hini : (Cond.initialized y.cls).before args s = true) (hin : (Cond.instanceMethod y).before args s = true) (hy1 : y.name = "<init>")
    (hd : y.cls ≠ "java/lang/invoke/MethodHandle" ∧ y.cls ≠ "java/lang/invoke/VarHandle" ∧ (parseMethodDescriptor y.desc).map (fun d => d.parameters.length) = some n) (hR : rm.frames + 1 ≤ R.frames ∧ 8 + (maxL + 11) + rm.locals ≤ R.locals) (hp : PreS s H (va_Pc (.ref b :: As) (gPre g wc H.size)) (.ref b :: As))
    (hn : As.length = n) (hl : ls.size = nL) (hst : st0 = As.reverse ++ .ref b :: rest) (hrm : (rest.map fun v => v.category).sum ≤ 8) (hdg : decode cc pc = .ok (.invokespecial index, 3)) (hf : cells + mc ≤ R.cells ∧ slots + ms ≤ R.slots) :
    va_Run p l e R s m args below meth c H locs cells slots mc ms (F0 m pc ls st0) rest (Qc (Value.ref b :: As).toArray) free :=
  va_runIN F hM ⟨va_cnB n F.2.2.2.2 hG hw hrc hrs hnw hini hd hR, hy1, hin⟩ hp rfl hn hl hst (lv_room hrm) hdg hf
/-- calls of what may throw -/
theorem gxr_V (F : CallFix p m c cc nL s args Ts own) (hM : vx_Met l y wy rm (va_Pc (.ref b :: As) (gPre g wc H.size)) Qc XC mc ms free) (hG : GoodIn Ts (wsV own index C y wy)) (hw : wy = Cond.code y bytes maxL ret :: ws0) (hrc : rm.cells = mc) (hrs : rm.slots = ms)
    (hd : y.cls = C ∧ y.cls ≠ "java/lang/invoke/MethodHandle" ∧ y.cls ≠ "java/lang/invoke/VarHandle" ∧ (parseMethodDescriptor y.desc).map (fun d => d.parameters.length) = some n) (hR : rm.frames + 1 ≤ R.frames ∧ 8 + (maxL + 11) + rm.locals ≤ R.locals) (hp : PreV s H C b (va_Pc (.ref b :: As) (gPre g wc H.size)) As)
    (hn : As.length = n) (hl : ls.size = nL) (hst : st0 = As.reverse ++ .ref b :: rest) (hrm : (rest.map fun v => v.category).sum ≤ 8) (hdg : decode cc pc = .ok (.invokevirtual index, 3)) (hf : cells + mc ≤ R.cells ∧ slots + ms ≤ R.slots) :
    vx_Run p l e R s m args below meth c H locs cells slots mc ms (F0 m pc ls st0) rest (Qc (Value.ref b :: As).toArray) XC free :=
  vx_runV F hM (cwV n F.2.2.2.2 hG hw hrc hrs hd hR) hp rfl hn hl hst (lv_room hrm) hdg hf
theorem gxr_S (F : CallFix p m c cc nL s args Ts own) (hM : vx_Met l y wy rm (va_Pc As (gPre g wc H.size)) Qc XC mc ms free) (hG : GoodIn Ts (va_wsS own index y wy)) (hw : wy = Cond.code y bytes maxL ret :: ws0) (hrc : rm.cells = mc) (hrs : rm.slots = ms)
    (hd : y.cls ≠ "java/lang/invoke/MethodHandle" ∧ y.cls ≠ "java/lang/invoke/VarHandle" ∧ (parseMethodDescriptor y.desc).map (fun d => d.parameters.length) = some n) (hR : rm.frames + 1 ≤ R.frames ∧ 8 + (maxL + 11) + rm.locals ≤ R.locals) (hp : PreS s H (va_Pc As (gPre g wc H.size)) As)
    (hn : As.length = n) (hl : ls.size = nL) (hst : st0 = As.reverse ++ rest) (hrm : (rest.map fun v => v.category).sum ≤ 8) (hdg : decode cc pc = .ok (.invokestatic index, 3)) (hf : cells + mc ≤ R.cells ∧ slots + ms ≤ R.slots) :
    vx_Run p l e R s m args below meth c H locs cells slots mc ms (F0 m pc ls st0) rest (Qc As.toArray) XC free :=
  vx_runS F hM (va_cwS n F.2.2.2.2 hG hw hrc hrs hd hR) hp rfl hn hl hst (lv_room hrm) hdg hf
end Runs
section Joins
variable {wc wr : va_W} {mc ms : Nat} {a : Array Value} {S : Type} {ws' : S → va_W} {px : String → Prop}
theorem gj_i {post : Int32 → S → Prop} (hr : va_Run p l e R s m args below meth c H locs cells slots mc ms (F0 m pc ls st0) rest (va_Qi post (fun u t => gPost g (va_A wc H.size) (ws' u) t) (va_A wc H.size) a) (va_A wc H.size)) (hP : va_P g.1 vwCl ws H) (hD : va_D A ws) (hS : va_S A s.heap H locs) (hA : ∀ q, s.heap.size ≤ q → A q)
    (isC isR : List Nat) (hC : isC.map (fun i => ws[i]?) = wc.map some) (hRr : isR.map (fun i => ws[i]?) = wr.map some) (hn : va_nd isR = true) (hdis : ∀ i ∈ isR, i ∉ isC)
    (kk : ∀ (r : Int32) (u : S) (H1 : Heap) (locs1 : List Loc), post r u → va_P g.1 vwCl (wr ++ ws' u) H1 → va_D A (wr ++ ws' u) → va_S A s.heap H1 locs1 → W p l e R s m args below meth c H1 locs1 (cells + mc) (slots + ms) Q (F0 m (pc + 3) ls (.int r :: rest))) : W p l e R s m args below meth c H locs cells slots Q (F0 m pc ls st0) := by
  have hFc := va_free (wc := wc) hD hS hA isC hC
  refine va_calli hr hS (fun q _ h => hFc q h) hFc (fun r u t H1 locs1 ht hvm hw hB hz1 hk1 hS1 => ?_)
  obtain ⟨hP1, hD1⟩ := hB
  rw [ht] at hP1
  obtain ⟨hP2, hD2⟩ := va_join hP hD isC isR hC hRr hn hdis hk1 hFc hP1 hD1
  exact kk r u H1 locs1 hw hP2 hD2 hS1
theorem gj_l {post : Int64 → S → Prop} (hr : va_Run p l e R s m args below meth c H locs cells slots mc ms (F0 m pc ls st0) rest (va_Ql post (fun u t => gPost g (va_A wc H.size) (ws' u) t) (va_A wc H.size) a) (va_A wc H.size)) (hP : va_P g.1 vwCl ws H) (hD : va_D A ws) (hS : va_S A s.heap H locs) (hA : ∀ q, s.heap.size ≤ q → A q)
    (isC isR : List Nat) (hC : isC.map (fun i => ws[i]?) = wc.map some) (hRr : isR.map (fun i => ws[i]?) = wr.map some) (hn : va_nd isR = true) (hdis : ∀ i ∈ isR, i ∉ isC)
    (kk : ∀ (r : Int64) (u : S) (H1 : Heap) (locs1 : List Loc), post r u → va_P g.1 vwCl (wr ++ ws' u) H1 → va_D A (wr ++ ws' u) → va_S A s.heap H1 locs1 → W p l e R s m args below meth c H1 locs1 (cells + mc) (slots + ms) Q (F0 m (pc + 3) ls (.long r :: rest))) : W p l e R s m args below meth c H locs cells slots Q (F0 m pc ls st0) := by
  have hFc := va_free (wc := wc) hD hS hA isC hC
  refine va_calll hr hS (fun q _ h => hFc q h) hFc (fun r u t H1 locs1 ht hvm hw hB hz1 hk1 hS1 => ?_)
  obtain ⟨hP1, hD1⟩ := hB
  rw [ht] at hP1
  obtain ⟨hP2, hD2⟩ := va_join hP hD isC isR hC hRr hn hdis hk1 hFc hP1 hD1
  exact kk r u H1 locs1 hw hP2 hD2 hS1
theorem gj_d {post : UInt64 → S → Prop} (hr : va_Run p l e R s m args below meth c H locs cells slots mc ms (F0 m pc ls st0) rest (va_Qd post (fun u t => gPost g (va_A wc H.size) (ws' u) t) (va_A wc H.size) a) (va_A wc H.size)) (hP : va_P g.1 vwCl ws H) (hD : va_D A ws) (hS : va_S A s.heap H locs) (hA : ∀ q, s.heap.size ≤ q → A q)
    (isC isR : List Nat) (hC : isC.map (fun i => ws[i]?) = wc.map some) (hRr : isR.map (fun i => ws[i]?) = wr.map some) (hn : va_nd isR = true) (hdis : ∀ i ∈ isR, i ∉ isC)
    (kk : ∀ (r : UInt64) (u : S) (H1 : Heap) (locs1 : List Loc), post r u → va_P g.1 vwCl (wr ++ ws' u) H1 → va_D A (wr ++ ws' u) → va_S A s.heap H1 locs1 → W p l e R s m args below meth c H1 locs1 (cells + mc) (slots + ms) Q (F0 m (pc + 3) ls (.double r :: rest))) : W p l e R s m args below meth c H locs cells slots Q (F0 m pc ls st0) := by
  have hFc := va_free (wc := wc) hD hS hA isC hC
  refine va_calld hr hS (fun q _ h => hFc q h) hFc (fun r u t H1 locs1 ht hvm hw hB hz1 hk1 hS1 => ?_)
  obtain ⟨hP1, hD1⟩ := hB
  rw [ht] at hP1
  obtain ⟨hP2, hD2⟩ := va_join hP hD isC isR hC hRr hn hdis hk1 hFc hP1 hD1
  exact kk r u H1 locs1 hw hP2 hD2 hS1
theorem gj_v {post : S → Prop} (hr : va_Run p l e R s m args below meth c H locs cells slots mc ms (F0 m pc ls st0) rest (va_Qv post (fun u t => gPost g (va_A wc H.size) (ws' u) t) (va_A wc H.size) a) (va_A wc H.size)) (hP : va_P g.1 vwCl ws H) (hD : va_D A ws) (hS : va_S A s.heap H locs) (hA : ∀ q, s.heap.size ≤ q → A q)
    (isC isR : List Nat) (hC : isC.map (fun i => ws[i]?) = wc.map some) (hRr : isR.map (fun i => ws[i]?) = wr.map some) (hn : va_nd isR = true) (hdis : ∀ i ∈ isR, i ∉ isC)
    (kk : ∀ (u : S) (H1 : Heap) (locs1 : List Loc), post u → va_P g.1 vwCl (wr ++ ws' u) H1 → va_D A (wr ++ ws' u) → va_S A s.heap H1 locs1 → W p l e R s m args below meth c H1 locs1 (cells + mc) (slots + ms) Q (F0 m (pc + 3) ls rest)) : W p l e R s m args below meth c H locs cells slots Q (F0 m pc ls st0) := by
  have hFc := va_free (wc := wc) hD hS hA isC hC
  refine va_callv hr hS (fun q _ h => hFc q h) hFc (fun u t H1 locs1 ht hvm hw hB hz1 hk1 hS1 => ?_)
  obtain ⟨hP1, hD1⟩ := hB
  rw [ht] at hP1
  obtain ⟨hP2, hD2⟩ := va_join hP hD isC isR hC hRr hn hdis hk1 hFc hP1 hD1
  exact kk u H1 locs1 hw hP2 hD2 hS1
/-- .. of what may throw: where it throws, the rest of the world is as it was -/
theorem gxj_v {post : S → Prop} (hr : vx_Run p l e R s m args below meth c H locs cells slots mc ms (F0 m pc ls st0) rest (va_Qv post (fun u t => gPost g (va_A wc H.size) (ws' u) t) (va_A wc H.size) a) (gThr px (va_A wc H.size)) (va_A wc H.size)) (hP : va_P g.1 vwCl ws H) (hD : va_D A ws) (hS : va_S A s.heap H locs) (hA : ∀ q, s.heap.size ≤ q → A q)
    (isC isR : List Nat) (hC : isC.map (fun i => ws[i]?) = wc.map some) (hRr : isR.map (fun i => ws[i]?) = wr.map some) (hn : va_nd isR = true) (hdis : ∀ i ∈ isR, i ∉ isC)
    (kx : ∀ (E : String) (ce : Cell) (q9 : Addr) (H1 : Heap) (locs1 : List Loc), px E → va_P g.1 vwCl wr H1 → va_D A wr → va_S A s.heap H1 locs1 → H1[q9]? = some ce → ce.vm = .none → s.vm.findClass E = some ce.cls → vx_W p l e R s m args below meth c H1 locs1 (cells + mc) (slots + ms) Q (F0 m pc ls rest) q9)
    (kk : ∀ (u : S) (H1 : Heap) (locs1 : List Loc), post u → va_P g.1 vwCl (wr ++ ws' u) H1 → va_D A (wr ++ ws' u) → va_S A s.heap H1 locs1 → W p l e R s m args below meth c H1 locs1 (cells + mc) (slots + ms) Q (F0 m (pc + 3) ls rest)) : W p l e R s m args below meth c H locs cells slots Q (F0 m pc ls st0) := by
  have hFc := va_free (wc := wc) hD hS hA isC hC
  refine vx_callv hr hS (fun q _ h => hFc q h) hFc (fun q _ h => hFc q h) (fun E ce q9 u t H1 locs1 ht hvm hpu hB hz1 hk1 hS1 h7 h8 h9 => ?_) (fun u t H1 locs1 ht hvm hw hB hz1 hk1 hS1 => ?_)
  · obtain ⟨hP2, hD2⟩ := va_join (w1 := []) hP hD isC isR hC hRr hn hdis hk1 hFc (fun k q h => by simp at h) ⟨fun i j p q h => by simp at h, fun k q h => by simp at h⟩
    rw [List.append_nil] at hP2 hD2
    exact kx E ce q9 H1 locs1 hB hP2 hD2 hS1 h7 h8 h9
  · obtain ⟨hP1, hD1⟩ := hB
    rw [ht] at hP1
    obtain ⟨hP2, hD2⟩ := va_join hP hD isC isR hC hRr hn hdis hk1 hFc hP1 hD1
    exact kk u H1 locs1 hw hP2 hD2 hS1
theorem gxj_i {post : Int32 → S → Prop} (hr : vx_Run p l e R s m args below meth c H locs cells slots mc ms (F0 m pc ls st0) rest (va_Qi post (fun u t => gPost g (va_A wc H.size) (ws' u) t) (va_A wc H.size) a) (gThr px (va_A wc H.size)) (va_A wc H.size)) (hP : va_P g.1 vwCl ws H) (hD : va_D A ws) (hS : va_S A s.heap H locs) (hA : ∀ q, s.heap.size ≤ q → A q)
    (isC isR : List Nat) (hC : isC.map (fun i => ws[i]?) = wc.map some) (hRr : isR.map (fun i => ws[i]?) = wr.map some) (hn : va_nd isR = true) (hdis : ∀ i ∈ isR, i ∉ isC)
    (kx : ∀ (E : String) (ce : Cell) (q9 : Addr) (H1 : Heap) (locs1 : List Loc), px E → va_P g.1 vwCl wr H1 → va_D A wr → va_S A s.heap H1 locs1 → H1[q9]? = some ce → ce.vm = .none → s.vm.findClass E = some ce.cls → vx_W p l e R s m args below meth c H1 locs1 (cells + mc) (slots + ms) Q (F0 m pc ls rest) q9)
    (kk : ∀ (r : Int32) (u : S) (H1 : Heap) (locs1 : List Loc), post r u → va_P g.1 vwCl (wr ++ ws' u) H1 → va_D A (wr ++ ws' u) → va_S A s.heap H1 locs1 → W p l e R s m args below meth c H1 locs1 (cells + mc) (slots + ms) Q (F0 m (pc + 3) ls (.int r :: rest))) : W p l e R s m args below meth c H locs cells slots Q (F0 m pc ls st0) := by
  have hFc := va_free (wc := wc) hD hS hA isC hC
  refine vx_calli hr hS (fun q _ h => hFc q h) hFc (fun q _ h => hFc q h) (fun E ce q9 u t H1 locs1 ht hvm hpu hB hz1 hk1 hS1 h7 h8 h9 => ?_) (fun r u t H1 locs1 ht hvm hw hB hz1 hk1 hS1 => ?_)
  · obtain ⟨hP2, hD2⟩ := va_join (w1 := []) hP hD isC isR hC hRr hn hdis hk1 hFc (fun k q h => by simp at h) ⟨fun i j p q h => by simp at h, fun k q h => by simp at h⟩
    rw [List.append_nil] at hP2 hD2
    exact kx E ce q9 H1 locs1 hB hP2 hD2 hS1 h7 h8 h9
  · obtain ⟨hP1, hD1⟩ := hB
    rw [ht] at hP1
    obtain ⟨hP2, hD2⟩ := va_join hP hD isC isR hC hRr hn hdis hk1 hFc hP1 hD1
    exact kk r u H1 locs1 hw hP2 hD2 hS1
theorem gxj_d {post : UInt64 → S → Prop} (hr : vx_Run p l e R s m args below meth c H locs cells slots mc ms (F0 m pc ls st0) rest (va_Qd post (fun u t => gPost g (va_A wc H.size) (ws' u) t) (va_A wc H.size) a) (gThr px (va_A wc H.size)) (va_A wc H.size)) (hP : va_P g.1 vwCl ws H) (hD : va_D A ws) (hS : va_S A s.heap H locs) (hA : ∀ q, s.heap.size ≤ q → A q)
    (isC isR : List Nat) (hC : isC.map (fun i => ws[i]?) = wc.map some) (hRr : isR.map (fun i => ws[i]?) = wr.map some) (hn : va_nd isR = true) (hdis : ∀ i ∈ isR, i ∉ isC)
    (kx : ∀ (E : String) (ce : Cell) (q9 : Addr) (H1 : Heap) (locs1 : List Loc), px E → va_P g.1 vwCl wr H1 → va_D A wr → va_S A s.heap H1 locs1 → H1[q9]? = some ce → ce.vm = .none → s.vm.findClass E = some ce.cls → vx_W p l e R s m args below meth c H1 locs1 (cells + mc) (slots + ms) Q (F0 m pc ls rest) q9)
    (kk : ∀ (r : UInt64) (u : S) (H1 : Heap) (locs1 : List Loc), post r u → va_P g.1 vwCl (wr ++ ws' u) H1 → va_D A (wr ++ ws' u) → va_S A s.heap H1 locs1 → W p l e R s m args below meth c H1 locs1 (cells + mc) (slots + ms) Q (F0 m (pc + 3) ls (.double r :: rest))) : W p l e R s m args below meth c H locs cells slots Q (F0 m pc ls st0) := by
  have hFc := va_free (wc := wc) hD hS hA isC hC
  refine vx_calld hr hS (fun q _ h => hFc q h) hFc (fun q _ h => hFc q h) (fun E ce q9 u t H1 locs1 ht hvm hpu hB hz1 hk1 hS1 h7 h8 h9 => ?_) (fun r u t H1 locs1 ht hvm hw hB hz1 hk1 hS1 => ?_)
  · obtain ⟨hP2, hD2⟩ := va_join (w1 := []) hP hD isC isR hC hRr hn hdis hk1 hFc (fun k q h => by simp at h) ⟨fun i j p q h => by simp at h, fun k q h => by simp at h⟩
    rw [List.append_nil] at hP2 hD2
    exact kx E ce q9 H1 locs1 hB hP2 hD2 hS1 h7 h8 h9
  · obtain ⟨hP1, hD1⟩ := hB
    rw [ht] at hP1
    obtain ⟨hP2, hD2⟩ := va_join hP hD isC isR hC hRr hn hdis hk1 hFc hP1 hD1
    exact kk r u H1 locs1 hw hP2 hD2 hS1
/-- what a callee threw goes on to the caller -/
theorem gx_out {Qc : Array Value → State → Outcome → State → Prop} {E : String} {ce : Cell} {q9 : Addr} {mc ms : Nat} (htab : ∀ x ∈ c.exceptionTable.toList, False) (hlocks : meth.locks = false) (hS : va_S A s.heap H locs) (h7 : H[q9]? = some ce) (h8 : ce.vm = .none) (h9 : s.vm.findClass E = some ce.cls) (hpx : px E) (hc : cells ≤ mc) (hs : slots ≤ ms) :
    vx_W p l e R s m args below meth c H locs cells slots (vx_MQ below Qc (gThr px A) args s mc ms A) (F0 m pc ls rest) q9 :=
  vx_out (fun x hx => (htab x hx).elim) hlocks h7 h8 h9 (fun t ht hvm => ⟨(), trivial, hpx, hS.F ht⟩) hS.2.2 hc hs
end Joins
end GRows
end
section
section GThrow
variable {p : Program} {l : Launch} {e : Env} {R : Room} {s : State} {m : MethodId} {args : Array Value} {below : List Frame} {meth : Method} {c : Code} {H : Heap} {locs : List Loc} {cells slots : Nat}
variable {cc : ByteArray} {pc : Nat} {ls : Array Slot} {rest : List Value} {A : Nat → Prop} {g : gG} {px : String → Prop}
/-- 'throw new E("text")' in the class: it leaves the method -/
theorem gx_throw {Qc : Array Value → State → Outcome → State → Prop} {cls text : String} {ik is ic mc ms nL : Nat} {wy : List Cond} (hx : p.tables.exec = Jvm.exec) (hb : c.code = cc) (hl : l.stackTraces = false) (hown : s.vm.findClass RX1 = some m.cls) (hts : ∀ w ∈ wy, w.before args s = true) (htab : ∀ x ∈ c.exceptionTable.toList, False) (hlocks : meth.locks = false) (hE : gEnv g A s s.heap) (hS : va_S A s.heap H locs) (hsz : ls.size = nL) (hml : c.maxLocals = nL)
    (hcls : Bundle.fit cls = true) (hk : Cond.classLink RX1 ik cls ∈ wy) (hini : Cond.initialized cls ∈ wy) (hmem : (is, text) ∈ gStr) (hat : ∀ w ∈ (vx_atS RX1 ic cls gSup).filter goodWord, w ∈ wy) (hng : ∀ w ∈ (vx_atS RX1 ic cls gSup).filter (fun w => !goodWord w), w ∈ (Cond.castable cls cls :: gDecs)) (hca : gCa cls cls s)
    (hgood : ∀ w ∈ Cond.classLink RX1 ik cls :: Cond.initialized cls :: vx_atS RX1 ic cls gSup, vx_ot w = true)
    (d0 : decode cc pc = .ok (.new ik, 3)) (d3 : decode cc (pc + 3) = .ok (.dup, 1)) (d4 : decode cc (pc + 4) = .ok (.ldc is, 2)) (d6 : decode cc (pc + 6) = .ok (.invokespecial ic, 3)) (d9 : decode cc (pc + 9) = .ok (.athrow, 1))
    (hRf : 5 < R.frames) (hRl : (rest.map fun v => v.category).sum + 82 ≤ R.locals) (hRc : cells + 1 ≤ R.cells) (hRs : slots + 6 ≤ R.slots) (hc : cells + 1 ≤ mc) (hs : slots + 6 ≤ ms) (hpx : px cls) :
    W p l e R s m args below meth c H locs cells slots (vx_MQ below Qc (gThr px A) args s mc ms A) (F0 m pc ls rest) := by
  have hat' : ∀ w ∈ vx_atS RX1 ic cls gSup, w.before args s = true := by
    refine vx_hat (B := Cond.castable cls cls :: gDecs) (fun w hw => hts w (hat w hw)) hng (vx_c hca.use (fun w hw => ?_))
    have hz := hE.1.2.2.2.2 w hw
    simp only [gDecs, List.mem_cons, List.not_mem_nil, or_false] at hw
    rcases hw with rfl | rfl | rfl <;> exact va_Nw.use rfl hz
  exact vx_throwS (names := gSup) hx hb hl hown hcls (by decide) (hts _ hk) (hts _ hini) (hE.1.1 _ hmem) hat' hgood hE.2.1 hE.2.2.1 hS (hsz.trans hml.symm) d0 d3 d4 d6 d9 (fun x hx => (htab x hx).elim) hRf hRl hRc hRs hlocks
    (fun t hvm hz hq => ⟨(), trivial, hpx, Nat.le_trans hS.1 hz, fun q h1 h2 => (hq q (Nat.lt_of_lt_of_le h1 hS.1)).trans (hS.2.1 q h1 h2)⟩) hS.2.2 hc hs
end GThrow
theorem gng_IO : ∀ w ∈ (vx_atS RX1 159 gIO gSup).filter (fun w => !goodWord w), w ∈ (Cond.castable gIO gIO :: gDecs) := by decide +kernel
theorem gng_IA : ∀ w ∈ (vx_atS RX1 101 gIA gSup).filter (fun w => !goodWord w), w ∈ (Cond.castable gIA gIA :: gDecs) := by decide +kernel
theorem gng_IS : ∀ w ∈ (vx_atS RX1 76 gIS gSup).filter (fun w => !goodWord w), w ∈ (Cond.castable gIS gIS :: gDecs) := by decide +kernel
theorem ggd_IO : ∀ w ∈ Cond.classLink RX1 155 gIO :: Cond.initialized gIO :: vx_atS RX1 159 gIO gSup, vx_ot w = true := by decide +kernel
theorem ggd_IA : ∀ w ∈ Cond.classLink RX1 97 gIA :: Cond.initialized gIA :: vx_atS RX1 101 gIA gSup, vx_ot w = true := by decide +kernel
theorem ggd_IS : ∀ w ∈ Cond.classLink RX1 72 gIS :: Cond.initialized gIS :: vx_atS RX1 76 gIS gSup, vx_ot w = true := by decide +kernel
end
section
theorem dX0_init_0 : decode cX0_init 0 = .ok (.aload_n 0, 1) := by decide +kernel
theorem dX0_init_1 : decode cX0_init 1 = .ok (.invokespecial 3, 3) := by decide +kernel
theorem dX0_init_4 : decode cX0_init 4 = .ok (.aload_n 0, 1) := by decide +kernel
theorem dX0_init_5 : decode cX0_init 5 = .ok (.bipush 6, 2) := by decide +kernel
theorem dX0_init_7 : decode cX0_init 7 = .ok (.newarray .int, 2) := by decide +kernel
theorem dX0_init_9 : decode cX0_init 9 = .ok (.putfield 9, 3) := by decide +kernel
theorem dX0_init_12 : decode cX0_init 12 = .ok (.aload_n 0, 1) := by decide +kernel
theorem dX0_init_13 : decode cX0_init 13 = .ok (.bipush 6, 2) := by decide +kernel
theorem dX0_init_15 : decode cX0_init 15 = .ok (.newarray .int, 2) := by decide +kernel
theorem dX0_init_17 : decode cX0_init 17 = .ok (.putfield 15, 3) := by decide +kernel
theorem dX0_init_20 : decode cX0_init 20 = .ok (.return_, 1) := by decide +kernel
set_option maxRecDepth 20000 in
theorem ggX0_comesBefore_X1_has : GoodIn wsX0_comesBefore wsX1_has := goodIn_r _ [4] (by decide +kernel) (by decide +kernel)
set_option maxRecDepth 20000 in
theorem gX0_comesBefore_X1_has_n18 : GoodIn wsX0_comesBefore (wsX1_has) := ggX0_comesBefore_X1_has
theorem dX0_comesBefore_0 : decode cX0_comesBefore 0 = .ok (.aload_n 0, 1) := by decide +kernel
theorem dX0_comesBefore_1 : decode cX0_comesBefore 1 = .ok (.getfield 15, 3) := by decide +kernel
theorem dX0_comesBefore_4 : decode cX0_comesBefore 4 = .ok (.iload_n 1, 1) := by decide +kernel
theorem dX0_comesBefore_5 : decode cX0_comesBefore 5 = .ok (.iaload, 1) := by decide +kernel
theorem dX0_comesBefore_6 : decode cX0_comesBefore 6 = .ok (.iload_n 2, 1) := by decide +kernel
theorem dX0_comesBefore_7 : decode cX0_comesBefore 7 = .ok (.invokestatic 18, 3) := by decide +kernel
theorem dX0_comesBefore_10 : decode cX0_comesBefore 10 = .ok (.ireturn, 1) := by decide +kernel
theorem dX0_comesBeforeOneOf_0 : decode cX0_comesBeforeOneOf 0 = .ok (.aload_n 0, 1) := by decide +kernel
theorem dX0_comesBeforeOneOf_1 : decode cX0_comesBeforeOneOf 1 = .ok (.getfield 15, 3) := by decide +kernel
theorem dX0_comesBeforeOneOf_4 : decode cX0_comesBeforeOneOf 4 = .ok (.iload_n 1, 1) := by decide +kernel
theorem dX0_comesBeforeOneOf_5 : decode cX0_comesBeforeOneOf 5 = .ok (.iaload, 1) := by decide +kernel
theorem dX0_comesBeforeOneOf_6 : decode cX0_comesBeforeOneOf 6 = .ok (.iload_n 2, 1) := by decide +kernel
theorem dX0_comesBeforeOneOf_7 : decode cX0_comesBeforeOneOf 7 = .ok (.iand, 1) := by decide +kernel
theorem dX0_comesBeforeOneOf_8 : decode cX0_comesBeforeOneOf 8 = .ok (.ifCond .eq 7, 3) := by decide +kernel
theorem dX0_comesBeforeOneOf_11 : decode cX0_comesBeforeOneOf 11 = .ok (.iconst 1, 1) := by decide +kernel
theorem dX0_comesBeforeOneOf_12 : decode cX0_comesBeforeOneOf 12 = .ok (.goto 4, 3) := by decide +kernel
theorem dX0_comesBeforeOneOf_15 : decode cX0_comesBeforeOneOf 15 = .ok (.iconst 0, 1) := by decide +kernel
theorem dX0_comesBeforeOneOf_16 : decode cX0_comesBeforeOneOf 16 = .ok (.ireturn, 1) := by decide +kernel
set_option maxRecDepth 20000 in
theorem ggX0_put_X0_followChains : GoodIn wsX0_put wsX0_followChains := goodIn_r _ [6, 7, 1, 8, 9, 10, 11, 12] (by decide +kernel) (by decide +kernel)
set_option maxRecDepth 20000 in
theorem gX0_put_X0_followChains : GoodIn wsX0_put (wsV RX0 22 RX0 yX0_followChains wsX0_followChains) := goodIn_app (goodIn_of _ (by decide +kernel)) ggX0_put_X0_followChains
theorem dX0_put_0 : decode cX0_put 0 = .ok (.aload_n 0, 1) := by decide +kernel
theorem dX0_put_1 : decode cX0_put 1 = .ok (.getfield 9, 3) := by decide +kernel
theorem dX0_put_4 : decode cX0_put 4 = .ok (.iload_n 1, 1) := by decide +kernel
theorem dX0_put_5 : decode cX0_put 5 = .ok (.dup2, 1) := by decide +kernel
theorem dX0_put_6 : decode cX0_put 6 = .ok (.iaload, 1) := by decide +kernel
theorem dX0_put_7 : decode cX0_put 7 = .ok (.iconst 1, 1) := by decide +kernel
theorem dX0_put_8 : decode cX0_put 8 = .ok (.iload_n 2, 1) := by decide +kernel
theorem dX0_put_9 : decode cX0_put 9 = .ok (.ishl, 1) := by decide +kernel
theorem dX0_put_10 : decode cX0_put 10 = .ok (.ior, 1) := by decide +kernel
theorem dX0_put_11 : decode cX0_put 11 = .ok (.iastore, 1) := by decide +kernel
theorem dX0_put_12 : decode cX0_put 12 = .ok (.aload_n 0, 1) := by decide +kernel
theorem dX0_put_13 : decode cX0_put 13 = .ok (.invokevirtual 22, 3) := by decide +kernel
theorem dX0_put_16 : decode cX0_put 16 = .ok (.return_, 1) := by decide +kernel
set_option maxRecDepth 20000 in
theorem ggX0_removeAllWith_X0_followChains : GoodIn wsX0_removeAllWith wsX0_followChains := goodIn_r _ [6, 7, 1, 8, 9, 10, 11, 12] (by decide +kernel) (by decide +kernel)
set_option maxRecDepth 20000 in
theorem gX0_removeAllWith_X0_followChains : GoodIn wsX0_removeAllWith (wsV RX0 22 RX0 yX0_followChains wsX0_followChains) := goodIn_app (goodIn_of _ (by decide +kernel)) ggX0_removeAllWith_X0_followChains
theorem dX0_removeAllWith_0 : decode cX0_removeAllWith 0 = .ok (.iconst 0, 1) := by decide +kernel
theorem dX0_removeAllWith_1 : decode cX0_removeAllWith 1 = .ok (.istore_n 2, 1) := by decide +kernel
theorem dX0_removeAllWith_2 : decode cX0_removeAllWith 2 = .ok (.iload_n 2, 1) := by decide +kernel
theorem dX0_removeAllWith_3 : decode cX0_removeAllWith 3 = .ok (.bipush 6, 2) := by decide +kernel
theorem dX0_removeAllWith_5 : decode cX0_removeAllWith 5 = .ok (.if_icmp .ge 23, 3) := by decide +kernel
theorem dX0_removeAllWith_8 : decode cX0_removeAllWith 8 = .ok (.aload_n 0, 1) := by decide +kernel
theorem dX0_removeAllWith_9 : decode cX0_removeAllWith 9 = .ok (.getfield 9, 3) := by decide +kernel
theorem dX0_removeAllWith_12 : decode cX0_removeAllWith 12 = .ok (.iload_n 2, 1) := by decide +kernel
theorem dX0_removeAllWith_13 : decode cX0_removeAllWith 13 = .ok (.dup2, 1) := by decide +kernel
theorem dX0_removeAllWith_14 : decode cX0_removeAllWith 14 = .ok (.iaload, 1) := by decide +kernel
theorem dX0_removeAllWith_15 : decode cX0_removeAllWith 15 = .ok (.iconst 1, 1) := by decide +kernel
theorem dX0_removeAllWith_16 : decode cX0_removeAllWith 16 = .ok (.iload_n 1, 1) := by decide +kernel
theorem dX0_removeAllWith_17 : decode cX0_removeAllWith 17 = .ok (.ishl, 1) := by decide +kernel
theorem dX0_removeAllWith_18 : decode cX0_removeAllWith 18 = .ok (.iconst (-1), 1) := by decide +kernel
theorem dX0_removeAllWith_19 : decode cX0_removeAllWith 19 = .ok (.ixor, 1) := by decide +kernel
theorem dX0_removeAllWith_20 : decode cX0_removeAllWith 20 = .ok (.iand, 1) := by decide +kernel
theorem dX0_removeAllWith_21 : decode cX0_removeAllWith 21 = .ok (.iastore, 1) := by decide +kernel
theorem dX0_removeAllWith_22 : decode cX0_removeAllWith 22 = .ok (.iinc 2 1, 3) := by decide +kernel
theorem dX0_removeAllWith_25 : decode cX0_removeAllWith 25 = .ok (.goto (-23), 3) := by decide +kernel
theorem dX0_removeAllWith_28 : decode cX0_removeAllWith 28 = .ok (.aload_n 0, 1) := by decide +kernel
theorem dX0_removeAllWith_29 : decode cX0_removeAllWith 29 = .ok (.getfield 9, 3) := by decide +kernel
theorem dX0_removeAllWith_32 : decode cX0_removeAllWith 32 = .ok (.iload_n 1, 1) := by decide +kernel
theorem dX0_removeAllWith_33 : decode cX0_removeAllWith 33 = .ok (.iconst 0, 1) := by decide +kernel
theorem dX0_removeAllWith_34 : decode cX0_removeAllWith 34 = .ok (.iastore, 1) := by decide +kernel
theorem dX0_removeAllWith_35 : decode cX0_removeAllWith 35 = .ok (.aload_n 0, 1) := by decide +kernel
theorem dX0_removeAllWith_36 : decode cX0_removeAllWith 36 = .ok (.invokevirtual 22, 3) := by decide +kernel
theorem dX0_removeAllWith_39 : decode cX0_removeAllWith 39 = .ok (.return_, 1) := by decide +kernel
theorem dX0_clear_0 : decode cX0_clear 0 = .ok (.iconst 0, 1) := by decide +kernel
theorem dX0_clear_1 : decode cX0_clear 1 = .ok (.istore_n 1, 1) := by decide +kernel
theorem dX0_clear_2 : decode cX0_clear 2 = .ok (.iload_n 1, 1) := by decide +kernel
theorem dX0_clear_3 : decode cX0_clear 3 = .ok (.bipush 6, 2) := by decide +kernel
theorem dX0_clear_5 : decode cX0_clear 5 = .ok (.if_icmp .ge 23, 3) := by decide +kernel
theorem dX0_clear_8 : decode cX0_clear 8 = .ok (.aload_n 0, 1) := by decide +kernel
theorem dX0_clear_9 : decode cX0_clear 9 = .ok (.getfield 9, 3) := by decide +kernel
theorem dX0_clear_12 : decode cX0_clear 12 = .ok (.iload_n 1, 1) := by decide +kernel
theorem dX0_clear_13 : decode cX0_clear 13 = .ok (.iconst 0, 1) := by decide +kernel
theorem dX0_clear_14 : decode cX0_clear 14 = .ok (.iastore, 1) := by decide +kernel
theorem dX0_clear_15 : decode cX0_clear 15 = .ok (.aload_n 0, 1) := by decide +kernel
theorem dX0_clear_16 : decode cX0_clear 16 = .ok (.getfield 15, 3) := by decide +kernel
theorem dX0_clear_19 : decode cX0_clear 19 = .ok (.iload_n 1, 1) := by decide +kernel
theorem dX0_clear_20 : decode cX0_clear 20 = .ok (.iconst 0, 1) := by decide +kernel
theorem dX0_clear_21 : decode cX0_clear 21 = .ok (.iastore, 1) := by decide +kernel
theorem dX0_clear_22 : decode cX0_clear 22 = .ok (.iinc 1 1, 3) := by decide +kernel
theorem dX0_clear_25 : decode cX0_clear 25 = .ok (.goto (-23), 3) := by decide +kernel
theorem dX0_clear_28 : decode cX0_clear 28 = .ok (.return_, 1) := by decide +kernel
set_option maxRecDepth 20000 in
theorem ggX0_pairs_J6_bitCount_0f7a4 : GoodIn wsX0_pairs wsJ6_bitCount_0f7a4 := goodIn_r _ [5, 6, 7, 8] (by decide +kernel) (by decide +kernel)
set_option maxRecDepth 20000 in
theorem gX0_pairs_J6_bitCount_0f7a4 : GoodIn wsX0_pairs (va_wsS RX0 25 yJ6_bitCount_0f7a4 wsJ6_bitCount_0f7a4) := goodIn_app (goodIn_of _ (by decide +kernel)) ggX0_pairs_J6_bitCount_0f7a4
theorem dX0_pairs_0 : decode cX0_pairs 0 = .ok (.iconst 0, 1) := by decide +kernel
theorem dX0_pairs_1 : decode cX0_pairs 1 = .ok (.istore_n 1, 1) := by decide +kernel
theorem dX0_pairs_2 : decode cX0_pairs 2 = .ok (.iconst 0, 1) := by decide +kernel
theorem dX0_pairs_3 : decode cX0_pairs 3 = .ok (.istore_n 2, 1) := by decide +kernel
theorem dX0_pairs_4 : decode cX0_pairs 4 = .ok (.iload_n 2, 1) := by decide +kernel
theorem dX0_pairs_5 : decode cX0_pairs 5 = .ok (.bipush 6, 2) := by decide +kernel
theorem dX0_pairs_7 : decode cX0_pairs 7 = .ok (.if_icmp .ge 21, 3) := by decide +kernel
theorem dX0_pairs_10 : decode cX0_pairs 10 = .ok (.iload_n 1, 1) := by decide +kernel
theorem dX0_pairs_11 : decode cX0_pairs 11 = .ok (.aload_n 0, 1) := by decide +kernel
theorem dX0_pairs_12 : decode cX0_pairs 12 = .ok (.getfield 15, 3) := by decide +kernel
theorem dX0_pairs_15 : decode cX0_pairs 15 = .ok (.iload_n 2, 1) := by decide +kernel
theorem dX0_pairs_16 : decode cX0_pairs 16 = .ok (.iaload, 1) := by decide +kernel
theorem dX0_pairs_17 : decode cX0_pairs 17 = .ok (.invokestatic 25, 3) := by decide +kernel
theorem dX0_pairs_20 : decode cX0_pairs 20 = .ok (.iadd, 1) := by decide +kernel
theorem dX0_pairs_21 : decode cX0_pairs 21 = .ok (.istore_n 1, 1) := by decide +kernel
theorem dX0_pairs_22 : decode cX0_pairs 22 = .ok (.iinc 2 1, 3) := by decide +kernel
theorem dX0_pairs_25 : decode cX0_pairs 25 = .ok (.goto (-21), 3) := by decide +kernel
theorem dX0_pairs_28 : decode cX0_pairs 28 = .ok (.iload_n 1, 1) := by decide +kernel
theorem dX0_pairs_29 : decode cX0_pairs 29 = .ok (.ireturn, 1) := by decide +kernel
set_option maxRecDepth 20000 in
theorem ggX0_followChains_X1_has : GoodIn wsX0_followChains wsX1_has := goodIn_r _ [5] (by decide +kernel) (by decide +kernel)
set_option maxRecDepth 20000 in
theorem gX0_followChains_X1_has_n18 : GoodIn wsX0_followChains (wsX1_has) := ggX0_followChains_X1_has
theorem dX0_followChains_0 : decode cX0_followChains 0 = .ok (.iconst 0, 1) := by decide +kernel
theorem dX0_followChains_1 : decode cX0_followChains 1 = .ok (.istore_n 1, 1) := by decide +kernel
theorem dX0_followChains_2 : decode cX0_followChains 2 = .ok (.iload_n 1, 1) := by decide +kernel
theorem dX0_followChains_3 : decode cX0_followChains 3 = .ok (.bipush 6, 2) := by decide +kernel
theorem dX0_followChains_5 : decode cX0_followChains 5 = .ok (.if_icmp .ge 21, 3) := by decide +kernel
theorem dX0_followChains_8 : decode cX0_followChains 8 = .ok (.aload_n 0, 1) := by decide +kernel
theorem dX0_followChains_9 : decode cX0_followChains 9 = .ok (.getfield 15, 3) := by decide +kernel
theorem dX0_followChains_12 : decode cX0_followChains 12 = .ok (.iload_n 1, 1) := by decide +kernel
theorem dX0_followChains_13 : decode cX0_followChains 13 = .ok (.aload_n 0, 1) := by decide +kernel
theorem dX0_followChains_14 : decode cX0_followChains 14 = .ok (.getfield 9, 3) := by decide +kernel
theorem dX0_followChains_17 : decode cX0_followChains 17 = .ok (.iload_n 1, 1) := by decide +kernel
theorem dX0_followChains_18 : decode cX0_followChains 18 = .ok (.iaload, 1) := by decide +kernel
theorem dX0_followChains_19 : decode cX0_followChains 19 = .ok (.iastore, 1) := by decide +kernel
theorem dX0_followChains_20 : decode cX0_followChains 20 = .ok (.iinc 1 1, 3) := by decide +kernel
theorem dX0_followChains_23 : decode cX0_followChains 23 = .ok (.goto (-21), 3) := by decide +kernel
theorem dX0_followChains_26 : decode cX0_followChains 26 = .ok (.iconst 0, 1) := by decide +kernel
theorem dX0_followChains_27 : decode cX0_followChains 27 = .ok (.istore_n 1, 1) := by decide +kernel
theorem dX0_followChains_28 : decode cX0_followChains 28 = .ok (.iload_n 1, 1) := by decide +kernel
theorem dX0_followChains_29 : decode cX0_followChains 29 = .ok (.bipush 6, 2) := by decide +kernel
theorem dX0_followChains_31 : decode cX0_followChains 31 = .ok (.if_icmp .ge 51, 3) := by decide +kernel
theorem dX0_followChains_34 : decode cX0_followChains 34 = .ok (.iconst 0, 1) := by decide +kernel
theorem dX0_followChains_35 : decode cX0_followChains 35 = .ok (.istore_n 2, 1) := by decide +kernel
theorem dX0_followChains_36 : decode cX0_followChains 36 = .ok (.iload_n 2, 1) := by decide +kernel
theorem dX0_followChains_37 : decode cX0_followChains 37 = .ok (.bipush 6, 2) := by decide +kernel
theorem dX0_followChains_39 : decode cX0_followChains 39 = .ok (.if_icmp .ge 37, 3) := by decide +kernel
theorem dX0_followChains_42 : decode cX0_followChains 42 = .ok (.aload_n 0, 1) := by decide +kernel
theorem dX0_followChains_43 : decode cX0_followChains 43 = .ok (.getfield 15, 3) := by decide +kernel
theorem dX0_followChains_46 : decode cX0_followChains 46 = .ok (.iload_n 2, 1) := by decide +kernel
theorem dX0_followChains_47 : decode cX0_followChains 47 = .ok (.iaload, 1) := by decide +kernel
theorem dX0_followChains_48 : decode cX0_followChains 48 = .ok (.iload_n 1, 1) := by decide +kernel
theorem dX0_followChains_49 : decode cX0_followChains 49 = .ok (.invokestatic 18, 3) := by decide +kernel
theorem dX0_followChains_52 : decode cX0_followChains 52 = .ok (.ifCond .eq 18, 3) := by decide +kernel
theorem dX0_followChains_55 : decode cX0_followChains 55 = .ok (.aload_n 0, 1) := by decide +kernel
theorem dX0_followChains_56 : decode cX0_followChains 56 = .ok (.getfield 15, 3) := by decide +kernel
theorem dX0_followChains_59 : decode cX0_followChains 59 = .ok (.iload_n 2, 1) := by decide +kernel
theorem dX0_followChains_60 : decode cX0_followChains 60 = .ok (.dup2, 1) := by decide +kernel
theorem dX0_followChains_61 : decode cX0_followChains 61 = .ok (.iaload, 1) := by decide +kernel
theorem dX0_followChains_62 : decode cX0_followChains 62 = .ok (.aload_n 0, 1) := by decide +kernel
theorem dX0_followChains_63 : decode cX0_followChains 63 = .ok (.getfield 15, 3) := by decide +kernel
theorem dX0_followChains_66 : decode cX0_followChains 66 = .ok (.iload_n 1, 1) := by decide +kernel
theorem dX0_followChains_67 : decode cX0_followChains 67 = .ok (.iaload, 1) := by decide +kernel
theorem dX0_followChains_68 : decode cX0_followChains 68 = .ok (.ior, 1) := by decide +kernel
theorem dX0_followChains_69 : decode cX0_followChains 69 = .ok (.iastore, 1) := by decide +kernel
theorem dX0_followChains_70 : decode cX0_followChains 70 = .ok (.iinc 2 1, 3) := by decide +kernel
theorem dX0_followChains_73 : decode cX0_followChains 73 = .ok (.goto (-37), 3) := by decide +kernel
theorem dX0_followChains_76 : decode cX0_followChains 76 = .ok (.iinc 1 1, 3) := by decide +kernel
theorem dX0_followChains_79 : decode cX0_followChains 79 = .ok (.goto (-51), 3) := by decide +kernel
theorem dX0_followChains_82 : decode cX0_followChains 82 = .ok (.return_, 1) := by decide +kernel
set_option maxRecDepth 20000 in
theorem ggX1_init_X0_init : GoodIn wsX1_init wsX0_init := goodIn_r _ [22, 23, 2, 3, 4, 24, 25, 46, 47] (by decide +kernel) (by decide +kernel)
set_option maxRecDepth 20000 in
theorem gX1_init_X0_init_n27 : GoodIn wsX1_init (wsX0_init) := ggX1_init_X0_init
theorem dX1_init_0 : decode cX1_init 0 = .ok (.aload_n 0, 1) := by decide +kernel
theorem dX1_init_1 : decode cX1_init 1 = .ok (.invokespecial 1, 3) := by decide +kernel
theorem dX1_init_4 : decode cX1_init 4 = .ok (.aload_n 0, 1) := by decide +kernel
theorem dX1_init_5 : decode cX1_init 5 = .ok (.bipush 16, 2) := by decide +kernel
theorem dX1_init_7 : decode cX1_init 7 = .ok (.newarray .int, 2) := by decide +kernel
theorem dX1_init_9 : decode cX1_init 9 = .ok (.putfield 9, 3) := by decide +kernel
theorem dX1_init_12 : decode cX1_init 12 = .ok (.aload_n 0, 1) := by decide +kernel
theorem dX1_init_13 : decode cX1_init 13 = .ok (.bipush 16, 2) := by decide +kernel
theorem dX1_init_15 : decode cX1_init 15 = .ok (.newarray .int, 2) := by decide +kernel
theorem dX1_init_17 : decode cX1_init 17 = .ok (.putfield 13, 3) := by decide +kernel
theorem dX1_init_20 : decode cX1_init 20 = .ok (.aload_n 0, 1) := by decide +kernel
theorem dX1_init_21 : decode cX1_init 21 = .ok (.bipush 6, 2) := by decide +kernel
theorem dX1_init_23 : decode cX1_init 23 = .ok (.newarray .int, 2) := by decide +kernel
theorem dX1_init_25 : decode cX1_init 25 = .ok (.putfield 16, 3) := by decide +kernel
theorem dX1_init_28 : decode cX1_init 28 = .ok (.aload_n 0, 1) := by decide +kernel
theorem dX1_init_29 : decode cX1_init 29 = .ok (.bipush 6, 2) := by decide +kernel
theorem dX1_init_31 : decode cX1_init 31 = .ok (.newarray .int, 2) := by decide +kernel
theorem dX1_init_33 : decode cX1_init 33 = .ok (.putfield 19, 3) := by decide +kernel
theorem dX1_init_36 : decode cX1_init 36 = .ok (.aload_n 0, 1) := by decide +kernel
theorem dX1_init_37 : decode cX1_init 37 = .ok (.bipush 6, 2) := by decide +kernel
theorem dX1_init_39 : decode cX1_init 39 = .ok (.newarray .int, 2) := by decide +kernel
theorem dX1_init_41 : decode cX1_init 41 = .ok (.putfield 22, 3) := by decide +kernel
theorem dX1_init_44 : decode cX1_init 44 = .ok (.aload_n 0, 1) := by decide +kernel
theorem dX1_init_45 : decode cX1_init 45 = .ok (.new 25, 3) := by decide +kernel
theorem dX1_init_48 : decode cX1_init 48 = .ok (.dup, 1) := by decide +kernel
theorem dX1_init_49 : decode cX1_init 49 = .ok (.invokespecial 27, 3) := by decide +kernel
theorem dX1_init_52 : decode cX1_init 52 = .ok (.putfield 28, 3) := by decide +kernel
theorem dX1_init_55 : decode cX1_init 55 = .ok (.aload_n 0, 1) := by decide +kernel
theorem dX1_init_56 : decode cX1_init 56 = .ok (.bipush 6, 2) := by decide +kernel
theorem dX1_init_58 : decode cX1_init 58 = .ok (.newarray .int, 2) := by decide +kernel
theorem dX1_init_60 : decode cX1_init 60 = .ok (.putfield 32, 3) := by decide +kernel
theorem dX1_init_63 : decode cX1_init 63 = .ok (.aload_n 0, 1) := by decide +kernel
theorem dX1_init_64 : decode cX1_init 64 = .ok (.bipush 6, 2) := by decide +kernel
theorem dX1_init_66 : decode cX1_init 66 = .ok (.newarray .int, 2) := by decide +kernel
theorem dX1_init_68 : decode cX1_init 68 = .ok (.putfield 35, 3) := by decide +kernel
theorem dX1_init_71 : decode cX1_init 71 = .ok (.aload_n 0, 1) := by decide +kernel
theorem dX1_init_72 : decode cX1_init 72 = .ok (.bipush 64, 2) := by decide +kernel
theorem dX1_init_74 : decode cX1_init 74 = .ok (.newarray .int, 2) := by decide +kernel
theorem dX1_init_76 : decode cX1_init 76 = .ok (.putfield 38, 3) := by decide +kernel
theorem dX1_init_79 : decode cX1_init 79 = .ok (.aload_n 0, 1) := by decide +kernel
theorem dX1_init_80 : decode cX1_init 80 = .ok (.bipush 64, 2) := by decide +kernel
theorem dX1_init_82 : decode cX1_init 82 = .ok (.newarray .int, 2) := by decide +kernel
theorem dX1_init_84 : decode cX1_init 84 = .ok (.putfield 41, 3) := by decide +kernel
theorem dX1_init_87 : decode cX1_init 87 = .ok (.aload_n 0, 1) := by decide +kernel
theorem dX1_init_88 : decode cX1_init 88 = .ok (.bipush 64, 2) := by decide +kernel
theorem dX1_init_90 : decode cX1_init 90 = .ok (.newarray .int, 2) := by decide +kernel
theorem dX1_init_92 : decode cX1_init 92 = .ok (.putfield 44, 3) := by decide +kernel
theorem dX1_init_95 : decode cX1_init 95 = .ok (.aload_n 0, 1) := by decide +kernel
theorem dX1_init_96 : decode cX1_init 96 = .ok (.bipush 64, 2) := by decide +kernel
theorem dX1_init_98 : decode cX1_init 98 = .ok (.newarray .boolean, 2) := by decide +kernel
theorem dX1_init_100 : decode cX1_init 100 = .ok (.putfield 47, 3) := by decide +kernel
theorem dX1_init_103 : decode cX1_init 103 = .ok (.return_, 1) := by decide +kernel
set_option maxRecDepth 20000 in
theorem ggX1_setFact_X1_checkLiteral : GoodIn wsX1_setFact wsX1_checkLiteral := goodIn_ca (goodIn_r _ [5, 6, 7] (by decide +kernel) (by decide +kernel)) (goodIn_sub (fun _ h => List.mem_cons_of_mem _ (List.mem_append_right _ h)) (by decide +kernel))
set_option maxRecDepth 20000 in
theorem gX1_setFact_X1_checkLiteral : GoodIn wsX1_setFact (va_wsS RX1 51 yX1_checkLiteral wsX1_checkLiteral) := goodIn_app (goodIn_of _ (by decide +kernel)) ggX1_setFact_X1_checkLiteral
set_option maxRecDepth 20000 in
theorem ggX1_setFact_X1_has : GoodIn wsX1_setFact wsX1_has := goodIn_r _ [10] (by decide +kernel) (by decide +kernel)
set_option maxRecDepth 20000 in
theorem gX1_setFact_X1_has : GoodIn wsX1_setFact (va_wsS RX1 59 yX1_has wsX1_has) := goodIn_app (goodIn_of _ (by decide +kernel)) ggX1_setFact_X1_has
set_option maxRecDepth 20000 in
theorem ggX1_setFact_X1_forgetFindings : GoodIn wsX1_setFact wsX1_forgetFindings := goodIn_r _ [14, 15, 16, 17, 18, 19, 20, 21, 22, 23, 24, 25, 26, 27, 28, 29, 30, 31, 32, 33, 34, 35, 36] (by decide +kernel) (by decide +kernel)
set_option maxRecDepth 20000 in
theorem gX1_setFact_X1_forgetFindings : GoodIn wsX1_setFact (wsV RX1 63 RX1 yX1_forgetFindings wsX1_forgetFindings) := goodIn_app (goodIn_of _ (by decide +kernel)) ggX1_setFact_X1_forgetFindings
theorem dX1_setFact_0 : decode cX1_setFact 0 = .ok (.iload_n 1, 1) := by decide +kernel
theorem dX1_setFact_1 : decode cX1_setFact 1 = .ok (.invokestatic 51, 3) := by decide +kernel
theorem dX1_setFact_4 : decode cX1_setFact 4 = .ok (.aload_n 0, 1) := by decide +kernel
theorem dX1_setFact_5 : decode cX1_setFact 5 = .ok (.getfield 55, 3) := by decide +kernel
theorem dX1_setFact_8 : decode cX1_setFact 8 = .ok (.iload_n 1, 1) := by decide +kernel
theorem dX1_setFact_9 : decode cX1_setFact 9 = .ok (.invokestatic 59, 3) := by decide +kernel
theorem dX1_setFact_12 : decode cX1_setFact 12 = .ok (.istore_n 3, 1) := by decide +kernel
theorem dX1_setFact_13 : decode cX1_setFact 13 = .ok (.aload_n 0, 1) := by decide +kernel
theorem dX1_setFact_14 : decode cX1_setFact 14 = .ok (.iload_n 2, 1) := by decide +kernel
theorem dX1_setFact_15 : decode cX1_setFact 15 = .ok (.ifCond .eq 14, 3) := by decide +kernel
theorem dX1_setFact_18 : decode cX1_setFact 18 = .ok (.aload_n 0, 1) := by decide +kernel
theorem dX1_setFact_19 : decode cX1_setFact 19 = .ok (.getfield 55, 3) := by decide +kernel
theorem dX1_setFact_22 : decode cX1_setFact 22 = .ok (.iconst 1, 1) := by decide +kernel
theorem dX1_setFact_23 : decode cX1_setFact 23 = .ok (.iload_n 1, 1) := by decide +kernel
theorem dX1_setFact_24 : decode cX1_setFact 24 = .ok (.ishl, 1) := by decide +kernel
theorem dX1_setFact_25 : decode cX1_setFact 25 = .ok (.ior, 1) := by decide +kernel
theorem dX1_setFact_26 : decode cX1_setFact 26 = .ok (.goto 13, 3) := by decide +kernel
theorem dX1_setFact_29 : decode cX1_setFact 29 = .ok (.aload_n 0, 1) := by decide +kernel
theorem dX1_setFact_30 : decode cX1_setFact 30 = .ok (.getfield 55, 3) := by decide +kernel
theorem dX1_setFact_33 : decode cX1_setFact 33 = .ok (.iconst 1, 1) := by decide +kernel
theorem dX1_setFact_34 : decode cX1_setFact 34 = .ok (.iload_n 1, 1) := by decide +kernel
theorem dX1_setFact_35 : decode cX1_setFact 35 = .ok (.ishl, 1) := by decide +kernel
theorem dX1_setFact_36 : decode cX1_setFact 36 = .ok (.iconst (-1), 1) := by decide +kernel
theorem dX1_setFact_37 : decode cX1_setFact 37 = .ok (.ixor, 1) := by decide +kernel
theorem dX1_setFact_38 : decode cX1_setFact 38 = .ok (.iand, 1) := by decide +kernel
theorem dX1_setFact_39 : decode cX1_setFact 39 = .ok (.putfield 55, 3) := by decide +kernel
theorem dX1_setFact_42 : decode cX1_setFact 42 = .ok (.aload_n 0, 1) := by decide +kernel
theorem dX1_setFact_43 : decode cX1_setFact 43 = .ok (.invokevirtual 63, 3) := by decide +kernel
theorem dX1_setFact_46 : decode cX1_setFact 46 = .ok (.iload_n 3, 1) := by decide +kernel
theorem dX1_setFact_47 : decode cX1_setFact 47 = .ok (.ireturn, 1) := by decide +kernel
set_option maxRecDepth 20000 in
theorem ggX1_addRule_X1_checkLiteral : GoodIn wsX1_addRule wsX1_checkLiteral := goodIn_ca (goodIn_r _ [9, 10, 11] (by decide +kernel) (by decide +kernel)) (goodIn_sub (fun _ h => List.mem_cons_of_mem _ (List.mem_append_left _ (List.mem_append_right _ h))) (by decide +kernel))
set_option maxRecDepth 20000 in
theorem gX1_addRule_X1_checkLiteral : GoodIn wsX1_addRule (va_wsS RX1 51 yX1_checkLiteral wsX1_checkLiteral) := goodIn_app (goodIn_of _ (by decide +kernel)) ggX1_addRule_X1_checkLiteral
set_option maxRecDepth 20000 in
theorem ggX1_addRule_X1_checkSet : GoodIn wsX1_addRule wsX1_checkSet := goodIn_ca (goodIn_r _ [14, 15, 16, 17] (by decide +kernel) (by decide +kernel)) (goodIn_sub (fun _ h => List.mem_cons_of_mem _ (List.mem_append_right _ h)) (by decide +kernel))
set_option maxRecDepth 20000 in
theorem gX1_addRule_X1_checkSet : GoodIn wsX1_addRule (va_wsS RX1 66 yX1_checkSet wsX1_checkSet) := goodIn_app (goodIn_of _ (by decide +kernel)) ggX1_addRule_X1_checkSet
set_option maxRecDepth 20000 in
theorem ggX1_addRule_X1_forgetFindings : GoodIn wsX1_addRule wsX1_forgetFindings := goodIn_r _ [21, 22, 23, 24, 25, 26, 27, 28, 29, 30, 31, 32, 33, 34, 35, 36, 37, 38, 39, 40, 41, 42, 43] (by decide +kernel) (by decide +kernel)
set_option maxRecDepth 20000 in
theorem gX1_addRule_X1_forgetFindings : GoodIn wsX1_addRule (wsV RX1 63 RX1 yX1_forgetFindings wsX1_forgetFindings) := goodIn_app (goodIn_of _ (by decide +kernel)) ggX1_addRule_X1_forgetFindings
theorem dX1_addRule_0 : decode cX1_addRule 0 = .ok (.iload_n 2, 1) := by decide +kernel
theorem dX1_addRule_1 : decode cX1_addRule 1 = .ok (.invokestatic 51, 3) := by decide +kernel
theorem dX1_addRule_4 : decode cX1_addRule 4 = .ok (.iload_n 1, 1) := by decide +kernel
theorem dX1_addRule_5 : decode cX1_addRule 5 = .ok (.invokestatic 66, 3) := by decide +kernel
theorem dX1_addRule_8 : decode cX1_addRule 8 = .ok (.aload_n 0, 1) := by decide +kernel
theorem dX1_addRule_9 : decode cX1_addRule 9 = .ok (.getfield 69, 3) := by decide +kernel
theorem dX1_addRule_12 : decode cX1_addRule 12 = .ok (.bipush 16, 2) := by decide +kernel
theorem dX1_addRule_14 : decode cX1_addRule 14 = .ok (.if_icmp .lt 13, 3) := by decide +kernel
theorem dX1_addRule_17 : decode cX1_addRule 17 = .ok (.new 72, 3) := by decide +kernel
theorem dX1_addRule_20 : decode cX1_addRule 20 = .ok (.dup, 1) := by decide +kernel
theorem dX1_addRule_21 : decode cX1_addRule 21 = .ok (.ldc 74, 2) := by decide +kernel
theorem dX1_addRule_23 : decode cX1_addRule 23 = .ok (.invokespecial 76, 3) := by decide +kernel
theorem dX1_addRule_26 : decode cX1_addRule 26 = .ok (.athrow, 1) := by decide +kernel
theorem dX1_addRule_27 : decode cX1_addRule 27 = .ok (.aload_n 0, 1) := by decide +kernel
theorem dX1_addRule_28 : decode cX1_addRule 28 = .ok (.getfield 69, 3) := by decide +kernel
theorem dX1_addRule_31 : decode cX1_addRule 31 = .ok (.istore_n 3, 1) := by decide +kernel
theorem dX1_addRule_32 : decode cX1_addRule 32 = .ok (.aload_n 0, 1) := by decide +kernel
theorem dX1_addRule_33 : decode cX1_addRule 33 = .ok (.getfield 9, 3) := by decide +kernel
theorem dX1_addRule_36 : decode cX1_addRule 36 = .ok (.iload_n 3, 1) := by decide +kernel
theorem dX1_addRule_37 : decode cX1_addRule 37 = .ok (.iload_n 1, 1) := by decide +kernel
theorem dX1_addRule_38 : decode cX1_addRule 38 = .ok (.iastore, 1) := by decide +kernel
theorem dX1_addRule_39 : decode cX1_addRule 39 = .ok (.aload_n 0, 1) := by decide +kernel
theorem dX1_addRule_40 : decode cX1_addRule 40 = .ok (.getfield 13, 3) := by decide +kernel
theorem dX1_addRule_43 : decode cX1_addRule 43 = .ok (.iload_n 3, 1) := by decide +kernel
theorem dX1_addRule_44 : decode cX1_addRule 44 = .ok (.iload_n 2, 1) := by decide +kernel
theorem dX1_addRule_45 : decode cX1_addRule 45 = .ok (.iastore, 1) := by decide +kernel
theorem dX1_addRule_46 : decode cX1_addRule 46 = .ok (.aload_n 0, 1) := by decide +kernel
theorem dX1_addRule_47 : decode cX1_addRule 47 = .ok (.iload_n 3, 1) := by decide +kernel
theorem dX1_addRule_48 : decode cX1_addRule 48 = .ok (.iconst 1, 1) := by decide +kernel
theorem dX1_addRule_49 : decode cX1_addRule 49 = .ok (.iadd, 1) := by decide +kernel
theorem dX1_addRule_50 : decode cX1_addRule 50 = .ok (.putfield 69, 3) := by decide +kernel
theorem dX1_addRule_53 : decode cX1_addRule 53 = .ok (.aload_n 0, 1) := by decide +kernel
theorem dX1_addRule_54 : decode cX1_addRule 54 = .ok (.invokevirtual 63, 3) := by decide +kernel
theorem dX1_addRule_57 : decode cX1_addRule 57 = .ok (.iload_n 3, 1) := by decide +kernel
theorem dX1_addRule_58 : decode cX1_addRule 58 = .ok (.ireturn, 1) := by decide +kernel
set_option maxRecDepth 20000 in
theorem ggX1_addDefault_X1_checkLiteral : GoodIn wsX1_addDefault wsX1_checkLiteral := goodIn_ca (goodIn_r _ [10, 11, 12] (by decide +kernel) (by decide +kernel)) (goodIn_sub (fun _ h => List.mem_cons_of_mem _ (List.mem_append_left _ (List.mem_append_right _ h))) (by decide +kernel))
set_option maxRecDepth 20000 in
theorem gX1_addDefault_X1_checkLiteral : GoodIn wsX1_addDefault (va_wsS RX1 51 yX1_checkLiteral wsX1_checkLiteral) := goodIn_app (goodIn_of _ (by decide +kernel)) ggX1_addDefault_X1_checkLiteral
set_option maxRecDepth 20000 in
theorem ggX1_addDefault_X1_checkSet : GoodIn wsX1_addDefault wsX1_checkSet := goodIn_ca (goodIn_r _ [15, 16, 17, 18] (by decide +kernel) (by decide +kernel)) (goodIn_sub (fun _ h => List.mem_cons_of_mem _ (List.mem_append_right _ h)) (by decide +kernel))
set_option maxRecDepth 20000 in
theorem gX1_addDefault_X1_checkSet : GoodIn wsX1_addDefault (va_wsS RX1 66 yX1_checkSet wsX1_checkSet) := goodIn_app (goodIn_of _ (by decide +kernel)) ggX1_addDefault_X1_checkSet
set_option maxRecDepth 20000 in
theorem ggX1_addDefault_X1_forgetFindings : GoodIn wsX1_addDefault wsX1_forgetFindings := goodIn_r _ [22, 23, 24, 25, 26, 27, 28, 29, 30, 31, 32, 33, 34, 35, 36, 37, 38, 39, 40, 41, 42, 43, 44] (by decide +kernel) (by decide +kernel)
set_option maxRecDepth 20000 in
theorem gX1_addDefault_X1_forgetFindings : GoodIn wsX1_addDefault (wsV RX1 63 RX1 yX1_forgetFindings wsX1_forgetFindings) := goodIn_app (goodIn_of _ (by decide +kernel)) ggX1_addDefault_X1_forgetFindings
theorem dX1_addDefault_0 : decode cX1_addDefault 0 = .ok (.iload_n 3, 1) := by decide +kernel
theorem dX1_addDefault_1 : decode cX1_addDefault 1 = .ok (.invokestatic 51, 3) := by decide +kernel
theorem dX1_addDefault_4 : decode cX1_addDefault 4 = .ok (.iload_n 1, 1) := by decide +kernel
theorem dX1_addDefault_5 : decode cX1_addDefault 5 = .ok (.invokestatic 66, 3) := by decide +kernel
theorem dX1_addDefault_8 : decode cX1_addDefault 8 = .ok (.iload_n 2, 1) := by decide +kernel
theorem dX1_addDefault_9 : decode cX1_addDefault 9 = .ok (.invokestatic 66, 3) := by decide +kernel
theorem dX1_addDefault_12 : decode cX1_addDefault 12 = .ok (.aload_n 0, 1) := by decide +kernel
theorem dX1_addDefault_13 : decode cX1_addDefault 13 = .ok (.getfield 79, 3) := by decide +kernel
theorem dX1_addDefault_16 : decode cX1_addDefault 16 = .ok (.bipush 6, 2) := by decide +kernel
theorem dX1_addDefault_18 : decode cX1_addDefault 18 = .ok (.if_icmp .lt 13, 3) := by decide +kernel
theorem dX1_addDefault_21 : decode cX1_addDefault 21 = .ok (.new 72, 3) := by decide +kernel
theorem dX1_addDefault_24 : decode cX1_addDefault 24 = .ok (.dup, 1) := by decide +kernel
theorem dX1_addDefault_25 : decode cX1_addDefault 25 = .ok (.ldc 82, 2) := by decide +kernel
theorem dX1_addDefault_27 : decode cX1_addDefault 27 = .ok (.invokespecial 76, 3) := by decide +kernel
theorem dX1_addDefault_30 : decode cX1_addDefault 30 = .ok (.athrow, 1) := by decide +kernel
theorem dX1_addDefault_31 : decode cX1_addDefault 31 = .ok (.aload_n 0, 1) := by decide +kernel
theorem dX1_addDefault_32 : decode cX1_addDefault 32 = .ok (.getfield 79, 3) := by decide +kernel
theorem dX1_addDefault_35 : decode cX1_addDefault 35 = .ok (.istore 4, 2) := by decide +kernel
theorem dX1_addDefault_37 : decode cX1_addDefault 37 = .ok (.aload_n 0, 1) := by decide +kernel
theorem dX1_addDefault_38 : decode cX1_addDefault 38 = .ok (.getfield 16, 3) := by decide +kernel
theorem dX1_addDefault_41 : decode cX1_addDefault 41 = .ok (.iload 4, 2) := by decide +kernel
theorem dX1_addDefault_43 : decode cX1_addDefault 43 = .ok (.iload_n 1, 1) := by decide +kernel
theorem dX1_addDefault_44 : decode cX1_addDefault 44 = .ok (.iastore, 1) := by decide +kernel
theorem dX1_addDefault_45 : decode cX1_addDefault 45 = .ok (.aload_n 0, 1) := by decide +kernel
theorem dX1_addDefault_46 : decode cX1_addDefault 46 = .ok (.getfield 19, 3) := by decide +kernel
theorem dX1_addDefault_49 : decode cX1_addDefault 49 = .ok (.iload 4, 2) := by decide +kernel
theorem dX1_addDefault_51 : decode cX1_addDefault 51 = .ok (.iload_n 2, 1) := by decide +kernel
theorem dX1_addDefault_52 : decode cX1_addDefault 52 = .ok (.iastore, 1) := by decide +kernel
theorem dX1_addDefault_53 : decode cX1_addDefault 53 = .ok (.aload_n 0, 1) := by decide +kernel
theorem dX1_addDefault_54 : decode cX1_addDefault 54 = .ok (.getfield 22, 3) := by decide +kernel
theorem dX1_addDefault_57 : decode cX1_addDefault 57 = .ok (.iload 4, 2) := by decide +kernel
theorem dX1_addDefault_59 : decode cX1_addDefault 59 = .ok (.iload_n 3, 1) := by decide +kernel
theorem dX1_addDefault_60 : decode cX1_addDefault 60 = .ok (.iastore, 1) := by decide +kernel
theorem dX1_addDefault_61 : decode cX1_addDefault 61 = .ok (.aload_n 0, 1) := by decide +kernel
theorem dX1_addDefault_62 : decode cX1_addDefault 62 = .ok (.iload 4, 2) := by decide +kernel
theorem dX1_addDefault_64 : decode cX1_addDefault 64 = .ok (.iconst 1, 1) := by decide +kernel
theorem dX1_addDefault_65 : decode cX1_addDefault 65 = .ok (.iadd, 1) := by decide +kernel
theorem dX1_addDefault_66 : decode cX1_addDefault 66 = .ok (.putfield 79, 3) := by decide +kernel
theorem dX1_addDefault_69 : decode cX1_addDefault 69 = .ok (.aload_n 0, 1) := by decide +kernel
theorem dX1_addDefault_70 : decode cX1_addDefault 70 = .ok (.invokevirtual 63, 3) := by decide +kernel
theorem dX1_addDefault_73 : decode cX1_addDefault 73 = .ok (.iload 4, 2) := by decide +kernel
theorem dX1_addDefault_75 : decode cX1_addDefault 75 = .ok (.ireturn, 1) := by decide +kernel
set_option maxRecDepth 20000 in
theorem ggX1_dropRule_X1_forgetFindings : GoodIn wsX1_dropRule wsX1_forgetFindings := goodIn_r _ [8, 9, 10, 11, 12, 13, 14, 15, 16, 17, 18, 19, 20, 21, 22, 23, 24, 25, 26, 27, 28, 29, 30] (by decide +kernel) (by decide +kernel)
set_option maxRecDepth 20000 in
theorem gX1_dropRule_X1_forgetFindings : GoodIn wsX1_dropRule (wsV RX1 63 RX1 yX1_forgetFindings wsX1_forgetFindings) := goodIn_app (goodIn_of _ (by decide +kernel)) ggX1_dropRule_X1_forgetFindings
theorem dX1_dropRule_0 : decode cX1_dropRule 0 = .ok (.aload_n 0, 1) := by decide +kernel
theorem dX1_dropRule_1 : decode cX1_dropRule 1 = .ok (.getfield 69, 3) := by decide +kernel
theorem dX1_dropRule_4 : decode cX1_dropRule 4 = .ok (.ifCond .gt 13, 3) := by decide +kernel
theorem dX1_dropRule_7 : decode cX1_dropRule 7 = .ok (.new 72, 3) := by decide +kernel
theorem dX1_dropRule_10 : decode cX1_dropRule 10 = .ok (.dup, 1) := by decide +kernel
theorem dX1_dropRule_11 : decode cX1_dropRule 11 = .ok (.ldc 84, 2) := by decide +kernel
theorem dX1_dropRule_13 : decode cX1_dropRule 13 = .ok (.invokespecial 76, 3) := by decide +kernel
theorem dX1_dropRule_16 : decode cX1_dropRule 16 = .ok (.athrow, 1) := by decide +kernel
theorem dX1_dropRule_17 : decode cX1_dropRule 17 = .ok (.aload_n 0, 1) := by decide +kernel
theorem dX1_dropRule_18 : decode cX1_dropRule 18 = .ok (.dup, 1) := by decide +kernel
theorem dX1_dropRule_19 : decode cX1_dropRule 19 = .ok (.getfield 69, 3) := by decide +kernel
theorem dX1_dropRule_22 : decode cX1_dropRule 22 = .ok (.iconst 1, 1) := by decide +kernel
theorem dX1_dropRule_23 : decode cX1_dropRule 23 = .ok (.isub, 1) := by decide +kernel
theorem dX1_dropRule_24 : decode cX1_dropRule 24 = .ok (.putfield 69, 3) := by decide +kernel
theorem dX1_dropRule_27 : decode cX1_dropRule 27 = .ok (.aload_n 0, 1) := by decide +kernel
theorem dX1_dropRule_28 : decode cX1_dropRule 28 = .ok (.invokevirtual 63, 3) := by decide +kernel
theorem dX1_dropRule_31 : decode cX1_dropRule 31 = .ok (.aload_n 0, 1) := by decide +kernel
theorem dX1_dropRule_32 : decode cX1_dropRule 32 = .ok (.getfield 69, 3) := by decide +kernel
theorem dX1_dropRule_35 : decode cX1_dropRule 35 = .ok (.ireturn, 1) := by decide +kernel
set_option maxRecDepth 20000 in
theorem ggX1_dropDefault_X0_removeAllWith : GoodIn wsX1_dropDefault wsX0_removeAllWith := goodIn_r _ [8, 9, 10, 11, 12, 6, 13, 14, 15, 16, 17, 44, 45] (by decide +kernel) (by decide +kernel)
set_option maxRecDepth 20000 in
theorem gX1_dropDefault_X0_removeAllWith_n88 : GoodIn wsX1_dropDefault (wsX0_removeAllWith) := ggX1_dropDefault_X0_removeAllWith
set_option maxRecDepth 20000 in
theorem ggX1_dropDefault_X1_forgetFindings : GoodIn wsX1_dropDefault wsX1_forgetFindings := goodIn_r _ [21, 22, 23, 24, 25, 26, 27, 28, 29, 30, 31, 32, 33, 34, 35, 36, 37, 38, 39, 40, 41, 42, 43] (by decide +kernel) (by decide +kernel)
set_option maxRecDepth 20000 in
theorem gX1_dropDefault_X1_forgetFindings : GoodIn wsX1_dropDefault (wsV RX1 63 RX1 yX1_forgetFindings wsX1_forgetFindings) := goodIn_app (goodIn_of _ (by decide +kernel)) ggX1_dropDefault_X1_forgetFindings
theorem dX1_dropDefault_0 : decode cX1_dropDefault 0 = .ok (.aload_n 0, 1) := by decide +kernel
theorem dX1_dropDefault_1 : decode cX1_dropDefault 1 = .ok (.getfield 79, 3) := by decide +kernel
theorem dX1_dropDefault_4 : decode cX1_dropDefault 4 = .ok (.ifCond .gt 13, 3) := by decide +kernel
theorem dX1_dropDefault_7 : decode cX1_dropDefault 7 = .ok (.new 72, 3) := by decide +kernel
theorem dX1_dropDefault_10 : decode cX1_dropDefault 10 = .ok (.dup, 1) := by decide +kernel
theorem dX1_dropDefault_11 : decode cX1_dropDefault 11 = .ok (.ldc 86, 2) := by decide +kernel
theorem dX1_dropDefault_13 : decode cX1_dropDefault 13 = .ok (.invokespecial 76, 3) := by decide +kernel
theorem dX1_dropDefault_16 : decode cX1_dropDefault 16 = .ok (.athrow, 1) := by decide +kernel
theorem dX1_dropDefault_17 : decode cX1_dropDefault 17 = .ok (.aload_n 0, 1) := by decide +kernel
theorem dX1_dropDefault_18 : decode cX1_dropDefault 18 = .ok (.dup, 1) := by decide +kernel
theorem dX1_dropDefault_19 : decode cX1_dropDefault 19 = .ok (.getfield 79, 3) := by decide +kernel
theorem dX1_dropDefault_22 : decode cX1_dropDefault 22 = .ok (.iconst 1, 1) := by decide +kernel
theorem dX1_dropDefault_23 : decode cX1_dropDefault 23 = .ok (.isub, 1) := by decide +kernel
theorem dX1_dropDefault_24 : decode cX1_dropDefault 24 = .ok (.putfield 79, 3) := by decide +kernel
theorem dX1_dropDefault_27 : decode cX1_dropDefault 27 = .ok (.aload_n 0, 1) := by decide +kernel
theorem dX1_dropDefault_28 : decode cX1_dropDefault 28 = .ok (.getfield 28, 3) := by decide +kernel
theorem dX1_dropDefault_31 : decode cX1_dropDefault 31 = .ok (.aload_n 0, 1) := by decide +kernel
theorem dX1_dropDefault_32 : decode cX1_dropDefault 32 = .ok (.getfield 79, 3) := by decide +kernel
theorem dX1_dropDefault_35 : decode cX1_dropDefault 35 = .ok (.invokevirtual 88, 3) := by decide +kernel
theorem dX1_dropDefault_38 : decode cX1_dropDefault 38 = .ok (.aload_n 0, 1) := by decide +kernel
theorem dX1_dropDefault_39 : decode cX1_dropDefault 39 = .ok (.invokevirtual 63, 3) := by decide +kernel
theorem dX1_dropDefault_42 : decode cX1_dropDefault 42 = .ok (.aload_n 0, 1) := by decide +kernel
theorem dX1_dropDefault_43 : decode cX1_dropDefault 43 = .ok (.getfield 79, 3) := by decide +kernel
theorem dX1_dropDefault_46 : decode cX1_dropDefault 46 = .ok (.ireturn, 1) := by decide +kernel
set_option maxRecDepth 20000 in
theorem ggX1_prefer_X1_checkDefault : GoodIn wsX1_prefer wsX1_checkDefault := goodIn_ca (goodIn_r _ [9, 10, 11, 12, 28, 29, 30, 31, 32, 33, 34, 35, 36, 37, 38, 39, 40, 41, 42, 43, 44, 45, 46, 47] (by decide +kernel) (by decide +kernel)) (goodIn_sub (fun _ h => List.mem_cons_of_mem _ (List.mem_append_right _ h)) (by decide +kernel))
set_option maxRecDepth 20000 in
theorem gX1_prefer_X1_checkDefault : GoodIn wsX1_prefer (wsV RX1 91 RX1 yX1_checkDefault wsX1_checkDefault) := goodIn_app (goodIn_of _ (by decide +kernel)) ggX1_prefer_X1_checkDefault
set_option maxRecDepth 20000 in
theorem ggX1_prefer_X0_comesBefore : GoodIn wsX1_prefer wsX0_comesBefore := goodIn_r _ [16, 17, 18, 8, 19, 48, 49] (by decide +kernel) (by decide +kernel)
set_option maxRecDepth 20000 in
theorem gX1_prefer_X0_comesBefore_n94 : GoodIn wsX1_prefer (wsX0_comesBefore) := ggX1_prefer_X0_comesBefore
set_option maxRecDepth 20000 in
theorem ggX1_prefer_X0_put : GoodIn wsX1_prefer wsX0_put := goodIn_r _ [22, 23, 24, 25, 26, 14, 27, 17, 18, 8, 19, 48, 49] (by decide +kernel) (by decide +kernel)
set_option maxRecDepth 20000 in
theorem gX1_prefer_X0_put_n102 : GoodIn wsX1_prefer (wsX0_put) := ggX1_prefer_X0_put
theorem dX1_prefer_0 : decode cX1_prefer 0 = .ok (.aload_n 0, 1) := by decide +kernel
theorem dX1_prefer_1 : decode cX1_prefer 1 = .ok (.iload_n 1, 1) := by decide +kernel
theorem dX1_prefer_2 : decode cX1_prefer 2 = .ok (.invokevirtual 91, 3) := by decide +kernel
theorem dX1_prefer_5 : decode cX1_prefer 5 = .ok (.aload_n 0, 1) := by decide +kernel
theorem dX1_prefer_6 : decode cX1_prefer 6 = .ok (.iload_n 2, 1) := by decide +kernel
theorem dX1_prefer_7 : decode cX1_prefer 7 = .ok (.invokevirtual 91, 3) := by decide +kernel
theorem dX1_prefer_10 : decode cX1_prefer 10 = .ok (.iload_n 1, 1) := by decide +kernel
theorem dX1_prefer_11 : decode cX1_prefer 11 = .ok (.iload_n 2, 1) := by decide +kernel
theorem dX1_prefer_12 : decode cX1_prefer 12 = .ok (.if_icmp .eq 15, 3) := by decide +kernel
theorem dX1_prefer_15 : decode cX1_prefer 15 = .ok (.aload_n 0, 1) := by decide +kernel
theorem dX1_prefer_16 : decode cX1_prefer 16 = .ok (.getfield 28, 3) := by decide +kernel
theorem dX1_prefer_19 : decode cX1_prefer 19 = .ok (.iload_n 2, 1) := by decide +kernel
theorem dX1_prefer_20 : decode cX1_prefer 20 = .ok (.iload_n 1, 1) := by decide +kernel
theorem dX1_prefer_21 : decode cX1_prefer 21 = .ok (.invokevirtual 94, 3) := by decide +kernel
theorem dX1_prefer_24 : decode cX1_prefer 24 = .ok (.ifCond .eq 13, 3) := by decide +kernel
theorem dX1_prefer_27 : decode cX1_prefer 27 = .ok (.new 97, 3) := by decide +kernel
theorem dX1_prefer_30 : decode cX1_prefer 30 = .ok (.dup, 1) := by decide +kernel
theorem dX1_prefer_31 : decode cX1_prefer 31 = .ok (.ldc 99, 2) := by decide +kernel
theorem dX1_prefer_33 : decode cX1_prefer 33 = .ok (.invokespecial 101, 3) := by decide +kernel
theorem dX1_prefer_36 : decode cX1_prefer 36 = .ok (.athrow, 1) := by decide +kernel
theorem dX1_prefer_37 : decode cX1_prefer 37 = .ok (.aload_n 0, 1) := by decide +kernel
theorem dX1_prefer_38 : decode cX1_prefer 38 = .ok (.getfield 28, 3) := by decide +kernel
theorem dX1_prefer_41 : decode cX1_prefer 41 = .ok (.iload_n 1, 1) := by decide +kernel
theorem dX1_prefer_42 : decode cX1_prefer 42 = .ok (.iload_n 2, 1) := by decide +kernel
theorem dX1_prefer_43 : decode cX1_prefer 43 = .ok (.invokevirtual 94, 3) := by decide +kernel
theorem dX1_prefer_46 : decode cX1_prefer 46 = .ok (.istore_n 3, 1) := by decide +kernel
theorem dX1_prefer_47 : decode cX1_prefer 47 = .ok (.aload_n 0, 1) := by decide +kernel
theorem dX1_prefer_48 : decode cX1_prefer 48 = .ok (.getfield 28, 3) := by decide +kernel
theorem dX1_prefer_51 : decode cX1_prefer 51 = .ok (.iload_n 1, 1) := by decide +kernel
theorem dX1_prefer_52 : decode cX1_prefer 52 = .ok (.iload_n 2, 1) := by decide +kernel
theorem dX1_prefer_53 : decode cX1_prefer 53 = .ok (.invokevirtual 102, 3) := by decide +kernel
theorem dX1_prefer_56 : decode cX1_prefer 56 = .ok (.aload_n 0, 1) := by decide +kernel
theorem dX1_prefer_57 : decode cX1_prefer 57 = .ok (.iconst 0, 1) := by decide +kernel
theorem dX1_prefer_58 : decode cX1_prefer 58 = .ok (.putfield 106, 3) := by decide +kernel
theorem dX1_prefer_61 : decode cX1_prefer 61 = .ok (.iload_n 3, 1) := by decide +kernel
theorem dX1_prefer_62 : decode cX1_prefer 62 = .ok (.ireturn, 1) := by decide +kernel
set_option maxRecDepth 20000 in
theorem ggX1_forgetPriorities_X0_pairs : GoodIn wsX1_forgetPriorities wsX0_pairs := goodIn_r _ [6, 7, 8, 9, 10, 11, 12, 13, 14, 39, 40] (by decide +kernel) (by decide +kernel)
set_option maxRecDepth 20000 in
theorem gX1_forgetPriorities_X0_pairs_n110 : GoodIn wsX1_forgetPriorities (wsX0_pairs) := ggX1_forgetPriorities_X0_pairs
set_option maxRecDepth 20000 in
theorem ggX1_forgetPriorities_X0_clear : GoodIn wsX1_forgetPriorities wsX0_clear := goodIn_r _ [17, 18, 7, 39, 40] (by decide +kernel) (by decide +kernel)
set_option maxRecDepth 20000 in
theorem gX1_forgetPriorities_X0_clear_n114 : GoodIn wsX1_forgetPriorities (wsX0_clear) := ggX1_forgetPriorities_X0_clear
theorem dX1_forgetPriorities_0 : decode cX1_forgetPriorities 0 = .ok (.aload_n 0, 1) := by decide +kernel
theorem dX1_forgetPriorities_1 : decode cX1_forgetPriorities 1 = .ok (.getfield 28, 3) := by decide +kernel
theorem dX1_forgetPriorities_4 : decode cX1_forgetPriorities 4 = .ok (.invokevirtual 110, 3) := by decide +kernel
theorem dX1_forgetPriorities_7 : decode cX1_forgetPriorities 7 = .ok (.istore_n 1, 1) := by decide +kernel
theorem dX1_forgetPriorities_8 : decode cX1_forgetPriorities 8 = .ok (.aload_n 0, 1) := by decide +kernel
theorem dX1_forgetPriorities_9 : decode cX1_forgetPriorities 9 = .ok (.getfield 28, 3) := by decide +kernel
theorem dX1_forgetPriorities_12 : decode cX1_forgetPriorities 12 = .ok (.invokevirtual 114, 3) := by decide +kernel
theorem dX1_forgetPriorities_15 : decode cX1_forgetPriorities 15 = .ok (.aload_n 0, 1) := by decide +kernel
theorem dX1_forgetPriorities_16 : decode cX1_forgetPriorities 16 = .ok (.iconst 0, 1) := by decide +kernel
theorem dX1_forgetPriorities_17 : decode cX1_forgetPriorities 17 = .ok (.putfield 106, 3) := by decide +kernel
theorem dX1_forgetPriorities_20 : decode cX1_forgetPriorities 20 = .ok (.iload_n 1, 1) := by decide +kernel
theorem dX1_forgetPriorities_21 : decode cX1_forgetPriorities 21 = .ok (.ireturn, 1) := by decide +kernel
set_option maxRecDepth 20000 in
theorem ggX1_isBefore_X1_checkDefault : GoodIn wsX1_isBefore wsX1_checkDefault := goodIn_ca (goodIn_r _ [6, 7, 8, 9, 17, 18, 19, 20, 21, 22, 23, 24, 25, 26, 27, 28, 29, 30, 31, 32, 33, 34, 35, 36] (by decide +kernel) (by decide +kernel)) (goodIn_sub (fun _ h => List.mem_cons_of_mem _ (List.mem_append_right _ h)) (by decide +kernel))
set_option maxRecDepth 20000 in
theorem gX1_isBefore_X1_checkDefault : GoodIn wsX1_isBefore (wsV RX1 91 RX1 yX1_checkDefault wsX1_checkDefault) := goodIn_app (goodIn_of _ (by decide +kernel)) ggX1_isBefore_X1_checkDefault
set_option maxRecDepth 20000 in
theorem ggX1_isBefore_X0_comesBefore : GoodIn wsX1_isBefore wsX0_comesBefore := goodIn_r _ [13, 14, 15, 5, 16, 37, 38] (by decide +kernel) (by decide +kernel)
set_option maxRecDepth 20000 in
theorem gX1_isBefore_X0_comesBefore_n94 : GoodIn wsX1_isBefore (wsX0_comesBefore) := ggX1_isBefore_X0_comesBefore
theorem dX1_isBefore_0 : decode cX1_isBefore 0 = .ok (.aload_n 0, 1) := by decide +kernel
theorem dX1_isBefore_1 : decode cX1_isBefore 1 = .ok (.iload_n 1, 1) := by decide +kernel
theorem dX1_isBefore_2 : decode cX1_isBefore 2 = .ok (.invokevirtual 91, 3) := by decide +kernel
theorem dX1_isBefore_5 : decode cX1_isBefore 5 = .ok (.aload_n 0, 1) := by decide +kernel
theorem dX1_isBefore_6 : decode cX1_isBefore 6 = .ok (.iload_n 2, 1) := by decide +kernel
theorem dX1_isBefore_7 : decode cX1_isBefore 7 = .ok (.invokevirtual 91, 3) := by decide +kernel
theorem dX1_isBefore_10 : decode cX1_isBefore 10 = .ok (.aload_n 0, 1) := by decide +kernel
theorem dX1_isBefore_11 : decode cX1_isBefore 11 = .ok (.getfield 28, 3) := by decide +kernel
theorem dX1_isBefore_14 : decode cX1_isBefore 14 = .ok (.iload_n 1, 1) := by decide +kernel
theorem dX1_isBefore_15 : decode cX1_isBefore 15 = .ok (.iload_n 2, 1) := by decide +kernel
theorem dX1_isBefore_16 : decode cX1_isBefore 16 = .ok (.invokevirtual 94, 3) := by decide +kernel
theorem dX1_isBefore_19 : decode cX1_isBefore 19 = .ok (.ireturn, 1) := by decide +kernel
theorem dX1_facts_0 : decode cX1_facts 0 = .ok (.aload_n 0, 1) := by decide +kernel
theorem dX1_facts_1 : decode cX1_facts 1 = .ok (.getfield 55, 3) := by decide +kernel
theorem dX1_facts_4 : decode cX1_facts 4 = .ok (.ireturn, 1) := by decide +kernel
theorem dX1_defaultCount_0 : decode cX1_defaultCount 0 = .ok (.aload_n 0, 1) := by decide +kernel
theorem dX1_defaultCount_1 : decode cX1_defaultCount 1 = .ok (.getfield 79, 3) := by decide +kernel
theorem dX1_defaultCount_4 : decode cX1_defaultCount 4 = .ok (.ireturn, 1) := by decide +kernel
set_option maxRecDepth 20000 in
theorem ggX1_closure_X1_checkSet : GoodIn wsX1_closure wsX1_checkSet := goodIn_ca (goodIn_r _ [4, 5, 6, 7] (by decide +kernel) (by decide +kernel)) (goodIn_sub (fun _ h => List.mem_cons_of_mem _ (List.mem_append_right _ h)) (by decide +kernel))
set_option maxRecDepth 20000 in
theorem gX1_closure_X1_checkSet : GoodIn wsX1_closure (va_wsS RX1 66 yX1_checkSet wsX1_checkSet) := goodIn_app (goodIn_of _ (by decide +kernel)) ggX1_closure_X1_checkSet
set_option maxRecDepth 20000 in
theorem ggX1_closure_X1_closeUp : GoodIn wsX1_closure wsX1_closeUp := goodIn_r _ [11, 12, 13, 14, 7, 15, 16, 3, 17, 18, 19, 20, 21, 22, 23, 24, 25, 26, 27, 28, 29, 30, 31, 32, 33, 34, 35, 36, 37, 38, 39, 40] (by decide +kernel) (by decide +kernel)
set_option maxRecDepth 20000 in
theorem gX1_closure_X1_closeUp : GoodIn wsX1_closure (wsV RX1 117 RX1 yX1_closeUp wsX1_closeUp) := goodIn_app (goodIn_of _ (by decide +kernel)) ggX1_closure_X1_closeUp
theorem dX1_closure_0 : decode cX1_closure 0 = .ok (.iload_n 1, 1) := by decide +kernel
theorem dX1_closure_1 : decode cX1_closure 1 = .ok (.invokestatic 66, 3) := by decide +kernel
theorem dX1_closure_4 : decode cX1_closure 4 = .ok (.aload_n 0, 1) := by decide +kernel
theorem dX1_closure_5 : decode cX1_closure 5 = .ok (.iload_n 1, 1) := by decide +kernel
theorem dX1_closure_6 : decode cX1_closure 6 = .ok (.invokevirtual 117, 3) := by decide +kernel
theorem dX1_closure_9 : decode cX1_closure 9 = .ok (.ireturn, 1) := by decide +kernel
set_option maxRecDepth 20000 in
theorem ggX1_isOpen_X1_checkDefault : GoodIn wsX1_isOpen wsX1_checkDefault := goodIn_ca (goodIn_r _ [5, 6, 7, 8, 23, 24, 25, 26, 27, 28, 29, 30, 31, 32, 33, 34, 35, 36, 37, 38, 39, 40, 41, 42] (by decide +kernel) (by decide +kernel)) (goodIn_sub (fun _ h => List.mem_cons_of_mem _ (List.mem_append_left _ (List.mem_append_right _ h))) (by decide +kernel))
set_option maxRecDepth 20000 in
theorem gX1_isOpen_X1_checkDefault : GoodIn wsX1_isOpen (wsV RX1 91 RX1 yX1_checkDefault wsX1_checkDefault) := goodIn_app (goodIn_of _ (by decide +kernel)) ggX1_isOpen_X1_checkDefault
set_option maxRecDepth 20000 in
theorem ggX1_isOpen_X1_checkSet : GoodIn wsX1_isOpen wsX1_checkSet := goodIn_ca (goodIn_r _ [11, 12, 13, 14] (by decide +kernel) (by decide +kernel)) (goodIn_sub (fun _ h => List.mem_cons_of_mem _ (List.mem_append_right _ h)) (by decide +kernel))
set_option maxRecDepth 20000 in
theorem gX1_isOpen_X1_checkSet : GoodIn wsX1_isOpen (va_wsS RX1 66 yX1_checkSet wsX1_checkSet) := goodIn_app (goodIn_of _ (by decide +kernel)) ggX1_isOpen_X1_checkSet
set_option maxRecDepth 20000 in
theorem ggX1_isOpen_X1_opens : GoodIn wsX1_isOpen wsX1_opens := goodIn_r _ [18, 19, 20, 21, 4, 22, 23, 24, 25, 26, 27, 28, 29, 30, 31, 32, 33, 34, 35, 36, 37, 38, 39, 40, 41, 42] (by decide +kernel) (by decide +kernel)
set_option maxRecDepth 20000 in
theorem gX1_isOpen_X1_opens : GoodIn wsX1_isOpen (wsV RX1 121 RX1 yX1_opens wsX1_opens) := goodIn_app (goodIn_of _ (by decide +kernel)) ggX1_isOpen_X1_opens
theorem dX1_isOpen_0 : decode cX1_isOpen 0 = .ok (.aload_n 0, 1) := by decide +kernel
theorem dX1_isOpen_1 : decode cX1_isOpen 1 = .ok (.iload_n 1, 1) := by decide +kernel
theorem dX1_isOpen_2 : decode cX1_isOpen 2 = .ok (.invokevirtual 91, 3) := by decide +kernel
theorem dX1_isOpen_5 : decode cX1_isOpen 5 = .ok (.iload_n 2, 1) := by decide +kernel
theorem dX1_isOpen_6 : decode cX1_isOpen 6 = .ok (.invokestatic 66, 3) := by decide +kernel
theorem dX1_isOpen_9 : decode cX1_isOpen 9 = .ok (.aload_n 0, 1) := by decide +kernel
theorem dX1_isOpen_10 : decode cX1_isOpen 10 = .ok (.iload_n 1, 1) := by decide +kernel
theorem dX1_isOpen_11 : decode cX1_isOpen 11 = .ok (.iload_n 2, 1) := by decide +kernel
theorem dX1_isOpen_12 : decode cX1_isOpen 12 = .ok (.invokevirtual 121, 3) := by decide +kernel
theorem dX1_isOpen_15 : decode cX1_isOpen 15 = .ok (.ireturn, 1) := by decide +kernel
set_option maxRecDepth 20000 in
theorem ggX1_generatorsOf_X1_checkSet : GoodIn wsX1_generatorsOf wsX1_checkSet := goodIn_ca (goodIn_r _ [4, 5, 6, 7] (by decide +kernel) (by decide +kernel)) (goodIn_sub (fun _ h => List.mem_cons_of_mem _ (List.mem_append_right _ h)) (by decide +kernel))
set_option maxRecDepth 20000 in
theorem gX1_generatorsOf_X1_checkSet : GoodIn wsX1_generatorsOf (va_wsS RX1 66 yX1_checkSet wsX1_checkSet) := goodIn_app (goodIn_of _ (by decide +kernel)) ggX1_generatorsOf_X1_checkSet
set_option maxRecDepth 20000 in
theorem ggX1_generatorsOf_X1_findExtensions : GoodIn wsX1_generatorsOf wsX1_findExtensions := goodIn_r _ [11, 12, 13, 14, 15, 16, 17, 18, 19, 20, 3, 21, 22, 23, 24, 25, 26, 27, 28, 29, 30, 31, 32, 7, 33, 34, 35, 36, 37, 38, 39, 40, 41, 42, 43, 44, 45, 46, 47, 48, 49, 50, 51, 52, 53, 54, 55, 56, 57, 58, 59, 60, 61, 62, 63, 64, 65, 66, 67, 68, 69, 70, 71, 72, 73, 74, 75, 76, 77] (by decide +kernel) (by decide +kernel)
set_option maxRecDepth 20000 in
theorem gX1_generatorsOf_X1_findExtensions : GoodIn wsX1_generatorsOf (wsV RX1 124 RX1 yX1_findExtensions wsX1_findExtensions) := goodIn_app (goodIn_of _ (by decide +kernel)) ggX1_generatorsOf_X1_findExtensions
set_option maxRecDepth 20000 in
theorem ggX1_generatorsOf_X1_generatorsFor : GoodIn wsX1_generatorsOf wsX1_generatorsFor := goodIn_r _ [52, 13, 14, 43, 44, 45, 46, 3, 47, 48, 36, 37, 38, 33, 34, 35, 58, 59, 60, 61, 62, 63, 64, 65, 66, 67, 68, 69, 70, 71, 72, 73, 74, 75, 76, 77] (by decide +kernel) (by decide +kernel)
set_option maxRecDepth 20000 in
theorem gX1_generatorsOf_X1_generatorsFor : GoodIn wsX1_generatorsOf (wsV RX1 127 RX1 yX1_generatorsFor wsX1_generatorsFor) := goodIn_app (goodIn_of _ (by decide +kernel)) ggX1_generatorsOf_X1_generatorsFor
theorem dX1_generatorsOf_0 : decode cX1_generatorsOf 0 = .ok (.iload_n 1, 1) := by decide +kernel
theorem dX1_generatorsOf_1 : decode cX1_generatorsOf 1 = .ok (.invokestatic 66, 3) := by decide +kernel
theorem dX1_generatorsOf_4 : decode cX1_generatorsOf 4 = .ok (.aload_n 0, 1) := by decide +kernel
theorem dX1_generatorsOf_5 : decode cX1_generatorsOf 5 = .ok (.invokevirtual 124, 3) := by decide +kernel
theorem dX1_generatorsOf_8 : decode cX1_generatorsOf 8 = .ok (.aload_n 0, 1) := by decide +kernel
theorem dX1_generatorsOf_9 : decode cX1_generatorsOf 9 = .ok (.iload_n 1, 1) := by decide +kernel
theorem dX1_generatorsOf_10 : decode cX1_generatorsOf 10 = .ok (.invokevirtual 127, 3) := by decide +kernel
theorem dX1_generatorsOf_13 : decode cX1_generatorsOf 13 = .ok (.ireturn, 1) := by decide +kernel
set_option maxRecDepth 20000 in
theorem ggX1_isExtension_X1_checkSet : GoodIn wsX1_isExtension wsX1_checkSet := goodIn_ca (goodIn_r _ [5, 6, 7, 8] (by decide +kernel) (by decide +kernel)) (goodIn_sub (fun _ h => List.mem_cons_of_mem _ (List.mem_append_right _ h)) (by decide +kernel))
set_option maxRecDepth 20000 in
theorem gX1_isExtension_X1_checkSet : GoodIn wsX1_isExtension (va_wsS RX1 66 yX1_checkSet wsX1_checkSet) := goodIn_app (goodIn_of _ (by decide +kernel)) ggX1_isExtension_X1_checkSet
set_option maxRecDepth 20000 in
theorem ggX1_isExtension_X1_findExtensions : GoodIn wsX1_isExtension wsX1_findExtensions := goodIn_r _ [12, 13, 14, 1, 15, 16, 17, 18, 19, 20, 4, 21, 22, 23, 24, 25, 26, 27, 28, 29, 30, 31, 32, 8, 33, 34, 35, 36, 37, 38, 39, 40, 41, 42, 43, 44, 45, 46, 47, 48, 49, 50, 51, 52, 53, 54, 55, 56, 57, 58, 59, 60, 61, 62, 63, 64, 65, 66, 67, 68, 69, 70, 71, 72, 73, 74, 75, 76, 77] (by decide +kernel) (by decide +kernel)
set_option maxRecDepth 20000 in
theorem gX1_isExtension_X1_findExtensions : GoodIn wsX1_isExtension (wsV RX1 124 RX1 yX1_findExtensions wsX1_findExtensions) := goodIn_app (goodIn_of _ (by decide +kernel)) ggX1_isExtension_X1_findExtensions
set_option maxRecDepth 20000 in
theorem ggX1_isExtension_X1_generatorsFor : GoodIn wsX1_isExtension wsX1_generatorsFor := goodIn_r _ [52, 14, 1, 43, 44, 45, 46, 4, 47, 48, 36, 37, 38, 33, 34, 35, 58, 59, 60, 61, 62, 63, 64, 65, 66, 67, 68, 69, 70, 71, 72, 73, 74, 75, 76, 77] (by decide +kernel) (by decide +kernel)
set_option maxRecDepth 20000 in
theorem gX1_isExtension_X1_generatorsFor : GoodIn wsX1_isExtension (wsV RX1 127 RX1 yX1_generatorsFor wsX1_generatorsFor) := goodIn_app (goodIn_of _ (by decide +kernel)) ggX1_isExtension_X1_generatorsFor
theorem dX1_isExtension_0 : decode cX1_isExtension 0 = .ok (.iload_n 1, 1) := by decide +kernel
theorem dX1_isExtension_1 : decode cX1_isExtension 1 = .ok (.invokestatic 66, 3) := by decide +kernel
theorem dX1_isExtension_4 : decode cX1_isExtension 4 = .ok (.aload_n 0, 1) := by decide +kernel
theorem dX1_isExtension_5 : decode cX1_isExtension 5 = .ok (.invokevirtual 124, 3) := by decide +kernel
theorem dX1_isExtension_8 : decode cX1_isExtension 8 = .ok (.aload_n 0, 1) := by decide +kernel
theorem dX1_isExtension_9 : decode cX1_isExtension 9 = .ok (.getfield 38, 3) := by decide +kernel
theorem dX1_isExtension_12 : decode cX1_isExtension 12 = .ok (.aload_n 0, 1) := by decide +kernel
theorem dX1_isExtension_13 : decode cX1_isExtension 13 = .ok (.iload_n 1, 1) := by decide +kernel
theorem dX1_isExtension_14 : decode cX1_isExtension 14 = .ok (.invokevirtual 127, 3) := by decide +kernel
theorem dX1_isExtension_17 : decode cX1_isExtension 17 = .ok (.iaload, 1) := by decide +kernel
theorem dX1_isExtension_18 : decode cX1_isExtension 18 = .ok (.iload_n 1, 1) := by decide +kernel
theorem dX1_isExtension_19 : decode cX1_isExtension 19 = .ok (.if_icmp .ne 7, 3) := by decide +kernel
theorem dX1_isExtension_22 : decode cX1_isExtension 22 = .ok (.iconst 1, 1) := by decide +kernel
theorem dX1_isExtension_23 : decode cX1_isExtension 23 = .ok (.goto 4, 3) := by decide +kernel
theorem dX1_isExtension_26 : decode cX1_isExtension 26 = .ok (.iconst 0, 1) := by decide +kernel
theorem dX1_isExtension_27 : decode cX1_isExtension 27 = .ok (.ireturn, 1) := by decide +kernel
set_option maxRecDepth 20000 in
theorem ggX1_extensionCount_X1_findExtensions : GoodIn wsX1_extensionCount wsX1_findExtensions := goodIn_r _ [6, 7, 8, 9, 10, 11, 1, 12, 13, 14, 5, 15, 16, 17, 18, 19, 20, 21, 22, 23, 24, 25, 26, 27, 28, 29, 30, 31, 32, 33, 34, 35, 36, 37, 38, 39, 40, 41, 42, 43, 44, 45, 46, 47, 48, 49, 50, 51, 52, 53, 54, 55, 56, 57, 58, 59, 60, 61, 62, 63, 64, 65, 66, 67, 68, 69, 70, 71, 72] (by decide +kernel) (by decide +kernel)
set_option maxRecDepth 20000 in
theorem gX1_extensionCount_X1_findExtensions : GoodIn wsX1_extensionCount (wsV RX1 124 RX1 yX1_findExtensions wsX1_findExtensions) := goodIn_app (goodIn_of _ (by decide +kernel)) ggX1_extensionCount_X1_findExtensions
theorem dX1_extensionCount_0 : decode cX1_extensionCount 0 = .ok (.aload_n 0, 1) := by decide +kernel
theorem dX1_extensionCount_1 : decode cX1_extensionCount 1 = .ok (.invokevirtual 124, 3) := by decide +kernel
theorem dX1_extensionCount_4 : decode cX1_extensionCount 4 = .ok (.aload_n 0, 1) := by decide +kernel
theorem dX1_extensionCount_5 : decode cX1_extensionCount 5 = .ok (.getfield 130, 3) := by decide +kernel
theorem dX1_extensionCount_8 : decode cX1_extensionCount 8 = .ok (.ireturn, 1) := by decide +kernel
set_option maxRecDepth 20000 in
theorem ggX1_extension_X1_findExtensions : GoodIn wsX1_extension wsX1_findExtensions := goodIn_r _ [6, 7, 8, 9, 10, 11, 12, 13, 14, 15, 5, 16, 17, 18, 19, 20, 21, 22, 23, 24, 25, 26, 27, 28, 29, 30, 31, 32, 33, 34, 35, 36, 37, 38, 39, 40, 41, 42, 43, 44, 45, 46, 47, 48, 49, 50, 51, 52, 1, 59, 60, 61, 62, 63, 64, 65, 66, 67, 68, 69, 70, 71, 72, 73, 74, 75, 76, 77, 78] (by decide +kernel) (by decide +kernel)
set_option maxRecDepth 20000 in
theorem gX1_extension_X1_findExtensions : GoodIn wsX1_extension (wsV RX1 124 RX1 yX1_findExtensions wsX1_findExtensions) := goodIn_app (goodIn_of _ (by decide +kernel)) ggX1_extension_X1_findExtensions
set_option maxRecDepth 20000 in
theorem ggX1_extension_X1_checkExtension : GoodIn wsX1_extension wsX1_checkExtension := goodIn_ca (goodIn_r _ [56, 57, 58, 12, 59, 60, 61, 62, 63, 64, 65, 66, 67, 68, 69, 70, 71, 72, 73, 74, 75, 76, 77, 78] (by decide +kernel) (by decide +kernel)) (goodIn_sub (fun _ h => List.mem_cons_of_mem _ (List.mem_append_right _ h)) (by decide +kernel))
set_option maxRecDepth 20000 in
theorem gX1_extension_X1_checkExtension : GoodIn wsX1_extension (wsV RX1 133 RX1 yX1_checkExtension wsX1_checkExtension) := goodIn_app (goodIn_of _ (by decide +kernel)) ggX1_extension_X1_checkExtension
theorem dX1_extension_0 : decode cX1_extension 0 = .ok (.aload_n 0, 1) := by decide +kernel
theorem dX1_extension_1 : decode cX1_extension 1 = .ok (.invokevirtual 124, 3) := by decide +kernel
theorem dX1_extension_4 : decode cX1_extension 4 = .ok (.aload_n 0, 1) := by decide +kernel
theorem dX1_extension_5 : decode cX1_extension 5 = .ok (.iload_n 1, 1) := by decide +kernel
theorem dX1_extension_6 : decode cX1_extension 6 = .ok (.invokevirtual 133, 3) := by decide +kernel
theorem dX1_extension_9 : decode cX1_extension 9 = .ok (.aload_n 0, 1) := by decide +kernel
theorem dX1_extension_10 : decode cX1_extension 10 = .ok (.getfield 44, 3) := by decide +kernel
theorem dX1_extension_13 : decode cX1_extension 13 = .ok (.iload_n 1, 1) := by decide +kernel
theorem dX1_extension_14 : decode cX1_extension 14 = .ok (.iaload, 1) := by decide +kernel
theorem dX1_extension_15 : decode cX1_extension 15 = .ok (.ireturn, 1) := by decide +kernel
set_option maxRecDepth 20000 in
theorem ggX1_isPreferred_X1_findPreferred : GoodIn wsX1_isPreferred wsX1_findPreferred := goodIn_r _ [6, 7, 8, 1, 9, 10, 11, 12, 13, 14, 5, 15, 16, 17, 18, 19, 20, 21, 22, 23, 24, 25, 26, 27, 28, 29, 30, 31, 32, 33, 34, 35, 36, 37, 38, 39, 40, 41, 42, 43, 44, 45, 46, 47, 48, 49, 50, 51, 52, 53, 54, 55, 56, 57, 58, 59, 60, 61, 62, 63, 64, 65, 66, 67, 68, 69, 70, 71, 72, 73, 74, 75, 76, 77, 78, 79, 80, 81, 82, 83, 84, 85, 86, 87, 94, 95, 96, 97, 98, 99, 100, 101, 102, 103, 104, 105, 106, 107, 108, 109, 110, 111, 112, 113, 114, 115] (by decide +kernel) (by decide +kernel)
set_option maxRecDepth 20000 in
theorem gX1_isPreferred_X1_findPreferred : GoodIn wsX1_isPreferred (wsV RX1 136 RX1 yX1_findPreferred wsX1_findPreferred) := goodIn_app (goodIn_of _ (by decide +kernel)) ggX1_isPreferred_X1_findPreferred
set_option maxRecDepth 20000 in
theorem ggX1_isPreferred_X1_checkExtension : GoodIn wsX1_isPreferred wsX1_checkExtension := goodIn_ca (goodIn_r _ [91, 92, 93, 8, 94, 95, 96, 97, 98, 99, 100, 101, 102, 103, 104, 105, 106, 107, 108, 109, 110, 111, 112, 113] (by decide +kernel) (by decide +kernel)) (goodIn_sub (fun _ h => List.mem_cons_of_mem _ (List.mem_append_right _ h)) (by decide +kernel))
set_option maxRecDepth 20000 in
theorem gX1_isPreferred_X1_checkExtension : GoodIn wsX1_isPreferred (wsV RX1 133 RX1 yX1_checkExtension wsX1_checkExtension) := goodIn_app (goodIn_of _ (by decide +kernel)) ggX1_isPreferred_X1_checkExtension
theorem dX1_isPreferred_0 : decode cX1_isPreferred 0 = .ok (.aload_n 0, 1) := by decide +kernel
theorem dX1_isPreferred_1 : decode cX1_isPreferred 1 = .ok (.invokevirtual 136, 3) := by decide +kernel
theorem dX1_isPreferred_4 : decode cX1_isPreferred 4 = .ok (.aload_n 0, 1) := by decide +kernel
theorem dX1_isPreferred_5 : decode cX1_isPreferred 5 = .ok (.iload_n 1, 1) := by decide +kernel
theorem dX1_isPreferred_6 : decode cX1_isPreferred 6 = .ok (.invokevirtual 133, 3) := by decide +kernel
theorem dX1_isPreferred_9 : decode cX1_isPreferred 9 = .ok (.aload_n 0, 1) := by decide +kernel
theorem dX1_isPreferred_10 : decode cX1_isPreferred 10 = .ok (.getfield 47, 3) := by decide +kernel
theorem dX1_isPreferred_13 : decode cX1_isPreferred 13 = .ok (.iload_n 1, 1) := by decide +kernel
theorem dX1_isPreferred_14 : decode cX1_isPreferred 14 = .ok (.baload, 1) := by decide +kernel
theorem dX1_isPreferred_15 : decode cX1_isPreferred 15 = .ok (.ireturn, 1) := by decide +kernel
set_option maxRecDepth 20000 in
theorem ggX1_preferredCount_X1_findPreferred : GoodIn wsX1_preferredCount wsX1_findPreferred := goodIn_r _ [6, 7, 8, 9, 1, 10, 11, 12, 13, 14, 5, 15, 16, 17, 18, 19, 20, 21, 22, 23, 24, 25, 26, 27, 28, 29, 30, 31, 32, 33, 34, 35, 36, 37, 38, 39, 40, 41, 42, 43, 44, 45, 46, 47, 48, 49, 50, 51, 52, 53, 54, 55, 56, 57, 58, 59, 60, 61, 62, 63, 64, 65, 66, 67, 68, 69, 70, 71, 72, 73, 74, 75, 76, 77, 78, 79, 80, 81, 82, 83, 84, 85, 86, 87, 88, 89, 90, 91, 92, 93, 94, 95, 96, 97, 98, 99, 100, 101, 102, 103, 104, 105, 106, 107, 108, 109] (by decide +kernel) (by decide +kernel)
set_option maxRecDepth 20000 in
theorem gX1_preferredCount_X1_findPreferred : GoodIn wsX1_preferredCount (wsV RX1 136 RX1 yX1_findPreferred wsX1_findPreferred) := goodIn_app (goodIn_of _ (by decide +kernel)) ggX1_preferredCount_X1_findPreferred
theorem dX1_preferredCount_0 : decode cX1_preferredCount 0 = .ok (.aload_n 0, 1) := by decide +kernel
theorem dX1_preferredCount_1 : decode cX1_preferredCount 1 = .ok (.invokevirtual 136, 3) := by decide +kernel
theorem dX1_preferredCount_4 : decode cX1_preferredCount 4 = .ok (.aload_n 0, 1) := by decide +kernel
theorem dX1_preferredCount_5 : decode cX1_preferredCount 5 = .ok (.getfield 139, 3) := by decide +kernel
theorem dX1_preferredCount_8 : decode cX1_preferredCount 8 = .ok (.ireturn, 1) := by decide +kernel
set_option maxRecDepth 20000 in
theorem ggX1_supports_X1_checkLiteral : GoodIn wsX1_supports wsX1_checkLiteral := goodIn_ca (goodIn_r _ [6, 7, 8] (by decide +kernel) (by decide +kernel)) (goodIn_sub (fun _ h => List.mem_cons_of_mem _ (List.mem_append_right _ h)) (by decide +kernel))
set_option maxRecDepth 20000 in
theorem gX1_supports_X1_checkLiteral : GoodIn wsX1_supports (va_wsS RX1 51 yX1_checkLiteral wsX1_checkLiteral) := goodIn_app (goodIn_of _ (by decide +kernel)) ggX1_supports_X1_checkLiteral
set_option maxRecDepth 20000 in
theorem ggX1_supports_X1_findExtensions : GoodIn wsX1_supports wsX1_findExtensions := goodIn_r _ [12, 13, 14, 15, 16, 17, 1, 18, 19, 20, 5, 21, 22, 23, 24, 25, 26, 27, 28, 29, 30, 31, 32, 33, 34, 35, 36, 37, 38, 39, 40, 41, 42, 43, 44, 45, 46, 47, 48, 49, 50, 51, 52, 53, 54, 55, 56, 57, 2, 58, 59, 60, 61, 62, 63, 64, 65, 66, 67, 68, 69, 70, 71, 72, 73, 74, 75, 76, 77] (by decide +kernel) (by decide +kernel)
set_option maxRecDepth 20000 in
theorem gX1_supports_X1_findExtensions : GoodIn wsX1_supports (wsV RX1 124 RX1 yX1_findExtensions wsX1_findExtensions) := goodIn_app (goodIn_of _ (by decide +kernel)) ggX1_supports_X1_findExtensions
set_option maxRecDepth 20000 in
theorem ggX1_supports_X1_has : GoodIn wsX1_supports wsX1_has := goodIn_r _ [25] (by decide +kernel) (by decide +kernel)
set_option maxRecDepth 20000 in
theorem gX1_supports_X1_has : GoodIn wsX1_supports (va_wsS RX1 59 yX1_has wsX1_has) := goodIn_app (goodIn_of _ (by decide +kernel)) ggX1_supports_X1_has
theorem dX1_supports_0 : decode cX1_supports 0 = .ok (.iload_n 1, 1) := by decide +kernel
theorem dX1_supports_1 : decode cX1_supports 1 = .ok (.invokestatic 51, 3) := by decide +kernel
theorem dX1_supports_4 : decode cX1_supports 4 = .ok (.aload_n 0, 1) := by decide +kernel
theorem dX1_supports_5 : decode cX1_supports 5 = .ok (.invokevirtual 124, 3) := by decide +kernel
theorem dX1_supports_8 : decode cX1_supports 8 = .ok (.iconst 0, 1) := by decide +kernel
theorem dX1_supports_9 : decode cX1_supports 9 = .ok (.istore_n 2, 1) := by decide +kernel
theorem dX1_supports_10 : decode cX1_supports 10 = .ok (.iconst 0, 1) := by decide +kernel
theorem dX1_supports_11 : decode cX1_supports 11 = .ok (.istore_n 3, 1) := by decide +kernel
theorem dX1_supports_12 : decode cX1_supports 12 = .ok (.iload_n 3, 1) := by decide +kernel
theorem dX1_supports_13 : decode cX1_supports 13 = .ok (.aload_n 0, 1) := by decide +kernel
theorem dX1_supports_14 : decode cX1_supports 14 = .ok (.getfield 130, 3) := by decide +kernel
theorem dX1_supports_17 : decode cX1_supports 17 = .ok (.if_icmp .ge 25, 3) := by decide +kernel
theorem dX1_supports_20 : decode cX1_supports 20 = .ok (.aload_n 0, 1) := by decide +kernel
theorem dX1_supports_21 : decode cX1_supports 21 = .ok (.getfield 44, 3) := by decide +kernel
theorem dX1_supports_24 : decode cX1_supports 24 = .ok (.iload_n 3, 1) := by decide +kernel
theorem dX1_supports_25 : decode cX1_supports 25 = .ok (.iaload, 1) := by decide +kernel
theorem dX1_supports_26 : decode cX1_supports 26 = .ok (.iload_n 1, 1) := by decide +kernel
theorem dX1_supports_27 : decode cX1_supports 27 = .ok (.invokestatic 59, 3) := by decide +kernel
theorem dX1_supports_30 : decode cX1_supports 30 = .ok (.ifCond .eq 6, 3) := by decide +kernel
theorem dX1_supports_33 : decode cX1_supports 33 = .ok (.iinc 2 1, 3) := by decide +kernel
theorem dX1_supports_36 : decode cX1_supports 36 = .ok (.iinc 3 1, 3) := by decide +kernel
theorem dX1_supports_39 : decode cX1_supports 39 = .ok (.goto (-27), 3) := by decide +kernel
theorem dX1_supports_42 : decode cX1_supports 42 = .ok (.iload_n 2, 1) := by decide +kernel
theorem dX1_supports_43 : decode cX1_supports 43 = .ok (.ireturn, 1) := by decide +kernel
set_option maxRecDepth 20000 in
theorem ggX1_common_X1_findPreferred : GoodIn wsX1_common wsX1_findPreferred := goodIn_r _ [9, 10, 2, 3, 11, 12, 13, 14, 15, 16, 8, 17, 18, 19, 20, 21, 22, 23, 24, 25, 26, 27, 28, 29, 30, 31, 32, 33, 34, 35, 36, 1, 37, 38, 39, 40, 41, 42, 43, 44, 45, 46, 47, 48, 49, 50, 51, 52, 53, 54, 55, 56, 57, 58, 59, 60, 4, 61, 62, 63, 64, 65, 66, 67, 68, 69, 70, 71, 72, 73, 74, 75, 76, 77, 78, 79, 80, 81, 82, 83, 84, 85, 86, 87, 88, 89, 90, 91, 92, 93, 94, 95, 96, 97, 98, 99, 100, 101, 102, 103, 104, 105, 106, 107, 108, 109] (by decide +kernel) (by decide +kernel)
set_option maxRecDepth 20000 in
theorem gX1_common_X1_findPreferred : GoodIn wsX1_common (wsV RX1 136 RX1 yX1_findPreferred wsX1_findPreferred) := goodIn_app (goodIn_of _ (by decide +kernel)) ggX1_common_X1_findPreferred
theorem dX1_common_0 : decode cX1_common 0 = .ok (.aload_n 0, 1) := by decide +kernel
theorem dX1_common_1 : decode cX1_common 1 = .ok (.invokevirtual 136, 3) := by decide +kernel
theorem dX1_common_4 : decode cX1_common 4 = .ok (.ldc 142, 2) := by decide +kernel
theorem dX1_common_6 : decode cX1_common 6 = .ok (.istore_n 2, 1) := by decide +kernel
theorem dX1_common_7 : decode cX1_common 7 = .ok (.iconst 0, 1) := by decide +kernel
theorem dX1_common_8 : decode cX1_common 8 = .ok (.istore_n 3, 1) := by decide +kernel
theorem dX1_common_9 : decode cX1_common 9 = .ok (.iload_n 3, 1) := by decide +kernel
theorem dX1_common_10 : decode cX1_common 10 = .ok (.aload_n 0, 1) := by decide +kernel
theorem dX1_common_11 : decode cX1_common 11 = .ok (.getfield 130, 3) := by decide +kernel
theorem dX1_common_14 : decode cX1_common 14 = .ok (.if_icmp .ge 31, 3) := by decide +kernel
theorem dX1_common_17 : decode cX1_common 17 = .ok (.aload_n 0, 1) := by decide +kernel
theorem dX1_common_18 : decode cX1_common 18 = .ok (.getfield 47, 3) := by decide +kernel
theorem dX1_common_21 : decode cX1_common 21 = .ok (.iload_n 3, 1) := by decide +kernel
theorem dX1_common_22 : decode cX1_common 22 = .ok (.baload, 1) := by decide +kernel
theorem dX1_common_23 : decode cX1_common 23 = .ok (.ifCond .ne 7, 3) := by decide +kernel
theorem dX1_common_26 : decode cX1_common 26 = .ok (.iload_n 1, 1) := by decide +kernel
theorem dX1_common_27 : decode cX1_common 27 = .ok (.ifCond .ne 12, 3) := by decide +kernel
theorem dX1_common_30 : decode cX1_common 30 = .ok (.iload_n 2, 1) := by decide +kernel
theorem dX1_common_31 : decode cX1_common 31 = .ok (.aload_n 0, 1) := by decide +kernel
theorem dX1_common_32 : decode cX1_common 32 = .ok (.getfield 44, 3) := by decide +kernel
theorem dX1_common_35 : decode cX1_common 35 = .ok (.iload_n 3, 1) := by decide +kernel
theorem dX1_common_36 : decode cX1_common 36 = .ok (.iaload, 1) := by decide +kernel
theorem dX1_common_37 : decode cX1_common 37 = .ok (.iand, 1) := by decide +kernel
theorem dX1_common_38 : decode cX1_common 38 = .ok (.istore_n 2, 1) := by decide +kernel
theorem dX1_common_39 : decode cX1_common 39 = .ok (.iinc 3 1, 3) := by decide +kernel
theorem dX1_common_42 : decode cX1_common 42 = .ok (.goto (-33), 3) := by decide +kernel
theorem dX1_common_45 : decode cX1_common 45 = .ok (.iload_n 2, 1) := by decide +kernel
theorem dX1_common_46 : decode cX1_common 46 = .ok (.ireturn, 1) := by decide +kernel
set_option maxRecDepth 20000 in
theorem ggX1_share_X1_checkLiteral : GoodIn wsX1_share wsX1_checkLiteral := goodIn_ca (goodIn_r _ [8, 9, 10] (by decide +kernel) (by decide +kernel)) (goodIn_sub (fun _ h => List.mem_cons_of_mem _ (List.mem_append_right _ h)) (by decide +kernel))
set_option maxRecDepth 20000 in
theorem gX1_share_X1_checkLiteral : GoodIn wsX1_share (va_wsS RX1 51 yX1_checkLiteral wsX1_checkLiteral) := goodIn_app (goodIn_of _ (by decide +kernel)) ggX1_share_X1_checkLiteral
set_option maxRecDepth 20000 in
theorem ggX1_share_X1_findPreferred : GoodIn wsX1_share wsX1_findPreferred := goodIn_r _ [14, 15, 2, 3, 1, 16, 17, 18, 19, 20, 7, 21, 22, 23, 24, 25, 26, 27, 28, 29, 30, 31, 32, 33, 34, 35, 36, 37, 38, 39, 40, 41, 42, 43, 44, 45, 46, 47, 48, 49, 50, 51, 52, 53, 54, 55, 56, 57, 58, 59, 60, 61, 62, 63, 64, 65, 4, 66, 67, 68, 69, 70, 71, 72, 73, 74, 75, 76, 77, 78, 79, 80, 81, 82, 83, 84, 85, 86, 87, 88, 89, 90, 91, 92, 93, 94, 95, 96, 97, 98, 99, 100, 101, 102, 103, 104, 105, 106, 107, 108, 109, 110, 111, 112, 113, 114] (by decide +kernel) (by decide +kernel)
set_option maxRecDepth 20000 in
theorem gX1_share_X1_findPreferred : GoodIn wsX1_share (wsV RX1 136 RX1 yX1_findPreferred wsX1_findPreferred) := goodIn_app (goodIn_of _ (by decide +kernel)) ggX1_share_X1_findPreferred
set_option maxRecDepth 20000 in
theorem ggX1_share_X1_has : GoodIn wsX1_share wsX1_has := goodIn_r _ [33] (by decide +kernel) (by decide +kernel)
set_option maxRecDepth 20000 in
theorem gX1_share_X1_has : GoodIn wsX1_share (va_wsS RX1 59 yX1_has wsX1_has) := goodIn_app (goodIn_of _ (by decide +kernel)) ggX1_share_X1_has
theorem dX1_share_0 : decode cX1_share 0 = .ok (.iload_n 1, 1) := by decide +kernel
theorem dX1_share_1 : decode cX1_share 1 = .ok (.invokestatic 51, 3) := by decide +kernel
theorem dX1_share_4 : decode cX1_share 4 = .ok (.aload_n 0, 1) := by decide +kernel
theorem dX1_share_5 : decode cX1_share 5 = .ok (.invokevirtual 136, 3) := by decide +kernel
theorem dX1_share_8 : decode cX1_share 8 = .ok (.aload_n 0, 1) := by decide +kernel
theorem dX1_share_9 : decode cX1_share 9 = .ok (.getfield 139, 3) := by decide +kernel
theorem dX1_share_12 : decode cX1_share 12 = .ok (.ifCond .ne 5, 3) := by decide +kernel
theorem dX1_share_15 : decode cX1_share 15 = .ok (.dconst 0, 1) := by decide +kernel
theorem dX1_share_16 : decode cX1_share 16 = .ok (.dreturn, 1) := by decide +kernel
theorem dX1_share_17 : decode cX1_share 17 = .ok (.iconst 0, 1) := by decide +kernel
theorem dX1_share_18 : decode cX1_share 18 = .ok (.istore_n 2, 1) := by decide +kernel
theorem dX1_share_19 : decode cX1_share 19 = .ok (.iconst 0, 1) := by decide +kernel
theorem dX1_share_20 : decode cX1_share 20 = .ok (.istore_n 3, 1) := by decide +kernel
theorem dX1_share_21 : decode cX1_share 21 = .ok (.iload_n 3, 1) := by decide +kernel
theorem dX1_share_22 : decode cX1_share 22 = .ok (.aload_n 0, 1) := by decide +kernel
theorem dX1_share_23 : decode cX1_share 23 = .ok (.getfield 130, 3) := by decide +kernel
theorem dX1_share_26 : decode cX1_share 26 = .ok (.if_icmp .ge 34, 3) := by decide +kernel
theorem dX1_share_29 : decode cX1_share 29 = .ok (.aload_n 0, 1) := by decide +kernel
theorem dX1_share_30 : decode cX1_share 30 = .ok (.getfield 47, 3) := by decide +kernel
theorem dX1_share_33 : decode cX1_share 33 = .ok (.iload_n 3, 1) := by decide +kernel
theorem dX1_share_34 : decode cX1_share 34 = .ok (.baload, 1) := by decide +kernel
theorem dX1_share_35 : decode cX1_share 35 = .ok (.ifCond .eq 19, 3) := by decide +kernel
theorem dX1_share_38 : decode cX1_share 38 = .ok (.aload_n 0, 1) := by decide +kernel
theorem dX1_share_39 : decode cX1_share 39 = .ok (.getfield 44, 3) := by decide +kernel
theorem dX1_share_42 : decode cX1_share 42 = .ok (.iload_n 3, 1) := by decide +kernel
theorem dX1_share_43 : decode cX1_share 43 = .ok (.iaload, 1) := by decide +kernel
theorem dX1_share_44 : decode cX1_share 44 = .ok (.iload_n 1, 1) := by decide +kernel
theorem dX1_share_45 : decode cX1_share 45 = .ok (.invokestatic 59, 3) := by decide +kernel
theorem dX1_share_48 : decode cX1_share 48 = .ok (.ifCond .eq 6, 3) := by decide +kernel
theorem dX1_share_51 : decode cX1_share 51 = .ok (.iinc 2 1, 3) := by decide +kernel
theorem dX1_share_54 : decode cX1_share 54 = .ok (.iinc 3 1, 3) := by decide +kernel
theorem dX1_share_57 : decode cX1_share 57 = .ok (.goto (-36), 3) := by decide +kernel
theorem dX1_share_60 : decode cX1_share 60 = .ok (.iload_n 2, 1) := by decide +kernel
theorem dX1_share_61 : decode cX1_share 61 = .ok (.i2d, 1) := by decide +kernel
theorem dX1_share_62 : decode cX1_share 62 = .ok (.aload_n 0, 1) := by decide +kernel
theorem dX1_share_63 : decode cX1_share 63 = .ok (.getfield 139, 3) := by decide +kernel
theorem dX1_share_66 : decode cX1_share 66 = .ok (.i2d, 1) := by decide +kernel
theorem dX1_share_67 : decode cX1_share 67 = .ok (.ddiv, 1) := by decide +kernel
theorem dX1_share_68 : decode cX1_share 68 = .ok (.dreturn, 1) := by decide +kernel
set_option maxRecDepth 20000 in
theorem ggX1_walk_X1_checkOrder : GoodIn wsX1_walk wsX1_checkOrder := goodIn_ca (goodIn_r _ [9, 10, 11, 12, 2, 71, 72, 73, 74, 75, 76, 77, 78, 79, 80, 81, 82, 83, 84, 85, 86, 87, 88, 89, 90] (by decide +kernel) (by decide +kernel)) (goodIn_sub (fun _ h => List.mem_cons_of_mem _ (List.mem_append_right _ h)) (by decide +kernel))
set_option maxRecDepth 20000 in
theorem gX1_walk_X1_checkOrder : GoodIn wsX1_walk (wsV RX1 143 RX1 yX1_checkOrder wsX1_checkOrder) := goodIn_app (goodIn_of _ (by decide +kernel)) ggX1_walk_X1_checkOrder
set_option maxRecDepth 20000 in
theorem ggX1_walk_X1_findExtensions : GoodIn wsX1_walk wsX1_findExtensions := goodIn_r _ [16, 17, 2, 4, 18, 19, 20, 21, 22, 23, 8, 24, 25, 26, 27, 28, 29, 30, 31, 32, 33, 34, 35, 36, 37, 38, 39, 40, 41, 42, 43, 44, 45, 46, 47, 48, 49, 50, 51, 52, 53, 54, 55, 56, 57, 58, 59, 60, 61, 71, 72, 73, 74, 75, 76, 77, 78, 79, 80, 81, 82, 83, 84, 85, 86, 87, 88, 89, 90] (by decide +kernel) (by decide +kernel)
set_option maxRecDepth 20000 in
theorem gX1_walk_X1_findExtensions : GoodIn wsX1_walk (wsV RX1 124 RX1 yX1_findExtensions wsX1_findExtensions) := goodIn_app (goodIn_of _ (by decide +kernel)) ggX1_walk_X1_findExtensions
set_option maxRecDepth 20000 in
theorem ggX1_walk_X1_layOut : GoodIn wsX1_walk wsX1_layOut := goodIn_r _ [65, 2, 12, 66, 26, 27, 8, 28, 71, 72, 73, 74, 75, 76, 77, 78, 79, 80, 81, 82, 83, 84, 85, 86, 87, 88, 89, 90] (by decide +kernel) (by decide +kernel)
set_option maxRecDepth 20000 in
theorem gX1_walk_X1_layOut : GoodIn wsX1_walk (wsV RX1 146 RX1 yX1_layOut wsX1_layOut) := goodIn_app (goodIn_of _ (by decide +kernel)) ggX1_walk_X1_layOut
set_option maxRecDepth 20000 in
theorem ggX1_walk_X1_firstUsable : GoodIn wsX1_walk wsX1_firstUsable := goodIn_r _ [70, 2, 19, 66, 26, 27, 8, 28, 71, 72, 73, 74, 75, 76, 77, 78, 79, 80, 81, 82, 83, 84, 85, 86, 87, 88, 89, 90] (by decide +kernel) (by decide +kernel)
set_option maxRecDepth 20000 in
theorem gX1_walk_X1_firstUsable : GoodIn wsX1_walk (wsV RX1 152 RX1 yX1_firstUsable wsX1_firstUsable) := goodIn_app (goodIn_of _ (by decide +kernel)) ggX1_walk_X1_firstUsable
theorem dX1_walk_0 : decode cX1_walk 0 = .ok (.aload_n 0, 1) := by decide +kernel
theorem dX1_walk_1 : decode cX1_walk 1 = .ok (.iload_n 1, 1) := by decide +kernel
theorem dX1_walk_2 : decode cX1_walk 2 = .ok (.invokevirtual 143, 3) := by decide +kernel
theorem dX1_walk_5 : decode cX1_walk 5 = .ok (.aload_n 0, 1) := by decide +kernel
theorem dX1_walk_6 : decode cX1_walk 6 = .ok (.invokevirtual 124, 3) := by decide +kernel
theorem dX1_walk_9 : decode cX1_walk 9 = .ok (.aload_n 0, 1) := by decide +kernel
theorem dX1_walk_10 : decode cX1_walk 10 = .ok (.iload_n 1, 1) := by decide +kernel
theorem dX1_walk_11 : decode cX1_walk 11 = .ok (.invokevirtual 146, 3) := by decide +kernel
theorem dX1_walk_14 : decode cX1_walk 14 = .ok (.iconst 0, 1) := by decide +kernel
theorem dX1_walk_15 : decode cX1_walk 15 = .ok (.istore_n 2, 1) := by decide +kernel
theorem dX1_walk_16 : decode cX1_walk 16 = .ok (.aload_n 0, 1) := by decide +kernel
theorem dX1_walk_17 : decode cX1_walk 17 = .ok (.iconst 0, 1) := by decide +kernel
theorem dX1_walk_18 : decode cX1_walk 18 = .ok (.putfield 149, 3) := by decide +kernel
theorem dX1_walk_21 : decode cX1_walk 21 = .ok (.iconst 0, 1) := by decide +kernel
theorem dX1_walk_22 : decode cX1_walk 22 = .ok (.istore_n 3, 1) := by decide +kernel
theorem dX1_walk_23 : decode cX1_walk 23 = .ok (.iload_n 3, 1) := by decide +kernel
theorem dX1_walk_24 : decode cX1_walk 24 = .ok (.aload_n 0, 1) := by decide +kernel
theorem dX1_walk_25 : decode cX1_walk 25 = .ok (.getfield 79, 3) := by decide +kernel
theorem dX1_walk_28 : decode cX1_walk 28 = .ok (.if_icmp .ge 47, 3) := by decide +kernel
theorem dX1_walk_31 : decode cX1_walk 31 = .ok (.aload_n 0, 1) := by decide +kernel
theorem dX1_walk_32 : decode cX1_walk 32 = .ok (.iload_n 2, 1) := by decide +kernel
theorem dX1_walk_33 : decode cX1_walk 33 = .ok (.invokevirtual 152, 3) := by decide +kernel
theorem dX1_walk_36 : decode cX1_walk 36 = .ok (.istore 4, 2) := by decide +kernel
theorem dX1_walk_38 : decode cX1_walk 38 = .ok (.iload 4, 2) := by decide +kernel
theorem dX1_walk_40 : decode cX1_walk 40 = .ok (.iconst (-1), 1) := by decide +kernel
theorem dX1_walk_41 : decode cX1_walk 41 = .ok (.if_icmp .ne 6, 3) := by decide +kernel
theorem dX1_walk_44 : decode cX1_walk 44 = .ok (.goto 31, 3) := by decide +kernel
theorem dX1_walk_47 : decode cX1_walk 47 = .ok (.aload_n 0, 1) := by decide +kernel
theorem dX1_walk_48 : decode cX1_walk 48 = .ok (.getfield 32, 3) := by decide +kernel
theorem dX1_walk_51 : decode cX1_walk 51 = .ok (.iload_n 3, 1) := by decide +kernel
theorem dX1_walk_52 : decode cX1_walk 52 = .ok (.iload 4, 2) := by decide +kernel
theorem dX1_walk_54 : decode cX1_walk 54 = .ok (.iastore, 1) := by decide +kernel
theorem dX1_walk_55 : decode cX1_walk 55 = .ok (.aload_n 0, 1) := by decide +kernel
theorem dX1_walk_56 : decode cX1_walk 56 = .ok (.iload_n 3, 1) := by decide +kernel
theorem dX1_walk_57 : decode cX1_walk 57 = .ok (.iconst 1, 1) := by decide +kernel
theorem dX1_walk_58 : decode cX1_walk 58 = .ok (.iadd, 1) := by decide +kernel
theorem dX1_walk_59 : decode cX1_walk 59 = .ok (.putfield 149, 3) := by decide +kernel
theorem dX1_walk_62 : decode cX1_walk 62 = .ok (.iload_n 2, 1) := by decide +kernel
theorem dX1_walk_63 : decode cX1_walk 63 = .ok (.iconst 1, 1) := by decide +kernel
theorem dX1_walk_64 : decode cX1_walk 64 = .ok (.iload 4, 2) := by decide +kernel
theorem dX1_walk_66 : decode cX1_walk 66 = .ok (.ishl, 1) := by decide +kernel
theorem dX1_walk_67 : decode cX1_walk 67 = .ok (.ior, 1) := by decide +kernel
theorem dX1_walk_68 : decode cX1_walk 68 = .ok (.istore_n 2, 1) := by decide +kernel
theorem dX1_walk_69 : decode cX1_walk 69 = .ok (.iinc 3 1, 3) := by decide +kernel
theorem dX1_walk_72 : decode cX1_walk 72 = .ok (.goto (-49), 3) := by decide +kernel
theorem dX1_walk_75 : decode cX1_walk 75 = .ok (.aload_n 0, 1) := by decide +kernel
theorem dX1_walk_76 : decode cX1_walk 76 = .ok (.getfield 38, 3) := by decide +kernel
theorem dX1_walk_79 : decode cX1_walk 79 = .ok (.iload_n 2, 1) := by decide +kernel
theorem dX1_walk_80 : decode cX1_walk 80 = .ok (.iaload, 1) := by decide +kernel
theorem dX1_walk_81 : decode cX1_walk 81 = .ok (.ireturn, 1) := by decide +kernel
theorem dX1_appliedCount_0 : decode cX1_appliedCount 0 = .ok (.aload_n 0, 1) := by decide +kernel
theorem dX1_appliedCount_1 : decode cX1_appliedCount 1 = .ok (.getfield 149, 3) := by decide +kernel
theorem dX1_appliedCount_4 : decode cX1_appliedCount 4 = .ok (.ireturn, 1) := by decide +kernel
theorem dX1_applied_0 : decode cX1_applied 0 = .ok (.iload_n 1, 1) := by decide +kernel
theorem dX1_applied_1 : decode cX1_applied 1 = .ok (.ifCond .lt 11, 3) := by decide +kernel
theorem dX1_applied_4 : decode cX1_applied 4 = .ok (.iload_n 1, 1) := by decide +kernel
theorem dX1_applied_5 : decode cX1_applied 5 = .ok (.aload_n 0, 1) := by decide +kernel
theorem dX1_applied_6 : decode cX1_applied 6 = .ok (.getfield 149, 3) := by decide +kernel
theorem dX1_applied_9 : decode cX1_applied 9 = .ok (.if_icmp .lt 13, 3) := by decide +kernel
theorem dX1_applied_12 : decode cX1_applied 12 = .ok (.new 155, 3) := by decide +kernel
theorem dX1_applied_15 : decode cX1_applied 15 = .ok (.dup, 1) := by decide +kernel
theorem dX1_applied_16 : decode cX1_applied 16 = .ok (.ldc 157, 2) := by decide +kernel
theorem dX1_applied_18 : decode cX1_applied 18 = .ok (.invokespecial 159, 3) := by decide +kernel
theorem dX1_applied_21 : decode cX1_applied 21 = .ok (.athrow, 1) := by decide +kernel
theorem dX1_applied_22 : decode cX1_applied 22 = .ok (.aload_n 0, 1) := by decide +kernel
theorem dX1_applied_23 : decode cX1_applied 23 = .ok (.getfield 32, 3) := by decide +kernel
theorem dX1_applied_26 : decode cX1_applied 26 = .ok (.iload_n 1, 1) := by decide +kernel
theorem dX1_applied_27 : decode cX1_applied 27 = .ok (.iaload, 1) := by decide +kernel
theorem dX1_applied_28 : decode cX1_applied 28 = .ok (.ireturn, 1) := by decide +kernel
set_option maxRecDepth 20000 in
theorem ggX1_respects_X1_checkOrder : GoodIn wsX1_respects wsX1_checkOrder := goodIn_ca (goodIn_r _ [5, 6, 7, 8, 9, 28, 29, 30, 31, 32, 33, 34, 35, 36, 37, 38, 39, 40, 41, 42, 43, 44, 45, 46, 47] (by decide +kernel) (by decide +kernel)) (goodIn_sub (fun _ h => List.mem_cons_of_mem _ (List.mem_append_right _ h)) (by decide +kernel))
set_option maxRecDepth 20000 in
theorem gX1_respects_X1_checkOrder : GoodIn wsX1_respects (wsV RX1 143 RX1 yX1_checkOrder wsX1_checkOrder) := goodIn_app (goodIn_of _ (by decide +kernel)) ggX1_respects_X1_checkOrder
set_option maxRecDepth 20000 in
theorem ggX1_respects_X1_layOut : GoodIn wsX1_respects wsX1_layOut := goodIn_r _ [13, 9, 8, 14, 15, 16, 4, 17, 28, 29, 30, 31, 32, 33, 34, 35, 36, 37, 38, 39, 40, 41, 42, 43, 44, 45, 46, 47] (by decide +kernel) (by decide +kernel)
set_option maxRecDepth 20000 in
theorem gX1_respects_X1_layOut : GoodIn wsX1_respects (wsV RX1 146 RX1 yX1_layOut wsX1_layOut) := goodIn_app (goodIn_of _ (by decide +kernel)) ggX1_respects_X1_layOut
set_option maxRecDepth 20000 in
theorem ggX1_respects_X1_keepsPriorities : GoodIn wsX1_respects wsX1_keepsPriorities := goodIn_r _ [21, 9, 14, 22, 23, 24, 25, 26, 27, 28, 29, 30, 31, 32, 33, 34, 35, 36, 37, 38, 39, 40, 41, 42, 43, 44, 45, 46, 47, 48, 49] (by decide +kernel) (by decide +kernel)
set_option maxRecDepth 20000 in
theorem gX1_respects_X1_keepsPriorities : GoodIn wsX1_respects (wsV RX1 160 RX1 yX1_keepsPriorities wsX1_keepsPriorities) := goodIn_app (goodIn_of _ (by decide +kernel)) ggX1_respects_X1_keepsPriorities
theorem dX1_respects_0 : decode cX1_respects 0 = .ok (.aload_n 0, 1) := by decide +kernel
theorem dX1_respects_1 : decode cX1_respects 1 = .ok (.iload_n 1, 1) := by decide +kernel
theorem dX1_respects_2 : decode cX1_respects 2 = .ok (.invokevirtual 143, 3) := by decide +kernel
theorem dX1_respects_5 : decode cX1_respects 5 = .ok (.aload_n 0, 1) := by decide +kernel
theorem dX1_respects_6 : decode cX1_respects 6 = .ok (.iload_n 1, 1) := by decide +kernel
theorem dX1_respects_7 : decode cX1_respects 7 = .ok (.invokevirtual 146, 3) := by decide +kernel
theorem dX1_respects_10 : decode cX1_respects 10 = .ok (.aload_n 0, 1) := by decide +kernel
theorem dX1_respects_11 : decode cX1_respects 11 = .ok (.invokevirtual 160, 3) := by decide +kernel
theorem dX1_respects_14 : decode cX1_respects 14 = .ok (.ireturn, 1) := by decide +kernel
set_option maxRecDepth 20000 in
theorem ggX1_digest_X1_mix : GoodIn wsX1_digest wsX1_mix := goodIn_r _ [16, 17] (by decide +kernel) (by decide +kernel)
set_option maxRecDepth 20000 in
theorem gX1_digest_X1_mix : GoodIn wsX1_digest (va_wsS RX1 166 yX1_mix wsX1_mix) := goodIn_app (goodIn_of _ (by decide +kernel)) ggX1_digest_X1_mix
set_option maxRecDepth 20000 in
theorem ggX1_digest_X0_comesBefore : GoodIn wsX1_digest wsX0_comesBefore := goodIn_r _ [21, 22, 23, 15, 24, 45, 46] (by decide +kernel) (by decide +kernel)
set_option maxRecDepth 20000 in
theorem gX1_digest_X0_comesBefore_n94 : GoodIn wsX1_digest (wsX0_comesBefore) := ggX1_digest_X0_comesBefore
theorem dX1_digest_0 : decode cX1_digest 0 = .ok (.ldc2_w 164, 3) := by decide +kernel
theorem dX1_digest_3 : decode cX1_digest 3 = .ok (.aload_n 0, 1) := by decide +kernel
theorem dX1_digest_4 : decode cX1_digest 4 = .ok (.getfield 55, 3) := by decide +kernel
theorem dX1_digest_7 : decode cX1_digest 7 = .ok (.i2l, 1) := by decide +kernel
theorem dX1_digest_8 : decode cX1_digest 8 = .ok (.invokestatic 166, 3) := by decide +kernel
theorem dX1_digest_11 : decode cX1_digest 11 = .ok (.lstore_n 1, 1) := by decide +kernel
theorem dX1_digest_12 : decode cX1_digest 12 = .ok (.lload_n 1, 1) := by decide +kernel
end
section
theorem dX1_digest_13 : decode cX1_digest 13 = .ok (.aload_n 0, 1) := by decide +kernel
theorem dX1_digest_14 : decode cX1_digest 14 = .ok (.getfield 69, 3) := by decide +kernel
theorem dX1_digest_17 : decode cX1_digest 17 = .ok (.i2l, 1) := by decide +kernel
theorem dX1_digest_18 : decode cX1_digest 18 = .ok (.invokestatic 166, 3) := by decide +kernel
theorem dX1_digest_21 : decode cX1_digest 21 = .ok (.lstore_n 1, 1) := by decide +kernel
theorem dX1_digest_22 : decode cX1_digest 22 = .ok (.iconst 0, 1) := by decide +kernel
theorem dX1_digest_23 : decode cX1_digest 23 = .ok (.istore_n 3, 1) := by decide +kernel
theorem dX1_digest_24 : decode cX1_digest 24 = .ok (.iload_n 3, 1) := by decide +kernel
theorem dX1_digest_25 : decode cX1_digest 25 = .ok (.aload_n 0, 1) := by decide +kernel
theorem dX1_digest_26 : decode cX1_digest 26 = .ok (.getfield 69, 3) := by decide +kernel
theorem dX1_digest_29 : decode cX1_digest 29 = .ok (.if_icmp .ge 31, 3) := by decide +kernel
theorem dX1_digest_32 : decode cX1_digest 32 = .ok (.lload_n 1, 1) := by decide +kernel
theorem dX1_digest_33 : decode cX1_digest 33 = .ok (.aload_n 0, 1) := by decide +kernel
theorem dX1_digest_34 : decode cX1_digest 34 = .ok (.getfield 9, 3) := by decide +kernel
theorem dX1_digest_37 : decode cX1_digest 37 = .ok (.iload_n 3, 1) := by decide +kernel
theorem dX1_digest_38 : decode cX1_digest 38 = .ok (.iaload, 1) := by decide +kernel
theorem dX1_digest_39 : decode cX1_digest 39 = .ok (.i2l, 1) := by decide +kernel
theorem dX1_digest_40 : decode cX1_digest 40 = .ok (.invokestatic 166, 3) := by decide +kernel
theorem dX1_digest_43 : decode cX1_digest 43 = .ok (.aload_n 0, 1) := by decide +kernel
theorem dX1_digest_44 : decode cX1_digest 44 = .ok (.getfield 13, 3) := by decide +kernel
theorem dX1_digest_47 : decode cX1_digest 47 = .ok (.iload_n 3, 1) := by decide +kernel
theorem dX1_digest_48 : decode cX1_digest 48 = .ok (.iaload, 1) := by decide +kernel
theorem dX1_digest_49 : decode cX1_digest 49 = .ok (.i2l, 1) := by decide +kernel
theorem dX1_digest_50 : decode cX1_digest 50 = .ok (.invokestatic 166, 3) := by decide +kernel
theorem dX1_digest_53 : decode cX1_digest 53 = .ok (.lstore_n 1, 1) := by decide +kernel
theorem dX1_digest_54 : decode cX1_digest 54 = .ok (.iinc 3 1, 3) := by decide +kernel
theorem dX1_digest_57 : decode cX1_digest 57 = .ok (.goto (-33), 3) := by decide +kernel
theorem dX1_digest_60 : decode cX1_digest 60 = .ok (.lload_n 1, 1) := by decide +kernel
theorem dX1_digest_61 : decode cX1_digest 61 = .ok (.aload_n 0, 1) := by decide +kernel
theorem dX1_digest_62 : decode cX1_digest 62 = .ok (.getfield 79, 3) := by decide +kernel
theorem dX1_digest_65 : decode cX1_digest 65 = .ok (.i2l, 1) := by decide +kernel
theorem dX1_digest_66 : decode cX1_digest 66 = .ok (.invokestatic 166, 3) := by decide +kernel
theorem dX1_digest_69 : decode cX1_digest 69 = .ok (.lstore_n 1, 1) := by decide +kernel
theorem dX1_digest_70 : decode cX1_digest 70 = .ok (.iconst 0, 1) := by decide +kernel
theorem dX1_digest_71 : decode cX1_digest 71 = .ok (.istore_n 3, 1) := by decide +kernel
theorem dX1_digest_72 : decode cX1_digest 72 = .ok (.iload_n 3, 1) := by decide +kernel
theorem dX1_digest_73 : decode cX1_digest 73 = .ok (.aload_n 0, 1) := by decide +kernel
theorem dX1_digest_74 : decode cX1_digest 74 = .ok (.getfield 79, 3) := by decide +kernel
theorem dX1_digest_77 : decode cX1_digest 77 = .ok (.if_icmp .ge 41, 3) := by decide +kernel
theorem dX1_digest_80 : decode cX1_digest 80 = .ok (.lload_n 1, 1) := by decide +kernel
theorem dX1_digest_81 : decode cX1_digest 81 = .ok (.aload_n 0, 1) := by decide +kernel
theorem dX1_digest_82 : decode cX1_digest 82 = .ok (.getfield 16, 3) := by decide +kernel
theorem dX1_digest_85 : decode cX1_digest 85 = .ok (.iload_n 3, 1) := by decide +kernel
theorem dX1_digest_86 : decode cX1_digest 86 = .ok (.iaload, 1) := by decide +kernel
theorem dX1_digest_87 : decode cX1_digest 87 = .ok (.i2l, 1) := by decide +kernel
theorem dX1_digest_88 : decode cX1_digest 88 = .ok (.invokestatic 166, 3) := by decide +kernel
theorem dX1_digest_91 : decode cX1_digest 91 = .ok (.aload_n 0, 1) := by decide +kernel
theorem dX1_digest_92 : decode cX1_digest 92 = .ok (.getfield 19, 3) := by decide +kernel
theorem dX1_digest_95 : decode cX1_digest 95 = .ok (.iload_n 3, 1) := by decide +kernel
theorem dX1_digest_96 : decode cX1_digest 96 = .ok (.iaload, 1) := by decide +kernel
theorem dX1_digest_97 : decode cX1_digest 97 = .ok (.i2l, 1) := by decide +kernel
theorem dX1_digest_98 : decode cX1_digest 98 = .ok (.invokestatic 166, 3) := by decide +kernel
theorem dX1_digest_101 : decode cX1_digest 101 = .ok (.aload_n 0, 1) := by decide +kernel
theorem dX1_digest_102 : decode cX1_digest 102 = .ok (.getfield 22, 3) := by decide +kernel
theorem dX1_digest_105 : decode cX1_digest 105 = .ok (.iload_n 3, 1) := by decide +kernel
theorem dX1_digest_106 : decode cX1_digest 106 = .ok (.iaload, 1) := by decide +kernel
theorem dX1_digest_107 : decode cX1_digest 107 = .ok (.i2l, 1) := by decide +kernel
theorem dX1_digest_108 : decode cX1_digest 108 = .ok (.invokestatic 166, 3) := by decide +kernel
theorem dX1_digest_111 : decode cX1_digest 111 = .ok (.lstore_n 1, 1) := by decide +kernel
theorem dX1_digest_112 : decode cX1_digest 112 = .ok (.iinc 3 1, 3) := by decide +kernel
theorem dX1_digest_115 : decode cX1_digest 115 = .ok (.goto (-43), 3) := by decide +kernel
theorem dX1_digest_118 : decode cX1_digest 118 = .ok (.iconst 0, 1) := by decide +kernel
theorem dX1_digest_119 : decode cX1_digest 119 = .ok (.istore_n 3, 1) := by decide +kernel
theorem dX1_digest_120 : decode cX1_digest 120 = .ok (.iload_n 3, 1) := by decide +kernel
theorem dX1_digest_121 : decode cX1_digest 121 = .ok (.aload_n 0, 1) := by decide +kernel
theorem dX1_digest_122 : decode cX1_digest 122 = .ok (.getfield 79, 3) := by decide +kernel
theorem dX1_digest_125 : decode cX1_digest 125 = .ok (.if_icmp .ge 50, 3) := by decide +kernel
theorem dX1_digest_128 : decode cX1_digest 128 = .ok (.iconst 0, 1) := by decide +kernel
theorem dX1_digest_129 : decode cX1_digest 129 = .ok (.istore 4, 2) := by decide +kernel
theorem dX1_digest_131 : decode cX1_digest 131 = .ok (.iload 4, 2) := by decide +kernel
theorem dX1_digest_133 : decode cX1_digest 133 = .ok (.aload_n 0, 1) := by decide +kernel
theorem dX1_digest_134 : decode cX1_digest 134 = .ok (.getfield 79, 3) := by decide +kernel
theorem dX1_digest_137 : decode cX1_digest 137 = .ok (.if_icmp .ge 32, 3) := by decide +kernel
theorem dX1_digest_140 : decode cX1_digest 140 = .ok (.lload_n 1, 1) := by decide +kernel
theorem dX1_digest_141 : decode cX1_digest 141 = .ok (.aload_n 0, 1) := by decide +kernel
theorem dX1_digest_142 : decode cX1_digest 142 = .ok (.getfield 28, 3) := by decide +kernel
theorem dX1_digest_145 : decode cX1_digest 145 = .ok (.iload_n 3, 1) := by decide +kernel
theorem dX1_digest_146 : decode cX1_digest 146 = .ok (.iload 4, 2) := by decide +kernel
theorem dX1_digest_148 : decode cX1_digest 148 = .ok (.invokevirtual 94, 3) := by decide +kernel
theorem dX1_digest_151 : decode cX1_digest 151 = .ok (.ifCond .eq 7, 3) := by decide +kernel
theorem dX1_digest_154 : decode cX1_digest 154 = .ok (.lconst 1, 1) := by decide +kernel
theorem dX1_digest_155 : decode cX1_digest 155 = .ok (.goto 4, 3) := by decide +kernel
theorem dX1_digest_158 : decode cX1_digest 158 = .ok (.lconst 0, 1) := by decide +kernel
theorem dX1_digest_159 : decode cX1_digest 159 = .ok (.invokestatic 166, 3) := by decide +kernel
theorem dX1_digest_162 : decode cX1_digest 162 = .ok (.lstore_n 1, 1) := by decide +kernel
theorem dX1_digest_163 : decode cX1_digest 163 = .ok (.iinc 4 1, 3) := by decide +kernel
theorem dX1_digest_166 : decode cX1_digest 166 = .ok (.goto (-35), 3) := by decide +kernel
theorem dX1_digest_169 : decode cX1_digest 169 = .ok (.iinc 3 1, 3) := by decide +kernel
theorem dX1_digest_172 : decode cX1_digest 172 = .ok (.goto (-52), 3) := by decide +kernel
theorem dX1_digest_175 : decode cX1_digest 175 = .ok (.lload_n 1, 1) := by decide +kernel
theorem dX1_digest_176 : decode cX1_digest 176 = .ok (.aload_n 0, 1) := by decide +kernel
theorem dX1_digest_177 : decode cX1_digest 177 = .ok (.getfield 149, 3) := by decide +kernel
theorem dX1_digest_180 : decode cX1_digest 180 = .ok (.i2l, 1) := by decide +kernel
theorem dX1_digest_181 : decode cX1_digest 181 = .ok (.invokestatic 166, 3) := by decide +kernel
theorem dX1_digest_184 : decode cX1_digest 184 = .ok (.lstore_n 1, 1) := by decide +kernel
theorem dX1_digest_185 : decode cX1_digest 185 = .ok (.iconst 0, 1) := by decide +kernel
theorem dX1_digest_186 : decode cX1_digest 186 = .ok (.istore_n 3, 1) := by decide +kernel
theorem dX1_digest_187 : decode cX1_digest 187 = .ok (.iload_n 3, 1) := by decide +kernel
theorem dX1_digest_188 : decode cX1_digest 188 = .ok (.aload_n 0, 1) := by decide +kernel
theorem dX1_digest_189 : decode cX1_digest 189 = .ok (.getfield 149, 3) := by decide +kernel
theorem dX1_digest_192 : decode cX1_digest 192 = .ok (.if_icmp .ge 21, 3) := by decide +kernel
theorem dX1_digest_195 : decode cX1_digest 195 = .ok (.lload_n 1, 1) := by decide +kernel
theorem dX1_digest_196 : decode cX1_digest 196 = .ok (.aload_n 0, 1) := by decide +kernel
theorem dX1_digest_197 : decode cX1_digest 197 = .ok (.getfield 32, 3) := by decide +kernel
theorem dX1_digest_200 : decode cX1_digest 200 = .ok (.iload_n 3, 1) := by decide +kernel
theorem dX1_digest_201 : decode cX1_digest 201 = .ok (.iaload, 1) := by decide +kernel
theorem dX1_digest_202 : decode cX1_digest 202 = .ok (.i2l, 1) := by decide +kernel
theorem dX1_digest_203 : decode cX1_digest 203 = .ok (.invokestatic 166, 3) := by decide +kernel
theorem dX1_digest_206 : decode cX1_digest 206 = .ok (.lstore_n 1, 1) := by decide +kernel
theorem dX1_digest_207 : decode cX1_digest 207 = .ok (.iinc 3 1, 3) := by decide +kernel
theorem dX1_digest_210 : decode cX1_digest 210 = .ok (.goto (-23), 3) := by decide +kernel
theorem dX1_digest_213 : decode cX1_digest 213 = .ok (.lload_n 1, 1) := by decide +kernel
theorem dX1_digest_214 : decode cX1_digest 214 = .ok (.lreturn, 1) := by decide +kernel
theorem dX1_checkLiteral_0 : decode cX1_checkLiteral 0 = .ok (.iload_n 0, 1) := by decide +kernel
theorem dX1_checkLiteral_1 : decode cX1_checkLiteral 1 = .ok (.ifCond .lt 9, 3) := by decide +kernel
theorem dX1_checkLiteral_4 : decode cX1_checkLiteral 4 = .ok (.iload_n 0, 1) := by decide +kernel
theorem dX1_checkLiteral_5 : decode cX1_checkLiteral 5 = .ok (.bipush 16, 2) := by decide +kernel
theorem dX1_checkLiteral_7 : decode cX1_checkLiteral 7 = .ok (.if_icmp .lt 13, 3) := by decide +kernel
theorem dX1_checkLiteral_10 : decode cX1_checkLiteral 10 = .ok (.new 155, 3) := by decide +kernel
theorem dX1_checkLiteral_13 : decode cX1_checkLiteral 13 = .ok (.dup, 1) := by decide +kernel
theorem dX1_checkLiteral_14 : decode cX1_checkLiteral 14 = .ok (.ldc 170, 2) := by decide +kernel
theorem dX1_checkLiteral_16 : decode cX1_checkLiteral 16 = .ok (.invokespecial 159, 3) := by decide +kernel
theorem dX1_checkLiteral_19 : decode cX1_checkLiteral 19 = .ok (.athrow, 1) := by decide +kernel
theorem dX1_checkLiteral_20 : decode cX1_checkLiteral 20 = .ok (.return_, 1) := by decide +kernel
theorem dX1_checkSet_0 : decode cX1_checkSet 0 = .ok (.iload_n 0, 1) := by decide +kernel
theorem dX1_checkSet_1 : decode cX1_checkSet 1 = .ok (.ifCond .lt 9, 3) := by decide +kernel
theorem dX1_checkSet_4 : decode cX1_checkSet 4 = .ok (.iload_n 0, 1) := by decide +kernel
theorem dX1_checkSet_5 : decode cX1_checkSet 5 = .ok (.ldc 142, 2) := by decide +kernel
theorem dX1_checkSet_7 : decode cX1_checkSet 7 = .ok (.if_icmp .le 13, 3) := by decide +kernel
theorem dX1_checkSet_10 : decode cX1_checkSet 10 = .ok (.new 97, 3) := by decide +kernel
theorem dX1_checkSet_13 : decode cX1_checkSet 13 = .ok (.dup, 1) := by decide +kernel
theorem dX1_checkSet_14 : decode cX1_checkSet 14 = .ok (.ldc 172, 2) := by decide +kernel
theorem dX1_checkSet_16 : decode cX1_checkSet 16 = .ok (.invokespecial 101, 3) := by decide +kernel
theorem dX1_checkSet_19 : decode cX1_checkSet 19 = .ok (.athrow, 1) := by decide +kernel
theorem dX1_checkSet_20 : decode cX1_checkSet 20 = .ok (.return_, 1) := by decide +kernel
theorem dX1_checkDefault_0 : decode cX1_checkDefault 0 = .ok (.iload_n 1, 1) := by decide +kernel
theorem dX1_checkDefault_1 : decode cX1_checkDefault 1 = .ok (.ifCond .lt 11, 3) := by decide +kernel
theorem dX1_checkDefault_4 : decode cX1_checkDefault 4 = .ok (.iload_n 1, 1) := by decide +kernel
theorem dX1_checkDefault_5 : decode cX1_checkDefault 5 = .ok (.aload_n 0, 1) := by decide +kernel
theorem dX1_checkDefault_6 : decode cX1_checkDefault 6 = .ok (.getfield 79, 3) := by decide +kernel
theorem dX1_checkDefault_9 : decode cX1_checkDefault 9 = .ok (.if_icmp .lt 13, 3) := by decide +kernel
theorem dX1_checkDefault_12 : decode cX1_checkDefault 12 = .ok (.new 155, 3) := by decide +kernel
theorem dX1_checkDefault_15 : decode cX1_checkDefault 15 = .ok (.dup, 1) := by decide +kernel
theorem dX1_checkDefault_16 : decode cX1_checkDefault 16 = .ok (.ldc 174, 2) := by decide +kernel
theorem dX1_checkDefault_18 : decode cX1_checkDefault 18 = .ok (.invokespecial 159, 3) := by decide +kernel
theorem dX1_checkDefault_21 : decode cX1_checkDefault 21 = .ok (.athrow, 1) := by decide +kernel
theorem dX1_checkDefault_22 : decode cX1_checkDefault 22 = .ok (.return_, 1) := by decide +kernel
theorem dX1_checkExtension_0 : decode cX1_checkExtension 0 = .ok (.iload_n 1, 1) := by decide +kernel
theorem dX1_checkExtension_1 : decode cX1_checkExtension 1 = .ok (.ifCond .lt 11, 3) := by decide +kernel
theorem dX1_checkExtension_4 : decode cX1_checkExtension 4 = .ok (.iload_n 1, 1) := by decide +kernel
theorem dX1_checkExtension_5 : decode cX1_checkExtension 5 = .ok (.aload_n 0, 1) := by decide +kernel
theorem dX1_checkExtension_6 : decode cX1_checkExtension 6 = .ok (.getfield 130, 3) := by decide +kernel
theorem dX1_checkExtension_9 : decode cX1_checkExtension 9 = .ok (.if_icmp .lt 13, 3) := by decide +kernel
theorem dX1_checkExtension_12 : decode cX1_checkExtension 12 = .ok (.new 155, 3) := by decide +kernel
theorem dX1_checkExtension_15 : decode cX1_checkExtension 15 = .ok (.dup, 1) := by decide +kernel
theorem dX1_checkExtension_16 : decode cX1_checkExtension 16 = .ok (.ldc 176, 2) := by decide +kernel
theorem dX1_checkExtension_18 : decode cX1_checkExtension 18 = .ok (.invokespecial 159, 3) := by decide +kernel
theorem dX1_checkExtension_21 : decode cX1_checkExtension 21 = .ok (.athrow, 1) := by decide +kernel
theorem dX1_checkExtension_22 : decode cX1_checkExtension 22 = .ok (.return_, 1) := by decide +kernel
theorem dX1_checkOrder_0 : decode cX1_checkOrder 0 = .ok (.iload_n 1, 1) := by decide +kernel
theorem dX1_checkOrder_1 : decode cX1_checkOrder 1 = .ok (.ifCond .lt 15, 3) := by decide +kernel
theorem dX1_checkOrder_4 : decode cX1_checkOrder 4 = .ok (.iload_n 1, 1) := by decide +kernel
theorem dX1_checkOrder_5 : decode cX1_checkOrder 5 = .ok (.getstatic 178, 3) := by decide +kernel
theorem dX1_checkOrder_8 : decode cX1_checkOrder 8 = .ok (.aload_n 0, 1) := by decide +kernel
theorem dX1_checkOrder_9 : decode cX1_checkOrder 9 = .ok (.getfield 79, 3) := by decide +kernel
theorem dX1_checkOrder_12 : decode cX1_checkOrder 12 = .ok (.iaload, 1) := by decide +kernel
theorem dX1_checkOrder_13 : decode cX1_checkOrder 13 = .ok (.if_icmp .lt 13, 3) := by decide +kernel
theorem dX1_checkOrder_16 : decode cX1_checkOrder 16 = .ok (.new 97, 3) := by decide +kernel
theorem dX1_checkOrder_19 : decode cX1_checkOrder 19 = .ok (.dup, 1) := by decide +kernel
theorem dX1_checkOrder_20 : decode cX1_checkOrder 20 = .ok (.ldc 181, 2) := by decide +kernel
theorem dX1_checkOrder_22 : decode cX1_checkOrder 22 = .ok (.invokespecial 101, 3) := by decide +kernel
theorem dX1_checkOrder_25 : decode cX1_checkOrder 25 = .ok (.athrow, 1) := by decide +kernel
theorem dX1_checkOrder_26 : decode cX1_checkOrder 26 = .ok (.return_, 1) := by decide +kernel
theorem dX1_has_0 : decode cX1_has 0 = .ok (.iload_n 0, 1) := by decide +kernel
theorem dX1_has_1 : decode cX1_has 1 = .ok (.iload_n 1, 1) := by decide +kernel
theorem dX1_has_2 : decode cX1_has 2 = .ok (.iushr, 1) := by decide +kernel
theorem dX1_has_3 : decode cX1_has 3 = .ok (.iconst 1, 1) := by decide +kernel
theorem dX1_has_4 : decode cX1_has 4 = .ok (.iand, 1) := by decide +kernel
theorem dX1_has_5 : decode cX1_has 5 = .ok (.ifCond .eq 7, 3) := by decide +kernel
theorem dX1_has_8 : decode cX1_has 8 = .ok (.iconst 1, 1) := by decide +kernel
theorem dX1_has_9 : decode cX1_has 9 = .ok (.goto 4, 3) := by decide +kernel
theorem dX1_has_12 : decode cX1_has 12 = .ok (.iconst 0, 1) := by decide +kernel
theorem dX1_has_13 : decode cX1_has 13 = .ok (.ireturn, 1) := by decide +kernel
theorem dX1_contains_0 : decode cX1_contains 0 = .ok (.iload_n 1, 1) := by decide +kernel
theorem dX1_contains_1 : decode cX1_contains 1 = .ok (.iload_n 0, 1) := by decide +kernel
theorem dX1_contains_2 : decode cX1_contains 2 = .ok (.iconst (-1), 1) := by decide +kernel
theorem dX1_contains_3 : decode cX1_contains 3 = .ok (.ixor, 1) := by decide +kernel
theorem dX1_contains_4 : decode cX1_contains 4 = .ok (.iand, 1) := by decide +kernel
theorem dX1_contains_5 : decode cX1_contains 5 = .ok (.ifCond .ne 7, 3) := by decide +kernel
theorem dX1_contains_8 : decode cX1_contains 8 = .ok (.iconst 1, 1) := by decide +kernel
theorem dX1_contains_9 : decode cX1_contains 9 = .ok (.goto 4, 3) := by decide +kernel
theorem dX1_contains_12 : decode cX1_contains 12 = .ok (.iconst 0, 1) := by decide +kernel
theorem dX1_contains_13 : decode cX1_contains 13 = .ok (.ireturn, 1) := by decide +kernel
theorem dX1_complements_0 : decode cX1_complements 0 = .ok (.iload_n 0, 1) := by decide +kernel
theorem dX1_complements_1 : decode cX1_complements 1 = .ok (.sipush 255, 3) := by decide +kernel
theorem dX1_complements_4 : decode cX1_complements 4 = .ok (.iand, 1) := by decide +kernel
theorem dX1_complements_5 : decode cX1_complements 5 = .ok (.bipush 8, 2) := by decide +kernel
theorem dX1_complements_7 : decode cX1_complements 7 = .ok (.ishl, 1) := by decide +kernel
theorem dX1_complements_8 : decode cX1_complements 8 = .ok (.iload_n 0, 1) := by decide +kernel
theorem dX1_complements_9 : decode cX1_complements 9 = .ok (.bipush 8, 2) := by decide +kernel
theorem dX1_complements_11 : decode cX1_complements 11 = .ok (.iushr, 1) := by decide +kernel
theorem dX1_complements_12 : decode cX1_complements 12 = .ok (.sipush 255, 3) := by decide +kernel
theorem dX1_complements_15 : decode cX1_complements 15 = .ok (.iand, 1) := by decide +kernel
theorem dX1_complements_16 : decode cX1_complements 16 = .ok (.ior, 1) := by decide +kernel
theorem dX1_complements_17 : decode cX1_complements 17 = .ok (.ireturn, 1) := by decide +kernel
theorem dX1_mix_0 : decode cX1_mix 0 = .ok (.lload_n 0, 1) := by decide +kernel
theorem dX1_mix_1 : decode cX1_mix 1 = .ok (.ldc2_w 183, 3) := by decide +kernel
theorem dX1_mix_4 : decode cX1_mix 4 = .ok (.lmul, 1) := by decide +kernel
theorem dX1_mix_5 : decode cX1_mix 5 = .ok (.lload_n 2, 1) := by decide +kernel
theorem dX1_mix_6 : decode cX1_mix 6 = .ok (.ladd, 1) := by decide +kernel
theorem dX1_mix_7 : decode cX1_mix 7 = .ok (.lreturn, 1) := by decide +kernel
set_option maxRecDepth 20000 in
theorem ggX1_closeUp_X1_contains : GoodIn wsX1_closeUp wsX1_contains := goodIn_r _ [8] (by decide +kernel) (by decide +kernel)
set_option maxRecDepth 20000 in
theorem gX1_closeUp_X1_contains : GoodIn wsX1_closeUp (va_wsS RX1 185 yX1_contains wsX1_contains) := goodIn_app (goodIn_of _ (by decide +kernel)) ggX1_closeUp_X1_contains
set_option maxRecDepth 20000 in
theorem ggX1_closeUp_X1_complements : GoodIn wsX1_closeUp wsX1_complements := goodIn_r _ [11] (by decide +kernel) (by decide +kernel)
set_option maxRecDepth 20000 in
theorem gX1_closeUp_X1_complements : GoodIn wsX1_closeUp (va_wsS RX1 188 yX1_complements wsX1_complements) := goodIn_app (goodIn_of _ (by decide +kernel)) ggX1_closeUp_X1_complements
theorem dX1_closeUp_0 : decode cX1_closeUp 0 = .ok (.iload_n 1, 1) := by decide +kernel
theorem dX1_closeUp_1 : decode cX1_closeUp 1 = .ok (.istore_n 2, 1) := by decide +kernel
theorem dX1_closeUp_2 : decode cX1_closeUp 2 = .ok (.iconst 0, 1) := by decide +kernel
theorem dX1_closeUp_3 : decode cX1_closeUp 3 = .ok (.istore_n 3, 1) := by decide +kernel
theorem dX1_closeUp_4 : decode cX1_closeUp 4 = .ok (.iload_n 3, 1) := by decide +kernel
theorem dX1_closeUp_5 : decode cX1_closeUp 5 = .ok (.bipush 16, 2) := by decide +kernel
theorem dX1_closeUp_7 : decode cX1_closeUp 7 = .ok (.if_icmp .gt 65, 3) := by decide +kernel
theorem dX1_closeUp_10 : decode cX1_closeUp 10 = .ok (.iload_n 2, 1) := by decide +kernel
theorem dX1_closeUp_11 : decode cX1_closeUp 11 = .ok (.istore 4, 2) := by decide +kernel
theorem dX1_closeUp_13 : decode cX1_closeUp 13 = .ok (.iconst 0, 1) := by decide +kernel
theorem dX1_closeUp_14 : decode cX1_closeUp 14 = .ok (.istore 5, 2) := by decide +kernel
theorem dX1_closeUp_16 : decode cX1_closeUp 16 = .ok (.iload 5, 2) := by decide +kernel
theorem dX1_closeUp_18 : decode cX1_closeUp 18 = .ok (.aload_n 0, 1) := by decide +kernel
theorem dX1_closeUp_19 : decode cX1_closeUp 19 = .ok (.getfield 69, 3) := by decide +kernel
theorem dX1_closeUp_22 : decode cX1_closeUp 22 = .ok (.if_icmp .ge 35, 3) := by decide +kernel
theorem dX1_closeUp_25 : decode cX1_closeUp 25 = .ok (.iload_n 2, 1) := by decide +kernel
theorem dX1_closeUp_26 : decode cX1_closeUp 26 = .ok (.aload_n 0, 1) := by decide +kernel
theorem dX1_closeUp_27 : decode cX1_closeUp 27 = .ok (.getfield 9, 3) := by decide +kernel
theorem dX1_closeUp_30 : decode cX1_closeUp 30 = .ok (.iload 5, 2) := by decide +kernel
theorem dX1_closeUp_32 : decode cX1_closeUp 32 = .ok (.iaload, 1) := by decide +kernel
theorem dX1_closeUp_33 : decode cX1_closeUp 33 = .ok (.invokestatic 185, 3) := by decide +kernel
theorem dX1_closeUp_36 : decode cX1_closeUp 36 = .ok (.ifCond .eq 15, 3) := by decide +kernel
theorem dX1_closeUp_39 : decode cX1_closeUp 39 = .ok (.iload_n 2, 1) := by decide +kernel
theorem dX1_closeUp_40 : decode cX1_closeUp 40 = .ok (.iconst 1, 1) := by decide +kernel
theorem dX1_closeUp_41 : decode cX1_closeUp 41 = .ok (.aload_n 0, 1) := by decide +kernel
theorem dX1_closeUp_42 : decode cX1_closeUp 42 = .ok (.getfield 13, 3) := by decide +kernel
theorem dX1_closeUp_45 : decode cX1_closeUp 45 = .ok (.iload 5, 2) := by decide +kernel
theorem dX1_closeUp_47 : decode cX1_closeUp 47 = .ok (.iaload, 1) := by decide +kernel
theorem dX1_closeUp_48 : decode cX1_closeUp 48 = .ok (.ishl, 1) := by decide +kernel
theorem dX1_closeUp_49 : decode cX1_closeUp 49 = .ok (.ior, 1) := by decide +kernel
theorem dX1_closeUp_50 : decode cX1_closeUp 50 = .ok (.istore_n 2, 1) := by decide +kernel
theorem dX1_closeUp_51 : decode cX1_closeUp 51 = .ok (.iinc 5 1, 3) := by decide +kernel
theorem dX1_closeUp_54 : decode cX1_closeUp 54 = .ok (.goto (-38), 3) := by decide +kernel
theorem dX1_closeUp_57 : decode cX1_closeUp 57 = .ok (.iload_n 2, 1) := by decide +kernel
theorem dX1_closeUp_58 : decode cX1_closeUp 58 = .ok (.iload 4, 2) := by decide +kernel
theorem dX1_closeUp_60 : decode cX1_closeUp 60 = .ok (.if_icmp .ne 6, 3) := by decide +kernel
theorem dX1_closeUp_63 : decode cX1_closeUp 63 = .ok (.goto 9, 3) := by decide +kernel
theorem dX1_closeUp_66 : decode cX1_closeUp 66 = .ok (.iinc 3 1, 3) := by decide +kernel
theorem dX1_closeUp_69 : decode cX1_closeUp 69 = .ok (.goto (-65), 3) := by decide +kernel
theorem dX1_closeUp_72 : decode cX1_closeUp 72 = .ok (.iload_n 2, 1) := by decide +kernel
theorem dX1_closeUp_73 : decode cX1_closeUp 73 = .ok (.iload_n 2, 1) := by decide +kernel
theorem dX1_closeUp_74 : decode cX1_closeUp 74 = .ok (.invokestatic 188, 3) := by decide +kernel
theorem dX1_closeUp_77 : decode cX1_closeUp 77 = .ok (.iand, 1) := by decide +kernel
theorem dX1_closeUp_78 : decode cX1_closeUp 78 = .ok (.ifCond .eq 8, 3) := by decide +kernel
theorem dX1_closeUp_81 : decode cX1_closeUp 81 = .ok (.ldc 142, 2) := by decide +kernel
theorem dX1_closeUp_83 : decode cX1_closeUp 83 = .ok (.goto 4, 3) := by decide +kernel
theorem dX1_closeUp_86 : decode cX1_closeUp 86 = .ok (.iload_n 2, 1) := by decide +kernel
theorem dX1_closeUp_87 : decode cX1_closeUp 87 = .ok (.ireturn, 1) := by decide +kernel
set_option maxRecDepth 20000 in
theorem ggX1_opens_X1_complements : GoodIn wsX1_opens wsX1_complements := goodIn_r _ [5] (by decide +kernel) (by decide +kernel)
set_option maxRecDepth 20000 in
theorem gX1_opens_X1_complements : GoodIn wsX1_opens (va_wsS RX1 188 yX1_complements wsX1_complements) := goodIn_app (goodIn_of _ (by decide +kernel)) ggX1_opens_X1_complements
theorem dX1_opens_0 : decode cX1_opens 0 = .ok (.aload_n 0, 1) := by decide +kernel
theorem dX1_opens_1 : decode cX1_opens 1 = .ok (.getfield 19, 3) := by decide +kernel
theorem dX1_opens_4 : decode cX1_opens 4 = .ok (.iload_n 1, 1) := by decide +kernel
theorem dX1_opens_5 : decode cX1_opens 5 = .ok (.iaload, 1) := by decide +kernel
theorem dX1_opens_6 : decode cX1_opens 6 = .ok (.invokestatic 188, 3) := by decide +kernel
theorem dX1_opens_9 : decode cX1_opens 9 = .ok (.iload_n 2, 1) := by decide +kernel
theorem dX1_opens_10 : decode cX1_opens 10 = .ok (.iand, 1) := by decide +kernel
theorem dX1_opens_11 : decode cX1_opens 11 = .ok (.ifCond .ne 7, 3) := by decide +kernel
theorem dX1_opens_14 : decode cX1_opens 14 = .ok (.iconst 1, 1) := by decide +kernel
theorem dX1_opens_15 : decode cX1_opens 15 = .ok (.goto 4, 3) := by decide +kernel
theorem dX1_opens_18 : decode cX1_opens 18 = .ok (.iconst 0, 1) := by decide +kernel
theorem dX1_opens_19 : decode cX1_opens 19 = .ok (.ireturn, 1) := by decide +kernel
theorem dX1_forgetFindings_0 : decode cX1_forgetFindings 0 = .ok (.aload_n 0, 1) := by decide +kernel
theorem dX1_forgetFindings_1 : decode cX1_forgetFindings 1 = .ok (.iconst 0, 1) := by decide +kernel
theorem dX1_forgetFindings_2 : decode cX1_forgetFindings 2 = .ok (.putfield 191, 3) := by decide +kernel
theorem dX1_forgetFindings_5 : decode cX1_forgetFindings 5 = .ok (.aload_n 0, 1) := by decide +kernel
theorem dX1_forgetFindings_6 : decode cX1_forgetFindings 6 = .ok (.iconst 0, 1) := by decide +kernel
theorem dX1_forgetFindings_7 : decode cX1_forgetFindings 7 = .ok (.putfield 106, 3) := by decide +kernel
theorem dX1_forgetFindings_10 : decode cX1_forgetFindings 10 = .ok (.return_, 1) := by decide +kernel
set_option maxRecDepth 20000 in
theorem ggX1_findExtensions_X1_conclusionsOf : GoodIn wsX1_findExtensions wsX1_conclusionsOf := goodIn_r _ [11, 2, 12, 13, 14, 10, 15, 49, 50, 51, 52, 53, 54, 55, 56, 57, 58, 59, 60, 61, 62, 63, 64, 65, 66, 67, 68] (by decide +kernel) (by decide +kernel)
set_option maxRecDepth 20000 in
theorem gX1_findExtensions_X1_conclusionsOf : GoodIn wsX1_findExtensions (wsV RX1 194 RX1 yX1_conclusionsOf wsX1_conclusionsOf) := goodIn_app (goodIn_of _ (by decide +kernel)) ggX1_findExtensions_X1_conclusionsOf
set_option maxRecDepth 20000 in
theorem ggX1_findExtensions_X1_closeUp : GoodIn wsX1_findExtensions wsX1_closeUp := goodIn_r _ [19, 20, 21, 22, 23, 24, 25, 10, 26, 27, 28, 29, 49, 50, 51, 52, 53, 54, 55, 56, 57, 58, 59, 60, 61, 62, 63, 64, 65, 66, 67, 68] (by decide +kernel) (by decide +kernel)
set_option maxRecDepth 20000 in
theorem gX1_findExtensions_X1_closeUp : GoodIn wsX1_findExtensions (wsV RX1 117 RX1 yX1_closeUp wsX1_closeUp) := goodIn_app (goodIn_of _ (by decide +kernel)) ggX1_findExtensions_X1_closeUp
set_option maxRecDepth 20000 in
theorem ggX1_findExtensions_X1_usableFor : GoodIn wsX1_findExtensions wsX1_usableFor := goodIn_r _ [33, 2, 34, 12, 24, 25, 10, 26, 35, 36, 37, 38, 39, 27, 28, 29, 13, 14, 15, 49, 50, 51, 52, 53, 54, 55, 56, 57, 58, 59, 60, 61, 62, 63, 64, 65, 66, 67, 68] (by decide +kernel) (by decide +kernel)
set_option maxRecDepth 20000 in
theorem gX1_findExtensions_X1_usableFor : GoodIn wsX1_findExtensions (wsV RX1 197 RX1 yX1_usableFor wsX1_usableFor) := goodIn_app (goodIn_of _ (by decide +kernel)) ggX1_findExtensions_X1_usableFor
set_option maxRecDepth 20000 in
theorem ggX1_findExtensions_X1_generatorsFor : GoodIn wsX1_findExtensions wsX1_generatorsFor := goodIn_r _ [43, 2, 3, 34, 35, 36, 37, 10, 38, 39, 27, 28, 29, 24, 25, 26, 49, 50, 51, 52, 53, 54, 55, 56, 57, 58, 59, 60, 61, 62, 63, 64, 65, 66, 67, 68] (by decide +kernel) (by decide +kernel)
set_option maxRecDepth 20000 in
theorem gX1_findExtensions_X1_generatorsFor : GoodIn wsX1_findExtensions (wsV RX1 127 RX1 yX1_generatorsFor wsX1_generatorsFor) := goodIn_app (goodIn_of _ (by decide +kernel)) ggX1_findExtensions_X1_generatorsFor
set_option maxRecDepth 20000 in
theorem ggX1_findExtensions_X1_insertExtension : GoodIn wsX1_findExtensions wsX1_insertExtension := goodIn_r _ [47, 6, 48, 49, 50, 51, 52, 53, 54, 55, 56, 57, 58, 59, 60, 61, 62, 63, 64, 65, 66, 67, 68] (by decide +kernel) (by decide +kernel)
set_option maxRecDepth 20000 in
theorem gX1_findExtensions_X1_insertExtension : GoodIn wsX1_findExtensions (wsV RX1 200 RX1 yX1_insertExtension wsX1_insertExtension) := goodIn_app (goodIn_of _ (by decide +kernel)) ggX1_findExtensions_X1_insertExtension
theorem dX1_findExtensions_0 : decode cX1_findExtensions 0 = .ok (.aload_n 0, 1) := by decide +kernel
theorem dX1_findExtensions_1 : decode cX1_findExtensions 1 = .ok (.getfield 191, 3) := by decide +kernel
theorem dX1_findExtensions_4 : decode cX1_findExtensions 4 = .ok (.ifCond .eq 4, 3) := by decide +kernel
theorem dX1_findExtensions_7 : decode cX1_findExtensions 7 = .ok (.return_, 1) := by decide +kernel
theorem dX1_findExtensions_8 : decode cX1_findExtensions 8 = .ok (.iconst 1, 1) := by decide +kernel
theorem dX1_findExtensions_9 : decode cX1_findExtensions 9 = .ok (.aload_n 0, 1) := by decide +kernel
theorem dX1_findExtensions_10 : decode cX1_findExtensions 10 = .ok (.getfield 79, 3) := by decide +kernel
theorem dX1_findExtensions_13 : decode cX1_findExtensions 13 = .ok (.ishl, 1) := by decide +kernel
theorem dX1_findExtensions_14 : decode cX1_findExtensions 14 = .ok (.istore_n 1, 1) := by decide +kernel
theorem dX1_findExtensions_15 : decode cX1_findExtensions 15 = .ok (.iconst 0, 1) := by decide +kernel
theorem dX1_findExtensions_16 : decode cX1_findExtensions 16 = .ok (.istore_n 2, 1) := by decide +kernel
theorem dX1_findExtensions_17 : decode cX1_findExtensions 17 = .ok (.iload_n 2, 1) := by decide +kernel
theorem dX1_findExtensions_18 : decode cX1_findExtensions 18 = .ok (.iload_n 1, 1) := by decide +kernel
theorem dX1_findExtensions_19 : decode cX1_findExtensions 19 = .ok (.if_icmp .ge 45, 3) := by decide +kernel
theorem dX1_findExtensions_22 : decode cX1_findExtensions 22 = .ok (.aload_n 0, 1) := by decide +kernel
theorem dX1_findExtensions_23 : decode cX1_findExtensions 23 = .ok (.getfield 38, 3) := by decide +kernel
theorem dX1_findExtensions_26 : decode cX1_findExtensions 26 = .ok (.iload_n 2, 1) := by decide +kernel
theorem dX1_findExtensions_27 : decode cX1_findExtensions 27 = .ok (.aload_n 0, 1) := by decide +kernel
theorem dX1_findExtensions_28 : decode cX1_findExtensions 28 = .ok (.aload_n 0, 1) := by decide +kernel
theorem dX1_findExtensions_29 : decode cX1_findExtensions 29 = .ok (.getfield 55, 3) := by decide +kernel
theorem dX1_findExtensions_32 : decode cX1_findExtensions 32 = .ok (.aload_n 0, 1) := by decide +kernel
theorem dX1_findExtensions_33 : decode cX1_findExtensions 33 = .ok (.iload_n 2, 1) := by decide +kernel
theorem dX1_findExtensions_34 : decode cX1_findExtensions 34 = .ok (.invokevirtual 194, 3) := by decide +kernel
theorem dX1_findExtensions_37 : decode cX1_findExtensions 37 = .ok (.ior, 1) := by decide +kernel
theorem dX1_findExtensions_38 : decode cX1_findExtensions 38 = .ok (.invokevirtual 117, 3) := by decide +kernel
theorem dX1_findExtensions_41 : decode cX1_findExtensions 41 = .ok (.iastore, 1) := by decide +kernel
theorem dX1_findExtensions_42 : decode cX1_findExtensions 42 = .ok (.aload_n 0, 1) := by decide +kernel
theorem dX1_findExtensions_43 : decode cX1_findExtensions 43 = .ok (.getfield 41, 3) := by decide +kernel
theorem dX1_findExtensions_46 : decode cX1_findExtensions 46 = .ok (.iload_n 2, 1) := by decide +kernel
theorem dX1_findExtensions_47 : decode cX1_findExtensions 47 = .ok (.aload_n 0, 1) := by decide +kernel
theorem dX1_findExtensions_48 : decode cX1_findExtensions 48 = .ok (.aload_n 0, 1) := by decide +kernel
theorem dX1_findExtensions_49 : decode cX1_findExtensions 49 = .ok (.getfield 38, 3) := by decide +kernel
theorem dX1_findExtensions_52 : decode cX1_findExtensions 52 = .ok (.iload_n 2, 1) := by decide +kernel
theorem dX1_findExtensions_53 : decode cX1_findExtensions 53 = .ok (.iaload, 1) := by decide +kernel
theorem dX1_findExtensions_54 : decode cX1_findExtensions 54 = .ok (.invokevirtual 197, 3) := by decide +kernel
theorem dX1_findExtensions_57 : decode cX1_findExtensions 57 = .ok (.iastore, 1) := by decide +kernel
theorem dX1_findExtensions_58 : decode cX1_findExtensions 58 = .ok (.iinc 2 1, 3) := by decide +kernel
theorem dX1_findExtensions_61 : decode cX1_findExtensions 61 = .ok (.goto (-44), 3) := by decide +kernel
theorem dX1_findExtensions_64 : decode cX1_findExtensions 64 = .ok (.aload_n 0, 1) := by decide +kernel
theorem dX1_findExtensions_65 : decode cX1_findExtensions 65 = .ok (.iconst 0, 1) := by decide +kernel
theorem dX1_findExtensions_66 : decode cX1_findExtensions 66 = .ok (.putfield 130, 3) := by decide +kernel
theorem dX1_findExtensions_69 : decode cX1_findExtensions 69 = .ok (.iconst 0, 1) := by decide +kernel
theorem dX1_findExtensions_70 : decode cX1_findExtensions 70 = .ok (.istore_n 2, 1) := by decide +kernel
theorem dX1_findExtensions_71 : decode cX1_findExtensions 71 = .ok (.iload_n 2, 1) := by decide +kernel
theorem dX1_findExtensions_72 : decode cX1_findExtensions 72 = .ok (.iload_n 1, 1) := by decide +kernel
theorem dX1_findExtensions_73 : decode cX1_findExtensions 73 = .ok (.if_icmp .ge 33, 3) := by decide +kernel
theorem dX1_findExtensions_76 : decode cX1_findExtensions 76 = .ok (.aload_n 0, 1) := by decide +kernel
theorem dX1_findExtensions_77 : decode cX1_findExtensions 77 = .ok (.aload_n 0, 1) := by decide +kernel
theorem dX1_findExtensions_78 : decode cX1_findExtensions 78 = .ok (.getfield 38, 3) := by decide +kernel
theorem dX1_findExtensions_81 : decode cX1_findExtensions 81 = .ok (.iload_n 2, 1) := by decide +kernel
theorem dX1_findExtensions_82 : decode cX1_findExtensions 82 = .ok (.iaload, 1) := by decide +kernel
theorem dX1_findExtensions_83 : decode cX1_findExtensions 83 = .ok (.invokevirtual 127, 3) := by decide +kernel
theorem dX1_findExtensions_86 : decode cX1_findExtensions 86 = .ok (.iload_n 2, 1) := by decide +kernel
theorem dX1_findExtensions_87 : decode cX1_findExtensions 87 = .ok (.if_icmp .ne 13, 3) := by decide +kernel
theorem dX1_findExtensions_90 : decode cX1_findExtensions 90 = .ok (.aload_n 0, 1) := by decide +kernel
theorem dX1_findExtensions_91 : decode cX1_findExtensions 91 = .ok (.aload_n 0, 1) := by decide +kernel
theorem dX1_findExtensions_92 : decode cX1_findExtensions 92 = .ok (.getfield 38, 3) := by decide +kernel
theorem dX1_findExtensions_95 : decode cX1_findExtensions 95 = .ok (.iload_n 2, 1) := by decide +kernel
theorem dX1_findExtensions_96 : decode cX1_findExtensions 96 = .ok (.iaload, 1) := by decide +kernel
theorem dX1_findExtensions_97 : decode cX1_findExtensions 97 = .ok (.invokevirtual 200, 3) := by decide +kernel
theorem dX1_findExtensions_100 : decode cX1_findExtensions 100 = .ok (.iinc 2 1, 3) := by decide +kernel
theorem dX1_findExtensions_103 : decode cX1_findExtensions 103 = .ok (.goto (-32), 3) := by decide +kernel
theorem dX1_findExtensions_106 : decode cX1_findExtensions 106 = .ok (.aload_n 0, 1) := by decide +kernel
theorem dX1_findExtensions_107 : decode cX1_findExtensions 107 = .ok (.iconst 1, 1) := by decide +kernel
theorem dX1_findExtensions_108 : decode cX1_findExtensions 108 = .ok (.putfield 191, 3) := by decide +kernel
theorem dX1_findExtensions_111 : decode cX1_findExtensions 111 = .ok (.return_, 1) := by decide +kernel
set_option maxRecDepth 20000 in
theorem ggX1_conclusionsOf_X1_has : GoodIn wsX1_conclusionsOf wsX1_has := goodIn_r _ [6] (by decide +kernel) (by decide +kernel)
set_option maxRecDepth 20000 in
theorem gX1_conclusionsOf_X1_has : GoodIn wsX1_conclusionsOf (va_wsS RX1 59 yX1_has wsX1_has) := goodIn_app (goodIn_of _ (by decide +kernel)) ggX1_conclusionsOf_X1_has
theorem dX1_conclusionsOf_0 : decode cX1_conclusionsOf 0 = .ok (.iconst 0, 1) := by decide +kernel
theorem dX1_conclusionsOf_1 : decode cX1_conclusionsOf 1 = .ok (.istore_n 2, 1) := by decide +kernel
theorem dX1_conclusionsOf_2 : decode cX1_conclusionsOf 2 = .ok (.iconst 0, 1) := by decide +kernel
theorem dX1_conclusionsOf_3 : decode cX1_conclusionsOf 3 = .ok (.istore_n 3, 1) := by decide +kernel
theorem dX1_conclusionsOf_4 : decode cX1_conclusionsOf 4 = .ok (.iload_n 3, 1) := by decide +kernel
theorem dX1_conclusionsOf_5 : decode cX1_conclusionsOf 5 = .ok (.aload_n 0, 1) := by decide +kernel
theorem dX1_conclusionsOf_6 : decode cX1_conclusionsOf 6 = .ok (.getfield 79, 3) := by decide +kernel
theorem dX1_conclusionsOf_9 : decode cX1_conclusionsOf 9 = .ok (.if_icmp .ge 28, 3) := by decide +kernel
theorem dX1_conclusionsOf_12 : decode cX1_conclusionsOf 12 = .ok (.iload_n 1, 1) := by decide +kernel
theorem dX1_conclusionsOf_13 : decode cX1_conclusionsOf 13 = .ok (.iload_n 3, 1) := by decide +kernel
theorem dX1_conclusionsOf_14 : decode cX1_conclusionsOf 14 = .ok (.invokestatic 59, 3) := by decide +kernel
theorem dX1_conclusionsOf_17 : decode cX1_conclusionsOf 17 = .ok (.ifCond .eq 14, 3) := by decide +kernel
theorem dX1_conclusionsOf_20 : decode cX1_conclusionsOf 20 = .ok (.iload_n 2, 1) := by decide +kernel
theorem dX1_conclusionsOf_21 : decode cX1_conclusionsOf 21 = .ok (.iconst 1, 1) := by decide +kernel
theorem dX1_conclusionsOf_22 : decode cX1_conclusionsOf 22 = .ok (.aload_n 0, 1) := by decide +kernel
theorem dX1_conclusionsOf_23 : decode cX1_conclusionsOf 23 = .ok (.getfield 22, 3) := by decide +kernel
theorem dX1_conclusionsOf_26 : decode cX1_conclusionsOf 26 = .ok (.iload_n 3, 1) := by decide +kernel
theorem dX1_conclusionsOf_27 : decode cX1_conclusionsOf 27 = .ok (.iaload, 1) := by decide +kernel
theorem dX1_conclusionsOf_28 : decode cX1_conclusionsOf 28 = .ok (.ishl, 1) := by decide +kernel
theorem dX1_conclusionsOf_29 : decode cX1_conclusionsOf 29 = .ok (.ior, 1) := by decide +kernel
theorem dX1_conclusionsOf_30 : decode cX1_conclusionsOf 30 = .ok (.istore_n 2, 1) := by decide +kernel
theorem dX1_conclusionsOf_31 : decode cX1_conclusionsOf 31 = .ok (.iinc 3 1, 3) := by decide +kernel
theorem dX1_conclusionsOf_34 : decode cX1_conclusionsOf 34 = .ok (.goto (-30), 3) := by decide +kernel
theorem dX1_conclusionsOf_37 : decode cX1_conclusionsOf 37 = .ok (.iload_n 2, 1) := by decide +kernel
theorem dX1_conclusionsOf_38 : decode cX1_conclusionsOf 38 = .ok (.ireturn, 1) := by decide +kernel
set_option maxRecDepth 20000 in
theorem ggX1_usableFor_X1_contains : GoodIn wsX1_usableFor wsX1_contains := goodIn_r _ [7] (by decide +kernel) (by decide +kernel)
set_option maxRecDepth 20000 in
theorem gX1_usableFor_X1_contains : GoodIn wsX1_usableFor (va_wsS RX1 185 yX1_contains wsX1_contains) := goodIn_app (goodIn_of _ (by decide +kernel)) ggX1_usableFor_X1_contains
set_option maxRecDepth 20000 in
theorem ggX1_usableFor_X1_opens : GoodIn wsX1_usableFor wsX1_opens := goodIn_r _ [11, 12, 13, 14, 6, 15, 19, 20, 21, 22, 23, 24, 25, 26, 27, 28, 29, 30, 31, 32, 33, 34, 35, 36, 37, 38] (by decide +kernel) (by decide +kernel)
set_option maxRecDepth 20000 in
theorem gX1_usableFor_X1_opens : GoodIn wsX1_usableFor (wsV RX1 121 RX1 yX1_opens wsX1_opens) := goodIn_app (goodIn_of _ (by decide +kernel)) ggX1_usableFor_X1_opens
set_option maxRecDepth 20000 in
theorem ggX1_usableFor_X1_has : GoodIn wsX1_usableFor wsX1_has := goodIn_r _ [18] (by decide +kernel) (by decide +kernel)
set_option maxRecDepth 20000 in
theorem gX1_usableFor_X1_has : GoodIn wsX1_usableFor (va_wsS RX1 59 yX1_has wsX1_has) := goodIn_app (goodIn_of _ (by decide +kernel)) ggX1_usableFor_X1_has
theorem dX1_usableFor_0 : decode cX1_usableFor 0 = .ok (.iconst 0, 1) := by decide +kernel
theorem dX1_usableFor_1 : decode cX1_usableFor 1 = .ok (.istore_n 2, 1) := by decide +kernel
theorem dX1_usableFor_2 : decode cX1_usableFor 2 = .ok (.iconst 0, 1) := by decide +kernel
theorem dX1_usableFor_3 : decode cX1_usableFor 3 = .ok (.istore_n 3, 1) := by decide +kernel
theorem dX1_usableFor_4 : decode cX1_usableFor 4 = .ok (.iload_n 3, 1) := by decide +kernel
theorem dX1_usableFor_5 : decode cX1_usableFor 5 = .ok (.aload_n 0, 1) := by decide +kernel
theorem dX1_usableFor_6 : decode cX1_usableFor 6 = .ok (.getfield 79, 3) := by decide +kernel
theorem dX1_usableFor_9 : decode cX1_usableFor 9 = .ok (.if_icmp .ge 50, 3) := by decide +kernel
theorem dX1_usableFor_12 : decode cX1_usableFor 12 = .ok (.iload_n 1, 1) := by decide +kernel
theorem dX1_usableFor_13 : decode cX1_usableFor 13 = .ok (.aload_n 0, 1) := by decide +kernel
theorem dX1_usableFor_14 : decode cX1_usableFor 14 = .ok (.getfield 16, 3) := by decide +kernel
theorem dX1_usableFor_17 : decode cX1_usableFor 17 = .ok (.iload_n 3, 1) := by decide +kernel
theorem dX1_usableFor_18 : decode cX1_usableFor 18 = .ok (.iaload, 1) := by decide +kernel
theorem dX1_usableFor_19 : decode cX1_usableFor 19 = .ok (.invokestatic 185, 3) := by decide +kernel
theorem dX1_usableFor_22 : decode cX1_usableFor 22 = .ok (.ifCond .eq 31, 3) := by decide +kernel
theorem dX1_usableFor_25 : decode cX1_usableFor 25 = .ok (.aload_n 0, 1) := by decide +kernel
theorem dX1_usableFor_26 : decode cX1_usableFor 26 = .ok (.iload_n 3, 1) := by decide +kernel
theorem dX1_usableFor_27 : decode cX1_usableFor 27 = .ok (.iload_n 1, 1) := by decide +kernel
theorem dX1_usableFor_28 : decode cX1_usableFor 28 = .ok (.invokevirtual 121, 3) := by decide +kernel
theorem dX1_usableFor_31 : decode cX1_usableFor 31 = .ok (.ifCond .eq 22, 3) := by decide +kernel
theorem dX1_usableFor_34 : decode cX1_usableFor 34 = .ok (.iload_n 1, 1) := by decide +kernel
theorem dX1_usableFor_35 : decode cX1_usableFor 35 = .ok (.aload_n 0, 1) := by decide +kernel
theorem dX1_usableFor_36 : decode cX1_usableFor 36 = .ok (.getfield 22, 3) := by decide +kernel
theorem dX1_usableFor_39 : decode cX1_usableFor 39 = .ok (.iload_n 3, 1) := by decide +kernel
theorem dX1_usableFor_40 : decode cX1_usableFor 40 = .ok (.iaload, 1) := by decide +kernel
theorem dX1_usableFor_41 : decode cX1_usableFor 41 = .ok (.invokestatic 59, 3) := by decide +kernel
theorem dX1_usableFor_44 : decode cX1_usableFor 44 = .ok (.ifCond .ne 9, 3) := by decide +kernel
theorem dX1_usableFor_47 : decode cX1_usableFor 47 = .ok (.iload_n 2, 1) := by decide +kernel
theorem dX1_usableFor_48 : decode cX1_usableFor 48 = .ok (.iconst 1, 1) := by decide +kernel
theorem dX1_usableFor_49 : decode cX1_usableFor 49 = .ok (.iload_n 3, 1) := by decide +kernel
theorem dX1_usableFor_50 : decode cX1_usableFor 50 = .ok (.ishl, 1) := by decide +kernel
theorem dX1_usableFor_51 : decode cX1_usableFor 51 = .ok (.ior, 1) := by decide +kernel
theorem dX1_usableFor_52 : decode cX1_usableFor 52 = .ok (.istore_n 2, 1) := by decide +kernel
theorem dX1_usableFor_53 : decode cX1_usableFor 53 = .ok (.iinc 3 1, 3) := by decide +kernel
theorem dX1_usableFor_56 : decode cX1_usableFor 56 = .ok (.goto (-52), 3) := by decide +kernel
theorem dX1_usableFor_59 : decode cX1_usableFor 59 = .ok (.iload_n 2, 1) := by decide +kernel
theorem dX1_usableFor_60 : decode cX1_usableFor 60 = .ok (.ireturn, 1) := by decide +kernel
set_option maxRecDepth 20000 in
theorem ggX1_generatorsFor_X1_opens : GoodIn wsX1_generatorsFor wsX1_opens := goodIn_r _ [8, 9, 10, 11, 7, 12, 16, 17, 18, 19, 20, 21, 22, 23, 24, 25, 26, 27, 28, 29, 30, 31, 32, 33, 34, 35] (by decide +kernel) (by decide +kernel)
set_option maxRecDepth 20000 in
theorem gX1_generatorsFor_X1_opens : GoodIn wsX1_generatorsFor (wsV RX1 121 RX1 yX1_opens wsX1_opens) := goodIn_app (goodIn_of _ (by decide +kernel)) ggX1_generatorsFor_X1_opens
set_option maxRecDepth 20000 in
theorem ggX1_generatorsFor_X1_contains : GoodIn wsX1_generatorsFor wsX1_contains := goodIn_r _ [15] (by decide +kernel) (by decide +kernel)
set_option maxRecDepth 20000 in
theorem gX1_generatorsFor_X1_contains : GoodIn wsX1_generatorsFor (va_wsS RX1 185 yX1_contains wsX1_contains) := goodIn_app (goodIn_of _ (by decide +kernel)) ggX1_generatorsFor_X1_contains
theorem dX1_generatorsFor_0 : decode cX1_generatorsFor 0 = .ok (.iconst 0, 1) := by decide +kernel
theorem dX1_generatorsFor_1 : decode cX1_generatorsFor 1 = .ok (.istore_n 2, 1) := by decide +kernel
theorem dX1_generatorsFor_2 : decode cX1_generatorsFor 2 = .ok (.iconst 0, 1) := by decide +kernel
theorem dX1_generatorsFor_3 : decode cX1_generatorsFor 3 = .ok (.istore_n 3, 1) := by decide +kernel
theorem dX1_generatorsFor_4 : decode cX1_generatorsFor 4 = .ok (.iload_n 3, 1) := by decide +kernel
theorem dX1_generatorsFor_5 : decode cX1_generatorsFor 5 = .ok (.aload_n 0, 1) := by decide +kernel
theorem dX1_generatorsFor_6 : decode cX1_generatorsFor 6 = .ok (.getfield 79, 3) := by decide +kernel
theorem dX1_generatorsFor_9 : decode cX1_generatorsFor 9 = .ok (.if_icmp .gt 75, 3) := by decide +kernel
theorem dX1_generatorsFor_12 : decode cX1_generatorsFor 12 = .ok (.iload_n 2, 1) := by decide +kernel
theorem dX1_generatorsFor_13 : decode cX1_generatorsFor 13 = .ok (.istore 4, 2) := by decide +kernel
theorem dX1_generatorsFor_15 : decode cX1_generatorsFor 15 = .ok (.iconst 0, 1) := by decide +kernel
theorem dX1_generatorsFor_16 : decode cX1_generatorsFor 16 = .ok (.istore 5, 2) := by decide +kernel
theorem dX1_generatorsFor_18 : decode cX1_generatorsFor 18 = .ok (.iload 5, 2) := by decide +kernel
theorem dX1_generatorsFor_20 : decode cX1_generatorsFor 20 = .ok (.aload_n 0, 1) := by decide +kernel
theorem dX1_generatorsFor_21 : decode cX1_generatorsFor 21 = .ok (.getfield 79, 3) := by decide +kernel
theorem dX1_generatorsFor_24 : decode cX1_generatorsFor 24 = .ok (.if_icmp .ge 45, 3) := by decide +kernel
theorem dX1_generatorsFor_27 : decode cX1_generatorsFor 27 = .ok (.aload_n 0, 1) := by decide +kernel
theorem dX1_generatorsFor_28 : decode cX1_generatorsFor 28 = .ok (.iload 5, 2) := by decide +kernel
theorem dX1_generatorsFor_30 : decode cX1_generatorsFor 30 = .ok (.iload_n 1, 1) := by decide +kernel
theorem dX1_generatorsFor_31 : decode cX1_generatorsFor 31 = .ok (.invokevirtual 121, 3) := by decide +kernel
theorem dX1_generatorsFor_34 : decode cX1_generatorsFor 34 = .ok (.ifCond .eq 29, 3) := by decide +kernel
theorem dX1_generatorsFor_37 : decode cX1_generatorsFor 37 = .ok (.aload_n 0, 1) := by decide +kernel
theorem dX1_generatorsFor_38 : decode cX1_generatorsFor 38 = .ok (.getfield 38, 3) := by decide +kernel
theorem dX1_generatorsFor_41 : decode cX1_generatorsFor 41 = .ok (.iload_n 2, 1) := by decide +kernel
theorem dX1_generatorsFor_42 : decode cX1_generatorsFor 42 = .ok (.iaload, 1) := by decide +kernel
theorem dX1_generatorsFor_43 : decode cX1_generatorsFor 43 = .ok (.aload_n 0, 1) := by decide +kernel
theorem dX1_generatorsFor_44 : decode cX1_generatorsFor 44 = .ok (.getfield 16, 3) := by decide +kernel
theorem dX1_generatorsFor_47 : decode cX1_generatorsFor 47 = .ok (.iload 5, 2) := by decide +kernel
theorem dX1_generatorsFor_49 : decode cX1_generatorsFor 49 = .ok (.iaload, 1) := by decide +kernel
theorem dX1_generatorsFor_50 : decode cX1_generatorsFor 50 = .ok (.invokestatic 185, 3) := by decide +kernel
theorem dX1_generatorsFor_53 : decode cX1_generatorsFor 53 = .ok (.ifCond .eq 10, 3) := by decide +kernel
theorem dX1_generatorsFor_56 : decode cX1_generatorsFor 56 = .ok (.iload_n 2, 1) := by decide +kernel
theorem dX1_generatorsFor_57 : decode cX1_generatorsFor 57 = .ok (.iconst 1, 1) := by decide +kernel
theorem dX1_generatorsFor_58 : decode cX1_generatorsFor 58 = .ok (.iload 5, 2) := by decide +kernel
theorem dX1_generatorsFor_60 : decode cX1_generatorsFor 60 = .ok (.ishl, 1) := by decide +kernel
theorem dX1_generatorsFor_61 : decode cX1_generatorsFor 61 = .ok (.ior, 1) := by decide +kernel
theorem dX1_generatorsFor_62 : decode cX1_generatorsFor 62 = .ok (.istore_n 2, 1) := by decide +kernel
theorem dX1_generatorsFor_63 : decode cX1_generatorsFor 63 = .ok (.iinc 5 1, 3) := by decide +kernel
theorem dX1_generatorsFor_66 : decode cX1_generatorsFor 66 = .ok (.goto (-48), 3) := by decide +kernel
theorem dX1_generatorsFor_69 : decode cX1_generatorsFor 69 = .ok (.iload_n 2, 1) := by decide +kernel
theorem dX1_generatorsFor_70 : decode cX1_generatorsFor 70 = .ok (.iload 4, 2) := by decide +kernel
theorem dX1_generatorsFor_72 : decode cX1_generatorsFor 72 = .ok (.if_icmp .ne 6, 3) := by decide +kernel
theorem dX1_generatorsFor_75 : decode cX1_generatorsFor 75 = .ok (.goto 9, 3) := by decide +kernel
theorem dX1_generatorsFor_78 : decode cX1_generatorsFor 78 = .ok (.iinc 3 1, 3) := by decide +kernel
theorem dX1_generatorsFor_81 : decode cX1_generatorsFor 81 = .ok (.goto (-77), 3) := by decide +kernel
theorem dX1_generatorsFor_84 : decode cX1_generatorsFor 84 = .ok (.iload_n 2, 1) := by decide +kernel
theorem dX1_generatorsFor_85 : decode cX1_generatorsFor 85 = .ok (.ireturn, 1) := by decide +kernel
theorem dX1_insertExtension_0 : decode cX1_insertExtension 0 = .ok (.aload_n 0, 1) := by decide +kernel
theorem dX1_insertExtension_1 : decode cX1_insertExtension 1 = .ok (.getfield 130, 3) := by decide +kernel
theorem dX1_insertExtension_4 : decode cX1_insertExtension 4 = .ok (.bipush 64, 2) := by decide +kernel
theorem dX1_insertExtension_6 : decode cX1_insertExtension 6 = .ok (.if_icmp .lt 4, 3) := by decide +kernel
theorem dX1_insertExtension_9 : decode cX1_insertExtension 9 = .ok (.return_, 1) := by decide +kernel
theorem dX1_insertExtension_10 : decode cX1_insertExtension 10 = .ok (.aload_n 0, 1) := by decide +kernel
theorem dX1_insertExtension_11 : decode cX1_insertExtension 11 = .ok (.getfield 130, 3) := by decide +kernel
theorem dX1_insertExtension_14 : decode cX1_insertExtension 14 = .ok (.istore_n 2, 1) := by decide +kernel
theorem dX1_insertExtension_15 : decode cX1_insertExtension 15 = .ok (.iload_n 2, 1) := by decide +kernel
theorem dX1_insertExtension_16 : decode cX1_insertExtension 16 = .ok (.ifCond .le 35, 3) := by decide +kernel
theorem dX1_insertExtension_19 : decode cX1_insertExtension 19 = .ok (.aload_n 0, 1) := by decide +kernel
theorem dX1_insertExtension_20 : decode cX1_insertExtension 20 = .ok (.getfield 44, 3) := by decide +kernel
theorem dX1_insertExtension_23 : decode cX1_insertExtension 23 = .ok (.iload_n 2, 1) := by decide +kernel
theorem dX1_insertExtension_24 : decode cX1_insertExtension 24 = .ok (.iconst 1, 1) := by decide +kernel
theorem dX1_insertExtension_25 : decode cX1_insertExtension 25 = .ok (.isub, 1) := by decide +kernel
theorem dX1_insertExtension_26 : decode cX1_insertExtension 26 = .ok (.iaload, 1) := by decide +kernel
theorem dX1_insertExtension_27 : decode cX1_insertExtension 27 = .ok (.iload_n 1, 1) := by decide +kernel
theorem dX1_insertExtension_28 : decode cX1_insertExtension 28 = .ok (.if_icmp .le 23, 3) := by decide +kernel
theorem dX1_insertExtension_31 : decode cX1_insertExtension 31 = .ok (.aload_n 0, 1) := by decide +kernel
theorem dX1_insertExtension_32 : decode cX1_insertExtension 32 = .ok (.getfield 44, 3) := by decide +kernel
theorem dX1_insertExtension_35 : decode cX1_insertExtension 35 = .ok (.iload_n 2, 1) := by decide +kernel
theorem dX1_insertExtension_36 : decode cX1_insertExtension 36 = .ok (.aload_n 0, 1) := by decide +kernel
theorem dX1_insertExtension_37 : decode cX1_insertExtension 37 = .ok (.getfield 44, 3) := by decide +kernel
theorem dX1_insertExtension_40 : decode cX1_insertExtension 40 = .ok (.iload_n 2, 1) := by decide +kernel
theorem dX1_insertExtension_41 : decode cX1_insertExtension 41 = .ok (.iconst 1, 1) := by decide +kernel
theorem dX1_insertExtension_42 : decode cX1_insertExtension 42 = .ok (.isub, 1) := by decide +kernel
theorem dX1_insertExtension_43 : decode cX1_insertExtension 43 = .ok (.iaload, 1) := by decide +kernel
theorem dX1_insertExtension_44 : decode cX1_insertExtension 44 = .ok (.iastore, 1) := by decide +kernel
theorem dX1_insertExtension_45 : decode cX1_insertExtension 45 = .ok (.iinc 2 (-1), 3) := by decide +kernel
theorem dX1_insertExtension_48 : decode cX1_insertExtension 48 = .ok (.goto (-33), 3) := by decide +kernel
theorem dX1_insertExtension_51 : decode cX1_insertExtension 51 = .ok (.aload_n 0, 1) := by decide +kernel
theorem dX1_insertExtension_52 : decode cX1_insertExtension 52 = .ok (.getfield 44, 3) := by decide +kernel
theorem dX1_insertExtension_55 : decode cX1_insertExtension 55 = .ok (.iload_n 2, 1) := by decide +kernel
theorem dX1_insertExtension_56 : decode cX1_insertExtension 56 = .ok (.iload_n 1, 1) := by decide +kernel
theorem dX1_insertExtension_57 : decode cX1_insertExtension 57 = .ok (.iastore, 1) := by decide +kernel
theorem dX1_insertExtension_58 : decode cX1_insertExtension 58 = .ok (.aload_n 0, 1) := by decide +kernel
theorem dX1_insertExtension_59 : decode cX1_insertExtension 59 = .ok (.dup, 1) := by decide +kernel
theorem dX1_insertExtension_60 : decode cX1_insertExtension 60 = .ok (.getfield 130, 3) := by decide +kernel
theorem dX1_insertExtension_63 : decode cX1_insertExtension 63 = .ok (.iconst 1, 1) := by decide +kernel
theorem dX1_insertExtension_64 : decode cX1_insertExtension 64 = .ok (.iadd, 1) := by decide +kernel
theorem dX1_insertExtension_65 : decode cX1_insertExtension 65 = .ok (.putfield 130, 3) := by decide +kernel
theorem dX1_insertExtension_68 : decode cX1_insertExtension 68 = .ok (.return_, 1) := by decide +kernel
set_option maxRecDepth 20000 in
theorem ggX1_findPreferred_X1_findExtensions : GoodIn wsX1_findPreferred wsX1_findExtensions := goodIn_r _ [11, 12, 6, 13, 14, 15, 2, 16, 17, 18, 10, 19, 20, 21, 22, 23, 24, 25, 26, 27, 28, 29, 30, 31, 32, 33, 34, 35, 36, 37, 38, 39, 40, 41, 42, 43, 44, 45, 46, 47, 48, 49, 50, 51, 52, 53, 54, 55, 56, 84, 85, 86, 87, 88, 89, 90, 91, 92, 93, 94, 95, 96, 97, 98, 99, 100, 101, 102, 103] (by decide +kernel) (by decide +kernel)
set_option maxRecDepth 20000 in
theorem gX1_findPreferred_X1_findExtensions : GoodIn wsX1_findPreferred (wsV RX1 124 RX1 yX1_findExtensions wsX1_findExtensions) := goodIn_app (goodIn_of _ (by decide +kernel)) ggX1_findPreferred_X1_findExtensions
set_option maxRecDepth 20000 in
theorem ggX1_findPreferred_X1_layOut : GoodIn wsX1_findPreferred wsX1_layOut := goodIn_r _ [60, 6, 5, 61, 21, 22, 10, 23, 84, 85, 86, 87, 88, 89, 90, 91, 92, 93, 94, 95, 96, 97, 98, 99, 100, 101, 102, 103] (by decide +kernel) (by decide +kernel)
set_option maxRecDepth 20000 in
theorem gX1_findPreferred_X1_layOut : GoodIn wsX1_findPreferred (wsV RX1 146 RX1 yX1_layOut wsX1_layOut) := goodIn_app (goodIn_of _ (by decide +kernel)) ggX1_findPreferred_X1_layOut
set_option maxRecDepth 20000 in
theorem ggX1_findPreferred_X1_keepsPriorities : GoodIn wsX1_findPreferred wsX1_keepsPriorities := goodIn_r _ [65, 6, 61, 66, 67, 68, 69, 70, 71, 84, 85, 86, 87, 88, 89, 90, 91, 92, 93, 94, 95, 96, 97, 98, 99, 100, 101, 102, 103, 104, 105] (by decide +kernel) (by decide +kernel)
set_option maxRecDepth 20000 in
theorem gX1_findPreferred_X1_keepsPriorities : GoodIn wsX1_findPreferred (wsV RX1 160 RX1 yX1_keepsPriorities wsX1_keepsPriorities) := goodIn_app (goodIn_of _ (by decide +kernel)) ggX1_findPreferred_X1_keepsPriorities
set_option maxRecDepth 20000 in
theorem ggX1_findPreferred_X1_endOfWalk : GoodIn wsX1_findPreferred wsX1_endOfWalk := goodIn_r _ [75, 6, 13, 76, 77, 78, 10, 79, 15, 61, 21, 22, 23, 84, 85, 86, 87, 88, 89, 90, 91, 92, 93, 94, 95, 96, 97, 98, 99, 100, 101, 102, 103] (by decide +kernel) (by decide +kernel)
set_option maxRecDepth 20000 in
theorem gX1_findPreferred_X1_endOfWalk : GoodIn wsX1_findPreferred (wsV RX1 203 RX1 yX1_endOfWalk wsX1_endOfWalk) := goodIn_app (goodIn_of _ (by decide +kernel)) ggX1_findPreferred_X1_endOfWalk
set_option maxRecDepth 20000 in
theorem ggX1_findPreferred_X1_markPreferred : GoodIn wsX1_findPreferred wsX1_markPreferred := goodIn_r _ [83, 2, 56, 3, 4, 84, 85, 86, 87, 88, 89, 90, 91, 92, 93, 94, 95, 96, 97, 98, 99, 100, 101, 102, 103] (by decide +kernel) (by decide +kernel)
set_option maxRecDepth 20000 in
theorem gX1_findPreferred_X1_markPreferred : GoodIn wsX1_findPreferred (wsV RX1 206 RX1 yX1_markPreferred wsX1_markPreferred) := goodIn_app (goodIn_of _ (by decide +kernel)) ggX1_findPreferred_X1_markPreferred
theorem dX1_findPreferred_0 : decode cX1_findPreferred 0 = .ok (.aload_n 0, 1) := by decide +kernel
theorem dX1_findPreferred_1 : decode cX1_findPreferred 1 = .ok (.getfield 106, 3) := by decide +kernel
theorem dX1_findPreferred_4 : decode cX1_findPreferred 4 = .ok (.ifCond .eq 4, 3) := by decide +kernel
theorem dX1_findPreferred_7 : decode cX1_findPreferred 7 = .ok (.return_, 1) := by decide +kernel
theorem dX1_findPreferred_8 : decode cX1_findPreferred 8 = .ok (.aload_n 0, 1) := by decide +kernel
theorem dX1_findPreferred_9 : decode cX1_findPreferred 9 = .ok (.invokevirtual 124, 3) := by decide +kernel
theorem dX1_findPreferred_12 : decode cX1_findPreferred 12 = .ok (.iconst 0, 1) := by decide +kernel
theorem dX1_findPreferred_13 : decode cX1_findPreferred 13 = .ok (.istore_n 1, 1) := by decide +kernel
theorem dX1_findPreferred_14 : decode cX1_findPreferred 14 = .ok (.iload_n 1, 1) := by decide +kernel
theorem dX1_findPreferred_15 : decode cX1_findPreferred 15 = .ok (.aload_n 0, 1) := by decide +kernel
theorem dX1_findPreferred_16 : decode cX1_findPreferred 16 = .ok (.getfield 130, 3) := by decide +kernel
theorem dX1_findPreferred_19 : decode cX1_findPreferred 19 = .ok (.if_icmp .ge 16, 3) := by decide +kernel
theorem dX1_findPreferred_22 : decode cX1_findPreferred 22 = .ok (.aload_n 0, 1) := by decide +kernel
theorem dX1_findPreferred_23 : decode cX1_findPreferred 23 = .ok (.getfield 47, 3) := by decide +kernel
theorem dX1_findPreferred_26 : decode cX1_findPreferred 26 = .ok (.iload_n 1, 1) := by decide +kernel
theorem dX1_findPreferred_27 : decode cX1_findPreferred 27 = .ok (.iconst 0, 1) := by decide +kernel
theorem dX1_findPreferred_28 : decode cX1_findPreferred 28 = .ok (.bastore, 1) := by decide +kernel
theorem dX1_findPreferred_29 : decode cX1_findPreferred 29 = .ok (.iinc 1 1, 3) := by decide +kernel
theorem dX1_findPreferred_32 : decode cX1_findPreferred 32 = .ok (.goto (-18), 3) := by decide +kernel
theorem dX1_findPreferred_35 : decode cX1_findPreferred 35 = .ok (.aload_n 0, 1) := by decide +kernel
theorem dX1_findPreferred_36 : decode cX1_findPreferred 36 = .ok (.iconst 0, 1) := by decide +kernel
theorem dX1_findPreferred_37 : decode cX1_findPreferred 37 = .ok (.putfield 139, 3) := by decide +kernel
theorem dX1_findPreferred_40 : decode cX1_findPreferred 40 = .ok (.getstatic 178, 3) := by decide +kernel
theorem dX1_findPreferred_43 : decode cX1_findPreferred 43 = .ok (.aload_n 0, 1) := by decide +kernel
theorem dX1_findPreferred_44 : decode cX1_findPreferred 44 = .ok (.getfield 79, 3) := by decide +kernel
theorem dX1_findPreferred_47 : decode cX1_findPreferred 47 = .ok (.iaload, 1) := by decide +kernel
theorem dX1_findPreferred_48 : decode cX1_findPreferred 48 = .ok (.istore_n 1, 1) := by decide +kernel
theorem dX1_findPreferred_49 : decode cX1_findPreferred 49 = .ok (.iconst 0, 1) := by decide +kernel
theorem dX1_findPreferred_50 : decode cX1_findPreferred 50 = .ok (.istore_n 2, 1) := by decide +kernel
theorem dX1_findPreferred_51 : decode cX1_findPreferred 51 = .ok (.iload_n 2, 1) := by decide +kernel
theorem dX1_findPreferred_52 : decode cX1_findPreferred 52 = .ok (.iload_n 1, 1) := by decide +kernel
theorem dX1_findPreferred_53 : decode cX1_findPreferred 53 = .ok (.if_icmp .ge 40, 3) := by decide +kernel
theorem dX1_findPreferred_56 : decode cX1_findPreferred 56 = .ok (.aload_n 0, 1) := by decide +kernel
theorem dX1_findPreferred_57 : decode cX1_findPreferred 57 = .ok (.getfield 139, 3) := by decide +kernel
theorem dX1_findPreferred_60 : decode cX1_findPreferred 60 = .ok (.aload_n 0, 1) := by decide +kernel
theorem dX1_findPreferred_61 : decode cX1_findPreferred 61 = .ok (.getfield 130, 3) := by decide +kernel
theorem dX1_findPreferred_64 : decode cX1_findPreferred 64 = .ok (.if_icmp .ge 29, 3) := by decide +kernel
theorem dX1_findPreferred_67 : decode cX1_findPreferred 67 = .ok (.aload_n 0, 1) := by decide +kernel
theorem dX1_findPreferred_68 : decode cX1_findPreferred 68 = .ok (.iload_n 2, 1) := by decide +kernel
theorem dX1_findPreferred_69 : decode cX1_findPreferred 69 = .ok (.invokevirtual 146, 3) := by decide +kernel
theorem dX1_findPreferred_72 : decode cX1_findPreferred 72 = .ok (.aload_n 0, 1) := by decide +kernel
theorem dX1_findPreferred_73 : decode cX1_findPreferred 73 = .ok (.invokevirtual 160, 3) := by decide +kernel
theorem dX1_findPreferred_76 : decode cX1_findPreferred 76 = .ok (.ifCond .eq 11, 3) := by decide +kernel
theorem dX1_findPreferred_79 : decode cX1_findPreferred 79 = .ok (.aload_n 0, 1) := by decide +kernel
theorem dX1_findPreferred_80 : decode cX1_findPreferred 80 = .ok (.aload_n 0, 1) := by decide +kernel
theorem dX1_findPreferred_81 : decode cX1_findPreferred 81 = .ok (.invokevirtual 203, 3) := by decide +kernel
theorem dX1_findPreferred_84 : decode cX1_findPreferred 84 = .ok (.invokevirtual 206, 3) := by decide +kernel
theorem dX1_findPreferred_87 : decode cX1_findPreferred 87 = .ok (.iinc 2 1, 3) := by decide +kernel
theorem dX1_findPreferred_90 : decode cX1_findPreferred 90 = .ok (.goto (-39), 3) := by decide +kernel
theorem dX1_findPreferred_93 : decode cX1_findPreferred 93 = .ok (.aload_n 0, 1) := by decide +kernel
theorem dX1_findPreferred_94 : decode cX1_findPreferred 94 = .ok (.iconst 1, 1) := by decide +kernel
theorem dX1_findPreferred_95 : decode cX1_findPreferred 95 = .ok (.putfield 106, 3) := by decide +kernel
theorem dX1_findPreferred_98 : decode cX1_findPreferred 98 = .ok (.return_, 1) := by decide +kernel
theorem dX1_markPreferred_0 : decode cX1_markPreferred 0 = .ok (.iconst 0, 1) := by decide +kernel
theorem dX1_markPreferred_1 : decode cX1_markPreferred 1 = .ok (.istore_n 2, 1) := by decide +kernel
theorem dX1_markPreferred_2 : decode cX1_markPreferred 2 = .ok (.iload_n 2, 1) := by decide +kernel
theorem dX1_markPreferred_3 : decode cX1_markPreferred 3 = .ok (.aload_n 0, 1) := by decide +kernel
theorem dX1_markPreferred_4 : decode cX1_markPreferred 4 = .ok (.getfield 130, 3) := by decide +kernel
theorem dX1_markPreferred_7 : decode cX1_markPreferred 7 = .ok (.if_icmp .ge 45, 3) := by decide +kernel
theorem dX1_markPreferred_10 : decode cX1_markPreferred 10 = .ok (.aload_n 0, 1) := by decide +kernel
theorem dX1_markPreferred_11 : decode cX1_markPreferred 11 = .ok (.getfield 44, 3) := by decide +kernel
theorem dX1_markPreferred_14 : decode cX1_markPreferred 14 = .ok (.iload_n 2, 1) := by decide +kernel
theorem dX1_markPreferred_15 : decode cX1_markPreferred 15 = .ok (.iaload, 1) := by decide +kernel
theorem dX1_markPreferred_16 : decode cX1_markPreferred 16 = .ok (.iload_n 1, 1) := by decide +kernel
theorem dX1_markPreferred_17 : decode cX1_markPreferred 17 = .ok (.if_icmp .ne 29, 3) := by decide +kernel
theorem dX1_markPreferred_20 : decode cX1_markPreferred 20 = .ok (.aload_n 0, 1) := by decide +kernel
theorem dX1_markPreferred_21 : decode cX1_markPreferred 21 = .ok (.getfield 47, 3) := by decide +kernel
theorem dX1_markPreferred_24 : decode cX1_markPreferred 24 = .ok (.iload_n 2, 1) := by decide +kernel
theorem dX1_markPreferred_25 : decode cX1_markPreferred 25 = .ok (.baload, 1) := by decide +kernel
theorem dX1_markPreferred_26 : decode cX1_markPreferred 26 = .ok (.ifCond .ne 20, 3) := by decide +kernel
theorem dX1_markPreferred_29 : decode cX1_markPreferred 29 = .ok (.aload_n 0, 1) := by decide +kernel
theorem dX1_markPreferred_30 : decode cX1_markPreferred 30 = .ok (.getfield 47, 3) := by decide +kernel
theorem dX1_markPreferred_33 : decode cX1_markPreferred 33 = .ok (.iload_n 2, 1) := by decide +kernel
theorem dX1_markPreferred_34 : decode cX1_markPreferred 34 = .ok (.iconst 1, 1) := by decide +kernel
theorem dX1_markPreferred_35 : decode cX1_markPreferred 35 = .ok (.bastore, 1) := by decide +kernel
theorem dX1_markPreferred_36 : decode cX1_markPreferred 36 = .ok (.aload_n 0, 1) := by decide +kernel
theorem dX1_markPreferred_37 : decode cX1_markPreferred 37 = .ok (.dup, 1) := by decide +kernel
theorem dX1_markPreferred_38 : decode cX1_markPreferred 38 = .ok (.getfield 139, 3) := by decide +kernel
theorem dX1_markPreferred_41 : decode cX1_markPreferred 41 = .ok (.iconst 1, 1) := by decide +kernel
theorem dX1_markPreferred_42 : decode cX1_markPreferred 42 = .ok (.iadd, 1) := by decide +kernel
theorem dX1_markPreferred_43 : decode cX1_markPreferred 43 = .ok (.putfield 139, 3) := by decide +kernel
theorem dX1_markPreferred_46 : decode cX1_markPreferred 46 = .ok (.iinc 2 1, 3) := by decide +kernel
theorem dX1_markPreferred_49 : decode cX1_markPreferred 49 = .ok (.goto (-47), 3) := by decide +kernel
theorem dX1_markPreferred_52 : decode cX1_markPreferred 52 = .ok (.return_, 1) := by decide +kernel
set_option maxRecDepth 20000 in
theorem ggX1_layOut_X1_has : GoodIn wsX1_layOut wsX1_has := goodIn_r _ [7] (by decide +kernel) (by decide +kernel)
set_option maxRecDepth 20000 in
theorem gX1_layOut_X1_has : GoodIn wsX1_layOut (va_wsS RX1 59 yX1_has wsX1_has) := goodIn_app (goodIn_of _ (by decide +kernel)) ggX1_layOut_X1_has
theorem dX1_layOut_0 : decode cX1_layOut 0 = .ok (.iload_n 1, 1) := by decide +kernel
theorem dX1_layOut_1 : decode cX1_layOut 1 = .ok (.istore_n 2, 1) := by decide +kernel
theorem dX1_layOut_2 : decode cX1_layOut 2 = .ok (.iconst 0, 1) := by decide +kernel
theorem dX1_layOut_3 : decode cX1_layOut 3 = .ok (.istore_n 3, 1) := by decide +kernel
theorem dX1_layOut_4 : decode cX1_layOut 4 = .ok (.iconst 0, 1) := by decide +kernel
theorem dX1_layOut_5 : decode cX1_layOut 5 = .ok (.istore 4, 2) := by decide +kernel
theorem dX1_layOut_7 : decode cX1_layOut 7 = .ok (.iload 4, 2) := by decide +kernel
theorem dX1_layOut_9 : decode cX1_layOut 9 = .ok (.aload_n 0, 1) := by decide +kernel
theorem dX1_layOut_10 : decode cX1_layOut 10 = .ok (.getfield 79, 3) := by decide +kernel
theorem dX1_layOut_13 : decode cX1_layOut 13 = .ok (.if_icmp .ge 84, 3) := by decide +kernel
theorem dX1_layOut_16 : decode cX1_layOut 16 = .ok (.getstatic 178, 3) := by decide +kernel
theorem dX1_layOut_19 : decode cX1_layOut 19 = .ok (.aload_n 0, 1) := by decide +kernel
theorem dX1_layOut_20 : decode cX1_layOut 20 = .ok (.getfield 79, 3) := by decide +kernel
theorem dX1_layOut_23 : decode cX1_layOut 23 = .ok (.iconst 1, 1) := by decide +kernel
theorem dX1_layOut_24 : decode cX1_layOut 24 = .ok (.isub, 1) := by decide +kernel
theorem dX1_layOut_25 : decode cX1_layOut 25 = .ok (.iload 4, 2) := by decide +kernel
theorem dX1_layOut_27 : decode cX1_layOut 27 = .ok (.isub, 1) := by decide +kernel
theorem dX1_layOut_28 : decode cX1_layOut 28 = .ok (.iaload, 1) := by decide +kernel
theorem dX1_layOut_29 : decode cX1_layOut 29 = .ok (.istore 5, 2) := by decide +kernel
theorem dX1_layOut_31 : decode cX1_layOut 31 = .ok (.iconst 0, 1) := by decide +kernel
theorem dX1_layOut_32 : decode cX1_layOut 32 = .ok (.istore 6, 2) := by decide +kernel
theorem dX1_layOut_34 : decode cX1_layOut 34 = .ok (.iload 6, 2) := by decide +kernel
theorem dX1_layOut_36 : decode cX1_layOut 36 = .ok (.aload_n 0, 1) := by decide +kernel
theorem dX1_layOut_37 : decode cX1_layOut 37 = .ok (.getfield 79, 3) := by decide +kernel
theorem dX1_layOut_40 : decode cX1_layOut 40 = .ok (.if_icmp .ge 51, 3) := by decide +kernel
theorem dX1_layOut_43 : decode cX1_layOut 43 = .ok (.iload_n 3, 1) := by decide +kernel
theorem dX1_layOut_44 : decode cX1_layOut 44 = .ok (.iload 6, 2) := by decide +kernel
theorem dX1_layOut_46 : decode cX1_layOut 46 = .ok (.invokestatic 59, 3) := by decide +kernel
theorem dX1_layOut_49 : decode cX1_layOut 49 = .ok (.ifCond .eq 6, 3) := by decide +kernel
theorem dX1_layOut_52 : decode cX1_layOut 52 = .ok (.goto 33, 3) := by decide +kernel
theorem dX1_layOut_55 : decode cX1_layOut 55 = .ok (.iload_n 2, 1) := by decide +kernel
theorem dX1_layOut_56 : decode cX1_layOut 56 = .ok (.iload 5, 2) := by decide +kernel
theorem dX1_layOut_58 : decode cX1_layOut 58 = .ok (.if_icmp .ge 22, 3) := by decide +kernel
theorem dX1_layOut_61 : decode cX1_layOut 61 = .ok (.aload_n 0, 1) := by decide +kernel
theorem dX1_layOut_62 : decode cX1_layOut 62 = .ok (.getfield 35, 3) := by decide +kernel
theorem dX1_layOut_65 : decode cX1_layOut 65 = .ok (.iload 4, 2) := by decide +kernel
theorem dX1_layOut_67 : decode cX1_layOut 67 = .ok (.iload 6, 2) := by decide +kernel
theorem dX1_layOut_69 : decode cX1_layOut 69 = .ok (.iastore, 1) := by decide +kernel
theorem dX1_layOut_70 : decode cX1_layOut 70 = .ok (.iload_n 3, 1) := by decide +kernel
theorem dX1_layOut_71 : decode cX1_layOut 71 = .ok (.iconst 1, 1) := by decide +kernel
theorem dX1_layOut_72 : decode cX1_layOut 72 = .ok (.iload 6, 2) := by decide +kernel
theorem dX1_layOut_74 : decode cX1_layOut 74 = .ok (.ishl, 1) := by decide +kernel
theorem dX1_layOut_75 : decode cX1_layOut 75 = .ok (.ior, 1) := by decide +kernel
theorem dX1_layOut_76 : decode cX1_layOut 76 = .ok (.istore_n 3, 1) := by decide +kernel
theorem dX1_layOut_77 : decode cX1_layOut 77 = .ok (.goto 14, 3) := by decide +kernel
theorem dX1_layOut_80 : decode cX1_layOut 80 = .ok (.iload_n 2, 1) := by decide +kernel
theorem dX1_layOut_81 : decode cX1_layOut 81 = .ok (.iload 5, 2) := by decide +kernel
theorem dX1_layOut_83 : decode cX1_layOut 83 = .ok (.isub, 1) := by decide +kernel
theorem dX1_layOut_84 : decode cX1_layOut 84 = .ok (.istore_n 2, 1) := by decide +kernel
theorem dX1_layOut_85 : decode cX1_layOut 85 = .ok (.iinc 6 1, 3) := by decide +kernel
theorem dX1_layOut_88 : decode cX1_layOut 88 = .ok (.goto (-54), 3) := by decide +kernel
theorem dX1_layOut_91 : decode cX1_layOut 91 = .ok (.iinc 4 1, 3) := by decide +kernel
theorem dX1_layOut_94 : decode cX1_layOut 94 = .ok (.goto (-87), 3) := by decide +kernel
theorem dX1_layOut_97 : decode cX1_layOut 97 = .ok (.return_, 1) := by decide +kernel
set_option maxRecDepth 20000 in
theorem ggX1_keepsPriorities_X0_comesBeforeOneOf : GoodIn wsX1_keepsPriorities wsX0_comesBeforeOneOf := goodIn_r _ [7, 8, 29, 30] (by decide +kernel) (by decide +kernel)
set_option maxRecDepth 20000 in
theorem gX1_keepsPriorities_X0_comesBeforeOneOf_n209 : GoodIn wsX1_keepsPriorities (wsX0_comesBeforeOneOf) := ggX1_keepsPriorities_X0_comesBeforeOneOf
theorem dX1_keepsPriorities_0 : decode cX1_keepsPriorities 0 = .ok (.iconst 0, 1) := by decide +kernel
theorem dX1_keepsPriorities_1 : decode cX1_keepsPriorities 1 = .ok (.istore_n 1, 1) := by decide +kernel
theorem dX1_keepsPriorities_2 : decode cX1_keepsPriorities 2 = .ok (.iconst 0, 1) := by decide +kernel
theorem dX1_keepsPriorities_3 : decode cX1_keepsPriorities 3 = .ok (.istore_n 2, 1) := by decide +kernel
theorem dX1_keepsPriorities_4 : decode cX1_keepsPriorities 4 = .ok (.iload_n 2, 1) := by decide +kernel
theorem dX1_keepsPriorities_5 : decode cX1_keepsPriorities 5 = .ok (.aload_n 0, 1) := by decide +kernel
theorem dX1_keepsPriorities_6 : decode cX1_keepsPriorities 6 = .ok (.getfield 79, 3) := by decide +kernel
theorem dX1_keepsPriorities_9 : decode cX1_keepsPriorities 9 = .ok (.if_icmp .ge 36, 3) := by decide +kernel
theorem dX1_keepsPriorities_12 : decode cX1_keepsPriorities 12 = .ok (.aload_n 0, 1) := by decide +kernel
theorem dX1_keepsPriorities_13 : decode cX1_keepsPriorities 13 = .ok (.getfield 35, 3) := by decide +kernel
theorem dX1_keepsPriorities_16 : decode cX1_keepsPriorities 16 = .ok (.iload_n 2, 1) := by decide +kernel
theorem dX1_keepsPriorities_17 : decode cX1_keepsPriorities 17 = .ok (.iaload, 1) := by decide +kernel
theorem dX1_keepsPriorities_18 : decode cX1_keepsPriorities 18 = .ok (.istore_n 3, 1) := by decide +kernel
theorem dX1_keepsPriorities_19 : decode cX1_keepsPriorities 19 = .ok (.aload_n 0, 1) := by decide +kernel
theorem dX1_keepsPriorities_20 : decode cX1_keepsPriorities 20 = .ok (.getfield 28, 3) := by decide +kernel
theorem dX1_keepsPriorities_23 : decode cX1_keepsPriorities 23 = .ok (.iload_n 3, 1) := by decide +kernel
theorem dX1_keepsPriorities_24 : decode cX1_keepsPriorities 24 = .ok (.iload_n 1, 1) := by decide +kernel
theorem dX1_keepsPriorities_25 : decode cX1_keepsPriorities 25 = .ok (.invokevirtual 209, 3) := by decide +kernel
theorem dX1_keepsPriorities_28 : decode cX1_keepsPriorities 28 = .ok (.ifCond .eq 5, 3) := by decide +kernel
theorem dX1_keepsPriorities_31 : decode cX1_keepsPriorities 31 = .ok (.iconst 0, 1) := by decide +kernel
theorem dX1_keepsPriorities_32 : decode cX1_keepsPriorities 32 = .ok (.ireturn, 1) := by decide +kernel
theorem dX1_keepsPriorities_33 : decode cX1_keepsPriorities 33 = .ok (.iload_n 1, 1) := by decide +kernel
theorem dX1_keepsPriorities_34 : decode cX1_keepsPriorities 34 = .ok (.iconst 1, 1) := by decide +kernel
theorem dX1_keepsPriorities_35 : decode cX1_keepsPriorities 35 = .ok (.iload_n 3, 1) := by decide +kernel
theorem dX1_keepsPriorities_36 : decode cX1_keepsPriorities 36 = .ok (.ishl, 1) := by decide +kernel
theorem dX1_keepsPriorities_37 : decode cX1_keepsPriorities 37 = .ok (.ior, 1) := by decide +kernel
theorem dX1_keepsPriorities_38 : decode cX1_keepsPriorities 38 = .ok (.istore_n 1, 1) := by decide +kernel
theorem dX1_keepsPriorities_39 : decode cX1_keepsPriorities 39 = .ok (.iinc 2 1, 3) := by decide +kernel
theorem dX1_keepsPriorities_42 : decode cX1_keepsPriorities 42 = .ok (.goto (-38), 3) := by decide +kernel
theorem dX1_keepsPriorities_45 : decode cX1_keepsPriorities 45 = .ok (.iconst 1, 1) := by decide +kernel
theorem dX1_keepsPriorities_46 : decode cX1_keepsPriorities 46 = .ok (.ireturn, 1) := by decide +kernel
set_option maxRecDepth 20000 in
theorem ggX1_endOfWalk_X1_firstUsable : GoodIn wsX1_endOfWalk wsX1_firstUsable := goodIn_r _ [7, 1, 8, 9, 10, 11, 6, 12, 13, 14, 15, 16, 17, 18, 19, 20, 21, 22, 23, 24, 25, 26, 27, 28, 29, 30, 31, 32] (by decide +kernel) (by decide +kernel)
set_option maxRecDepth 20000 in
theorem gX1_endOfWalk_X1_firstUsable : GoodIn wsX1_endOfWalk (wsV RX1 152 RX1 yX1_firstUsable wsX1_firstUsable) := goodIn_app (goodIn_of _ (by decide +kernel)) ggX1_endOfWalk_X1_firstUsable
theorem dX1_endOfWalk_0 : decode cX1_endOfWalk 0 = .ok (.iconst 0, 1) := by decide +kernel
theorem dX1_endOfWalk_1 : decode cX1_endOfWalk 1 = .ok (.istore_n 1, 1) := by decide +kernel
theorem dX1_endOfWalk_2 : decode cX1_endOfWalk 2 = .ok (.iconst 0, 1) := by decide +kernel
theorem dX1_endOfWalk_3 : decode cX1_endOfWalk 3 = .ok (.istore_n 2, 1) := by decide +kernel
theorem dX1_endOfWalk_4 : decode cX1_endOfWalk 4 = .ok (.iload_n 2, 1) := by decide +kernel
theorem dX1_endOfWalk_5 : decode cX1_endOfWalk 5 = .ok (.aload_n 0, 1) := by decide +kernel
theorem dX1_endOfWalk_6 : decode cX1_endOfWalk 6 = .ok (.getfield 79, 3) := by decide +kernel
theorem dX1_endOfWalk_9 : decode cX1_endOfWalk 9 = .ok (.if_icmp .ge 29, 3) := by decide +kernel
theorem dX1_endOfWalk_12 : decode cX1_endOfWalk 12 = .ok (.aload_n 0, 1) := by decide +kernel
theorem dX1_endOfWalk_13 : decode cX1_endOfWalk 13 = .ok (.iload_n 1, 1) := by decide +kernel
theorem dX1_endOfWalk_14 : decode cX1_endOfWalk 14 = .ok (.invokevirtual 152, 3) := by decide +kernel
theorem dX1_endOfWalk_17 : decode cX1_endOfWalk 17 = .ok (.istore_n 3, 1) := by decide +kernel
theorem dX1_endOfWalk_18 : decode cX1_endOfWalk 18 = .ok (.iload_n 3, 1) := by decide +kernel
theorem dX1_endOfWalk_19 : decode cX1_endOfWalk 19 = .ok (.iconst (-1), 1) := by decide +kernel
theorem dX1_endOfWalk_20 : decode cX1_endOfWalk 20 = .ok (.if_icmp .ne 6, 3) := by decide +kernel
theorem dX1_endOfWalk_23 : decode cX1_endOfWalk 23 = .ok (.goto 15, 3) := by decide +kernel
theorem dX1_endOfWalk_26 : decode cX1_endOfWalk 26 = .ok (.iload_n 1, 1) := by decide +kernel
theorem dX1_endOfWalk_27 : decode cX1_endOfWalk 27 = .ok (.iconst 1, 1) := by decide +kernel
theorem dX1_endOfWalk_28 : decode cX1_endOfWalk 28 = .ok (.iload_n 3, 1) := by decide +kernel
theorem dX1_endOfWalk_29 : decode cX1_endOfWalk 29 = .ok (.ishl, 1) := by decide +kernel
theorem dX1_endOfWalk_30 : decode cX1_endOfWalk 30 = .ok (.ior, 1) := by decide +kernel
theorem dX1_endOfWalk_31 : decode cX1_endOfWalk 31 = .ok (.istore_n 1, 1) := by decide +kernel
theorem dX1_endOfWalk_32 : decode cX1_endOfWalk 32 = .ok (.iinc 2 1, 3) := by decide +kernel
theorem dX1_endOfWalk_35 : decode cX1_endOfWalk 35 = .ok (.goto (-31), 3) := by decide +kernel
theorem dX1_endOfWalk_38 : decode cX1_endOfWalk 38 = .ok (.aload_n 0, 1) := by decide +kernel
theorem dX1_endOfWalk_39 : decode cX1_endOfWalk 39 = .ok (.getfield 38, 3) := by decide +kernel
theorem dX1_endOfWalk_42 : decode cX1_endOfWalk 42 = .ok (.iload_n 1, 1) := by decide +kernel
theorem dX1_endOfWalk_43 : decode cX1_endOfWalk 43 = .ok (.iaload, 1) := by decide +kernel
theorem dX1_endOfWalk_44 : decode cX1_endOfWalk 44 = .ok (.ireturn, 1) := by decide +kernel
set_option maxRecDepth 20000 in
theorem ggX1_firstUsable_X1_has : GoodIn wsX1_firstUsable wsX1_has := goodIn_r _ [7] (by decide +kernel) (by decide +kernel)
set_option maxRecDepth 20000 in
theorem gX1_firstUsable_X1_has : GoodIn wsX1_firstUsable (va_wsS RX1 59 yX1_has wsX1_has) := goodIn_app (goodIn_of _ (by decide +kernel)) ggX1_firstUsable_X1_has
theorem dX1_firstUsable_0 : decode cX1_firstUsable 0 = .ok (.iconst 0, 1) := by decide +kernel
theorem dX1_firstUsable_1 : decode cX1_firstUsable 1 = .ok (.istore_n 2, 1) := by decide +kernel
theorem dX1_firstUsable_2 : decode cX1_firstUsable 2 = .ok (.iload_n 2, 1) := by decide +kernel
theorem dX1_firstUsable_3 : decode cX1_firstUsable 3 = .ok (.aload_n 0, 1) := by decide +kernel
theorem dX1_firstUsable_4 : decode cX1_firstUsable 4 = .ok (.getfield 79, 3) := by decide +kernel
theorem dX1_firstUsable_7 : decode cX1_firstUsable 7 = .ok (.if_icmp .ge 34, 3) := by decide +kernel
theorem dX1_firstUsable_10 : decode cX1_firstUsable 10 = .ok (.aload_n 0, 1) := by decide +kernel
theorem dX1_firstUsable_11 : decode cX1_firstUsable 11 = .ok (.getfield 41, 3) := by decide +kernel
theorem dX1_firstUsable_14 : decode cX1_firstUsable 14 = .ok (.iload_n 1, 1) := by decide +kernel
theorem dX1_firstUsable_15 : decode cX1_firstUsable 15 = .ok (.iaload, 1) := by decide +kernel
theorem dX1_firstUsable_16 : decode cX1_firstUsable 16 = .ok (.aload_n 0, 1) := by decide +kernel
theorem dX1_firstUsable_17 : decode cX1_firstUsable 17 = .ok (.getfield 35, 3) := by decide +kernel
theorem dX1_firstUsable_20 : decode cX1_firstUsable 20 = .ok (.iload_n 2, 1) := by decide +kernel
theorem dX1_firstUsable_21 : decode cX1_firstUsable 21 = .ok (.iaload, 1) := by decide +kernel
theorem dX1_firstUsable_22 : decode cX1_firstUsable 22 = .ok (.invokestatic 59, 3) := by decide +kernel
theorem dX1_firstUsable_25 : decode cX1_firstUsable 25 = .ok (.ifCond .eq 10, 3) := by decide +kernel
theorem dX1_firstUsable_28 : decode cX1_firstUsable 28 = .ok (.aload_n 0, 1) := by decide +kernel
theorem dX1_firstUsable_29 : decode cX1_firstUsable 29 = .ok (.getfield 35, 3) := by decide +kernel
theorem dX1_firstUsable_32 : decode cX1_firstUsable 32 = .ok (.iload_n 2, 1) := by decide +kernel
theorem dX1_firstUsable_33 : decode cX1_firstUsable 33 = .ok (.iaload, 1) := by decide +kernel
theorem dX1_firstUsable_34 : decode cX1_firstUsable 34 = .ok (.ireturn, 1) := by decide +kernel
theorem dX1_firstUsable_35 : decode cX1_firstUsable 35 = .ok (.iinc 2 1, 3) := by decide +kernel
theorem dX1_firstUsable_38 : decode cX1_firstUsable 38 = .ok (.goto (-36), 3) := by decide +kernel
theorem dX1_firstUsable_41 : decode cX1_firstUsable 41 = .ok (.iconst (-1), 1) := by decide +kernel
theorem dX1_firstUsable_42 : decode cX1_firstUsable 42 = .ok (.ireturn, 1) := by decide +kernel
theorem dX2_init_0 : decode cX2_init 0 = .ok (.aload_n 0, 1) := by decide +kernel
theorem dX2_init_1 : decode cX2_init 1 = .ok (.invokespecial 1, 3) := by decide +kernel
theorem dX2_init_4 : decode cX2_init 4 = .ok (.aload_n 0, 1) := by decide +kernel
theorem dX2_init_5 : decode cX2_init 5 = .ok (.bipush 16, 2) := by decide +kernel
theorem dX2_init_7 : decode cX2_init 7 = .ok (.newarray .int, 2) := by decide +kernel
theorem dX2_init_9 : decode cX2_init 9 = .ok (.putfield 9, 3) := by decide +kernel
theorem dX2_init_12 : decode cX2_init 12 = .ok (.aload_n 0, 1) := by decide +kernel
theorem dX2_init_13 : decode cX2_init 13 = .ok (.bipush 16, 2) := by decide +kernel
theorem dX2_init_15 : decode cX2_init 15 = .ok (.newarray .int, 2) := by decide +kernel
theorem dX2_init_17 : decode cX2_init 17 = .ok (.putfield 13, 3) := by decide +kernel
theorem dX2_init_20 : decode cX2_init 20 = .ok (.aload_n 0, 1) := by decide +kernel
theorem dX2_init_21 : decode cX2_init 21 = .ok (.bipush 6, 2) := by decide +kernel
theorem dX2_init_23 : decode cX2_init 23 = .ok (.newarray .int, 2) := by decide +kernel
theorem dX2_init_25 : decode cX2_init 25 = .ok (.putfield 16, 3) := by decide +kernel
theorem dX2_init_28 : decode cX2_init 28 = .ok (.aload_n 0, 1) := by decide +kernel
theorem dX2_init_29 : decode cX2_init 29 = .ok (.bipush 6, 2) := by decide +kernel
theorem dX2_init_31 : decode cX2_init 31 = .ok (.newarray .int, 2) := by decide +kernel
theorem dX2_init_33 : decode cX2_init 33 = .ok (.putfield 19, 3) := by decide +kernel
theorem dX2_init_36 : decode cX2_init 36 = .ok (.aload_n 0, 1) := by decide +kernel
theorem dX2_init_37 : decode cX2_init 37 = .ok (.bipush 6, 2) := by decide +kernel
theorem dX2_init_39 : decode cX2_init 39 = .ok (.newarray .int, 2) := by decide +kernel
theorem dX2_init_41 : decode cX2_init 41 = .ok (.putfield 22, 3) := by decide +kernel
theorem dX2_init_44 : decode cX2_init 44 = .ok (.aload_n 0, 1) := by decide +kernel
theorem dX2_init_45 : decode cX2_init 45 = .ok (.bipush 36, 2) := by decide +kernel
theorem dX2_init_47 : decode cX2_init 47 = .ok (.newarray .boolean, 2) := by decide +kernel
theorem dX2_init_49 : decode cX2_init 49 = .ok (.putfield 25, 3) := by decide +kernel
theorem dX2_init_52 : decode cX2_init 52 = .ok (.aload_n 0, 1) := by decide +kernel
theorem dX2_init_53 : decode cX2_init 53 = .ok (.bipush 6, 2) := by decide +kernel
theorem dX2_init_55 : decode cX2_init 55 = .ok (.newarray .int, 2) := by decide +kernel
theorem dX2_init_57 : decode cX2_init 57 = .ok (.putfield 29, 3) := by decide +kernel
theorem dX2_init_60 : decode cX2_init 60 = .ok (.aload_n 0, 1) := by decide +kernel
theorem dX2_init_61 : decode cX2_init 61 = .ok (.bipush 64, 2) := by decide +kernel
theorem dX2_init_63 : decode cX2_init 63 = .ok (.newarray .int, 2) := by decide +kernel
theorem dX2_init_65 : decode cX2_init 65 = .ok (.putfield 32, 3) := by decide +kernel
theorem dX2_init_68 : decode cX2_init 68 = .ok (.aload_n 0, 1) := by decide +kernel
theorem dX2_init_69 : decode cX2_init 69 = .ok (.bipush 64, 2) := by decide +kernel
theorem dX2_init_71 : decode cX2_init 71 = .ok (.newarray .boolean, 2) := by decide +kernel
theorem dX2_init_73 : decode cX2_init 73 = .ok (.putfield 35, 3) := by decide +kernel
theorem dX2_init_76 : decode cX2_init 76 = .ok (.return_, 1) := by decide +kernel
theorem dX2_thrown_0 : decode cX2_thrown 0 = .ok (.aload_n 0, 1) := by decide +kernel
theorem dX2_thrown_1 : decode cX2_thrown 1 = .ok (.getfield 38, 3) := by decide +kernel
theorem dX2_thrown_4 : decode cX2_thrown 4 = .ok (.ireturn, 1) := by decide +kernel
theorem dX2_fail_0 : decode cX2_fail 0 = .ok (.aload_n 0, 1) := by decide +kernel
theorem dX2_fail_1 : decode cX2_fail 1 = .ok (.iload_n 1, 1) := by decide +kernel
theorem dX2_fail_2 : decode cX2_fail 2 = .ok (.putfield 38, 3) := by decide +kernel
theorem dX2_fail_5 : decode cX2_fail 5 = .ok (.iconst 0, 1) := by decide +kernel
theorem dX2_fail_6 : decode cX2_fail 6 = .ok (.ireturn, 1) := by decide +kernel
theorem dX2_isLiteral_0 : decode cX2_isLiteral 0 = .ok (.iload_n 0, 1) := by decide +kernel
theorem dX2_isLiteral_1 : decode cX2_isLiteral 1 = .ok (.ifCond .lt 13, 3) := by decide +kernel
theorem dX2_isLiteral_4 : decode cX2_isLiteral 4 = .ok (.iload_n 0, 1) := by decide +kernel
theorem dX2_isLiteral_5 : decode cX2_isLiteral 5 = .ok (.bipush 16, 2) := by decide +kernel
theorem dX2_isLiteral_7 : decode cX2_isLiteral 7 = .ok (.if_icmp .ge 7, 3) := by decide +kernel
theorem dX2_isLiteral_10 : decode cX2_isLiteral 10 = .ok (.iconst 1, 1) := by decide +kernel
theorem dX2_isLiteral_11 : decode cX2_isLiteral 11 = .ok (.goto 4, 3) := by decide +kernel
theorem dX2_isLiteral_14 : decode cX2_isLiteral 14 = .ok (.iconst 0, 1) := by decide +kernel
theorem dX2_isLiteral_15 : decode cX2_isLiteral 15 = .ok (.ireturn, 1) := by decide +kernel
theorem dX2_isSet_0 : decode cX2_isSet 0 = .ok (.iload_n 0, 1) := by decide +kernel
theorem dX2_isSet_1 : decode cX2_isSet 1 = .ok (.ifCond .lt 13, 3) := by decide +kernel
theorem dX2_isSet_4 : decode cX2_isSet 4 = .ok (.iload_n 0, 1) := by decide +kernel
theorem dX2_isSet_5 : decode cX2_isSet 5 = .ok (.ldc 42, 2) := by decide +kernel
theorem dX2_isSet_7 : decode cX2_isSet 7 = .ok (.if_icmp .gt 7, 3) := by decide +kernel
theorem dX2_isSet_10 : decode cX2_isSet 10 = .ok (.iconst 1, 1) := by decide +kernel
theorem dX2_isSet_11 : decode cX2_isSet 11 = .ok (.goto 4, 3) := by decide +kernel
theorem dX2_isSet_14 : decode cX2_isSet 14 = .ok (.iconst 0, 1) := by decide +kernel
theorem dX2_isSet_15 : decode cX2_isSet 15 = .ok (.ireturn, 1) := by decide +kernel
theorem dX2_isDefault_0 : decode cX2_isDefault 0 = .ok (.iload_n 1, 1) := by decide +kernel
theorem dX2_isDefault_1 : decode cX2_isDefault 1 = .ok (.ifCond .lt 15, 3) := by decide +kernel
theorem dX2_isDefault_4 : decode cX2_isDefault 4 = .ok (.iload_n 1, 1) := by decide +kernel
theorem dX2_isDefault_5 : decode cX2_isDefault 5 = .ok (.aload_n 0, 1) := by decide +kernel
theorem dX2_isDefault_6 : decode cX2_isDefault 6 = .ok (.getfield 43, 3) := by decide +kernel
theorem dX2_isDefault_9 : decode cX2_isDefault 9 = .ok (.if_icmp .ge 7, 3) := by decide +kernel
theorem dX2_isDefault_12 : decode cX2_isDefault 12 = .ok (.iconst 1, 1) := by decide +kernel
theorem dX2_isDefault_13 : decode cX2_isDefault 13 = .ok (.goto 4, 3) := by decide +kernel
theorem dX2_isDefault_16 : decode cX2_isDefault 16 = .ok (.iconst 0, 1) := by decide +kernel
theorem dX2_isDefault_17 : decode cX2_isDefault 17 = .ok (.ireturn, 1) := by decide +kernel
set_option maxRecDepth 20000 in
theorem ggX2_setFact_X2_isLiteral : GoodIn wsX2_setFact wsX2_isLiteral := goodIn_r _ [6] (by decide +kernel) (by decide +kernel)
set_option maxRecDepth 20000 in
theorem gX2_setFact_X2_isLiteral : GoodIn wsX2_setFact (va_wsS RX2 46 yX2_isLiteral wsX2_isLiteral) := goodIn_app (goodIn_of _ (by decide +kernel)) ggX2_setFact_X2_isLiteral
theorem dX2_setFact_0 : decode cX2_setFact 0 = .ok (.aload_n 0, 1) := by decide +kernel
theorem dX2_setFact_1 : decode cX2_setFact 1 = .ok (.iload_n 1, 1) := by decide +kernel
theorem dX2_setFact_2 : decode cX2_setFact 2 = .ok (.invokestatic 46, 3) := by decide +kernel
theorem dX2_setFact_5 : decode cX2_setFact 5 = .ok (.ifCond .eq 7, 3) := by decide +kernel
theorem dX2_setFact_8 : decode cX2_setFact 8 = .ok (.iconst 0, 1) := by decide +kernel
theorem dX2_setFact_9 : decode cX2_setFact 9 = .ok (.goto 4, 3) := by decide +kernel
theorem dX2_setFact_12 : decode cX2_setFact 12 = .ok (.iconst 1, 1) := by decide +kernel
theorem dX2_setFact_13 : decode cX2_setFact 13 = .ok (.putfield 38, 3) := by decide +kernel
theorem dX2_setFact_16 : decode cX2_setFact 16 = .ok (.aload_n 0, 1) := by decide +kernel
theorem dX2_setFact_17 : decode cX2_setFact 17 = .ok (.getfield 38, 3) := by decide +kernel
theorem dX2_setFact_20 : decode cX2_setFact 20 = .ok (.ifCond .eq 5, 3) := by decide +kernel
end
section
theorem dX2_setFact_23 : decode cX2_setFact 23 = .ok (.iconst 0, 1) := by decide +kernel
theorem dX2_setFact_24 : decode cX2_setFact 24 = .ok (.ireturn, 1) := by decide +kernel
theorem dX2_setFact_25 : decode cX2_setFact 25 = .ok (.aload_n 0, 1) := by decide +kernel
theorem dX2_setFact_26 : decode cX2_setFact 26 = .ok (.getfield 50, 3) := by decide +kernel
theorem dX2_setFact_29 : decode cX2_setFact 29 = .ok (.iload_n 1, 1) := by decide +kernel
theorem dX2_setFact_30 : decode cX2_setFact 30 = .ok (.ishr, 1) := by decide +kernel
theorem dX2_setFact_31 : decode cX2_setFact 31 = .ok (.iconst 1, 1) := by decide +kernel
theorem dX2_setFact_32 : decode cX2_setFact 32 = .ok (.iand, 1) := by decide +kernel
theorem dX2_setFact_33 : decode cX2_setFact 33 = .ok (.iconst 1, 1) := by decide +kernel
theorem dX2_setFact_34 : decode cX2_setFact 34 = .ok (.if_icmp .ne 7, 3) := by decide +kernel
theorem dX2_setFact_37 : decode cX2_setFact 37 = .ok (.iconst 1, 1) := by decide +kernel
theorem dX2_setFact_38 : decode cX2_setFact 38 = .ok (.goto 4, 3) := by decide +kernel
theorem dX2_setFact_41 : decode cX2_setFact 41 = .ok (.iconst 0, 1) := by decide +kernel
theorem dX2_setFact_42 : decode cX2_setFact 42 = .ok (.istore_n 3, 1) := by decide +kernel
theorem dX2_setFact_43 : decode cX2_setFact 43 = .ok (.aload_n 0, 1) := by decide +kernel
theorem dX2_setFact_44 : decode cX2_setFact 44 = .ok (.iload_n 2, 1) := by decide +kernel
theorem dX2_setFact_45 : decode cX2_setFact 45 = .ok (.ifCond .eq 14, 3) := by decide +kernel
theorem dX2_setFact_48 : decode cX2_setFact 48 = .ok (.aload_n 0, 1) := by decide +kernel
theorem dX2_setFact_49 : decode cX2_setFact 49 = .ok (.getfield 50, 3) := by decide +kernel
theorem dX2_setFact_52 : decode cX2_setFact 52 = .ok (.iconst 1, 1) := by decide +kernel
theorem dX2_setFact_53 : decode cX2_setFact 53 = .ok (.iload_n 1, 1) := by decide +kernel
theorem dX2_setFact_54 : decode cX2_setFact 54 = .ok (.ishl, 1) := by decide +kernel
theorem dX2_setFact_55 : decode cX2_setFact 55 = .ok (.ior, 1) := by decide +kernel
theorem dX2_setFact_56 : decode cX2_setFact 56 = .ok (.goto 13, 3) := by decide +kernel
theorem dX2_setFact_59 : decode cX2_setFact 59 = .ok (.aload_n 0, 1) := by decide +kernel
theorem dX2_setFact_60 : decode cX2_setFact 60 = .ok (.getfield 50, 3) := by decide +kernel
theorem dX2_setFact_63 : decode cX2_setFact 63 = .ok (.iconst 1, 1) := by decide +kernel
theorem dX2_setFact_64 : decode cX2_setFact 64 = .ok (.iload_n 1, 1) := by decide +kernel
theorem dX2_setFact_65 : decode cX2_setFact 65 = .ok (.ishl, 1) := by decide +kernel
theorem dX2_setFact_66 : decode cX2_setFact 66 = .ok (.iconst (-1), 1) := by decide +kernel
theorem dX2_setFact_67 : decode cX2_setFact 67 = .ok (.ixor, 1) := by decide +kernel
theorem dX2_setFact_68 : decode cX2_setFact 68 = .ok (.iand, 1) := by decide +kernel
theorem dX2_setFact_69 : decode cX2_setFact 69 = .ok (.putfield 50, 3) := by decide +kernel
theorem dX2_setFact_72 : decode cX2_setFact 72 = .ok (.iload_n 3, 1) := by decide +kernel
theorem dX2_setFact_73 : decode cX2_setFact 73 = .ok (.ireturn, 1) := by decide +kernel
set_option maxRecDepth 20000 in
theorem ggX2_addRule_X2_isLiteral : GoodIn wsX2_addRule wsX2_isLiteral := goodIn_r _ [8] (by decide +kernel) (by decide +kernel)
set_option maxRecDepth 20000 in
theorem gX2_addRule_X2_isLiteral : GoodIn wsX2_addRule (va_wsS RX2 46 yX2_isLiteral wsX2_isLiteral) := goodIn_app (goodIn_of _ (by decide +kernel)) ggX2_addRule_X2_isLiteral
set_option maxRecDepth 20000 in
theorem ggX2_addRule_X2_fail : GoodIn wsX2_addRule wsX2_fail := goodIn_r _ [12, 1, 17, 18, 19, 20, 21, 22, 23, 24, 25, 26, 27, 28, 29, 30, 31] (by decide +kernel) (by decide +kernel)
set_option maxRecDepth 20000 in
theorem gX2_addRule_X2_fail : GoodIn wsX2_addRule (wsV RX2 53 RX2 yX2_fail wsX2_fail) := goodIn_app (goodIn_of _ (by decide +kernel)) ggX2_addRule_X2_fail
set_option maxRecDepth 20000 in
theorem ggX2_addRule_X2_isSet : GoodIn wsX2_addRule wsX2_isSet := goodIn_r _ [15, 16] (by decide +kernel) (by decide +kernel)
set_option maxRecDepth 20000 in
theorem gX2_addRule_X2_isSet : GoodIn wsX2_addRule (va_wsS RX2 57 yX2_isSet wsX2_isSet) := goodIn_app (goodIn_of _ (by decide +kernel)) ggX2_addRule_X2_isSet
theorem dX2_addRule_0 : decode cX2_addRule 0 = .ok (.aload_n 0, 1) := by decide +kernel
theorem dX2_addRule_1 : decode cX2_addRule 1 = .ok (.iconst 0, 1) := by decide +kernel
theorem dX2_addRule_2 : decode cX2_addRule 2 = .ok (.putfield 38, 3) := by decide +kernel
theorem dX2_addRule_5 : decode cX2_addRule 5 = .ok (.iload_n 2, 1) := by decide +kernel
theorem dX2_addRule_6 : decode cX2_addRule 6 = .ok (.invokestatic 46, 3) := by decide +kernel
theorem dX2_addRule_9 : decode cX2_addRule 9 = .ok (.ifCond .ne 9, 3) := by decide +kernel
theorem dX2_addRule_12 : decode cX2_addRule 12 = .ok (.aload_n 0, 1) := by decide +kernel
theorem dX2_addRule_13 : decode cX2_addRule 13 = .ok (.iconst 1, 1) := by decide +kernel
theorem dX2_addRule_14 : decode cX2_addRule 14 = .ok (.invokevirtual 53, 3) := by decide +kernel
theorem dX2_addRule_17 : decode cX2_addRule 17 = .ok (.ireturn, 1) := by decide +kernel
theorem dX2_addRule_18 : decode cX2_addRule 18 = .ok (.iload_n 1, 1) := by decide +kernel
theorem dX2_addRule_19 : decode cX2_addRule 19 = .ok (.invokestatic 57, 3) := by decide +kernel
theorem dX2_addRule_22 : decode cX2_addRule 22 = .ok (.ifCond .ne 9, 3) := by decide +kernel
theorem dX2_addRule_25 : decode cX2_addRule 25 = .ok (.aload_n 0, 1) := by decide +kernel
theorem dX2_addRule_26 : decode cX2_addRule 26 = .ok (.iconst 2, 1) := by decide +kernel
theorem dX2_addRule_27 : decode cX2_addRule 27 = .ok (.invokevirtual 53, 3) := by decide +kernel
theorem dX2_addRule_30 : decode cX2_addRule 30 = .ok (.ireturn, 1) := by decide +kernel
theorem dX2_addRule_31 : decode cX2_addRule 31 = .ok (.aload_n 0, 1) := by decide +kernel
theorem dX2_addRule_32 : decode cX2_addRule 32 = .ok (.getfield 60, 3) := by decide +kernel
theorem dX2_addRule_35 : decode cX2_addRule 35 = .ok (.bipush 16, 2) := by decide +kernel
theorem dX2_addRule_37 : decode cX2_addRule 37 = .ok (.if_icmp .ne 9, 3) := by decide +kernel
theorem dX2_addRule_40 : decode cX2_addRule 40 = .ok (.aload_n 0, 1) := by decide +kernel
theorem dX2_addRule_41 : decode cX2_addRule 41 = .ok (.iconst 3, 1) := by decide +kernel
theorem dX2_addRule_42 : decode cX2_addRule 42 = .ok (.invokevirtual 53, 3) := by decide +kernel
theorem dX2_addRule_45 : decode cX2_addRule 45 = .ok (.ireturn, 1) := by decide +kernel
theorem dX2_addRule_46 : decode cX2_addRule 46 = .ok (.aload_n 0, 1) := by decide +kernel
theorem dX2_addRule_47 : decode cX2_addRule 47 = .ok (.getfield 9, 3) := by decide +kernel
theorem dX2_addRule_50 : decode cX2_addRule 50 = .ok (.aload_n 0, 1) := by decide +kernel
theorem dX2_addRule_51 : decode cX2_addRule 51 = .ok (.getfield 60, 3) := by decide +kernel
theorem dX2_addRule_54 : decode cX2_addRule 54 = .ok (.iload_n 1, 1) := by decide +kernel
theorem dX2_addRule_55 : decode cX2_addRule 55 = .ok (.iastore, 1) := by decide +kernel
theorem dX2_addRule_56 : decode cX2_addRule 56 = .ok (.aload_n 0, 1) := by decide +kernel
theorem dX2_addRule_57 : decode cX2_addRule 57 = .ok (.getfield 13, 3) := by decide +kernel
theorem dX2_addRule_60 : decode cX2_addRule 60 = .ok (.aload_n 0, 1) := by decide +kernel
theorem dX2_addRule_61 : decode cX2_addRule 61 = .ok (.getfield 60, 3) := by decide +kernel
theorem dX2_addRule_64 : decode cX2_addRule 64 = .ok (.iload_n 2, 1) := by decide +kernel
theorem dX2_addRule_65 : decode cX2_addRule 65 = .ok (.iastore, 1) := by decide +kernel
theorem dX2_addRule_66 : decode cX2_addRule 66 = .ok (.aload_n 0, 1) := by decide +kernel
theorem dX2_addRule_67 : decode cX2_addRule 67 = .ok (.dup, 1) := by decide +kernel
theorem dX2_addRule_68 : decode cX2_addRule 68 = .ok (.getfield 60, 3) := by decide +kernel
theorem dX2_addRule_71 : decode cX2_addRule 71 = .ok (.iconst 1, 1) := by decide +kernel
theorem dX2_addRule_72 : decode cX2_addRule 72 = .ok (.iadd, 1) := by decide +kernel
theorem dX2_addRule_73 : decode cX2_addRule 73 = .ok (.putfield 60, 3) := by decide +kernel
theorem dX2_addRule_76 : decode cX2_addRule 76 = .ok (.aload_n 0, 1) := by decide +kernel
theorem dX2_addRule_77 : decode cX2_addRule 77 = .ok (.getfield 60, 3) := by decide +kernel
theorem dX2_addRule_80 : decode cX2_addRule 80 = .ok (.iconst 1, 1) := by decide +kernel
theorem dX2_addRule_81 : decode cX2_addRule 81 = .ok (.isub, 1) := by decide +kernel
theorem dX2_addRule_82 : decode cX2_addRule 82 = .ok (.ireturn, 1) := by decide +kernel
set_option maxRecDepth 20000 in
theorem ggX2_addDefault_X2_isLiteral : GoodIn wsX2_addDefault wsX2_isLiteral := goodIn_r _ [9] (by decide +kernel) (by decide +kernel)
set_option maxRecDepth 20000 in
theorem gX2_addDefault_X2_isLiteral : GoodIn wsX2_addDefault (va_wsS RX2 46 yX2_isLiteral wsX2_isLiteral) := goodIn_app (goodIn_of _ (by decide +kernel)) ggX2_addDefault_X2_isLiteral
set_option maxRecDepth 20000 in
theorem ggX2_addDefault_X2_fail : GoodIn wsX2_addDefault wsX2_fail := goodIn_r _ [13, 1, 18, 19, 20, 21, 22, 23, 24, 25, 26, 27, 28, 29, 30, 31, 32] (by decide +kernel) (by decide +kernel)
set_option maxRecDepth 20000 in
theorem gX2_addDefault_X2_fail : GoodIn wsX2_addDefault (wsV RX2 53 RX2 yX2_fail wsX2_fail) := goodIn_app (goodIn_of _ (by decide +kernel)) ggX2_addDefault_X2_fail
set_option maxRecDepth 20000 in
theorem ggX2_addDefault_X2_isSet : GoodIn wsX2_addDefault wsX2_isSet := goodIn_r _ [16, 17] (by decide +kernel) (by decide +kernel)
set_option maxRecDepth 20000 in
theorem gX2_addDefault_X2_isSet : GoodIn wsX2_addDefault (va_wsS RX2 57 yX2_isSet wsX2_isSet) := goodIn_app (goodIn_of _ (by decide +kernel)) ggX2_addDefault_X2_isSet
theorem dX2_addDefault_0 : decode cX2_addDefault 0 = .ok (.aload_n 0, 1) := by decide +kernel
theorem dX2_addDefault_1 : decode cX2_addDefault 1 = .ok (.iconst 0, 1) := by decide +kernel
theorem dX2_addDefault_2 : decode cX2_addDefault 2 = .ok (.putfield 38, 3) := by decide +kernel
theorem dX2_addDefault_5 : decode cX2_addDefault 5 = .ok (.iload_n 3, 1) := by decide +kernel
theorem dX2_addDefault_6 : decode cX2_addDefault 6 = .ok (.invokestatic 46, 3) := by decide +kernel
theorem dX2_addDefault_9 : decode cX2_addDefault 9 = .ok (.ifCond .ne 9, 3) := by decide +kernel
theorem dX2_addDefault_12 : decode cX2_addDefault 12 = .ok (.aload_n 0, 1) := by decide +kernel
theorem dX2_addDefault_13 : decode cX2_addDefault 13 = .ok (.iconst 1, 1) := by decide +kernel
theorem dX2_addDefault_14 : decode cX2_addDefault 14 = .ok (.invokevirtual 53, 3) := by decide +kernel
theorem dX2_addDefault_17 : decode cX2_addDefault 17 = .ok (.ireturn, 1) := by decide +kernel
theorem dX2_addDefault_18 : decode cX2_addDefault 18 = .ok (.iload_n 1, 1) := by decide +kernel
theorem dX2_addDefault_19 : decode cX2_addDefault 19 = .ok (.invokestatic 57, 3) := by decide +kernel
theorem dX2_addDefault_22 : decode cX2_addDefault 22 = .ok (.ifCond .eq 10, 3) := by decide +kernel
theorem dX2_addDefault_25 : decode cX2_addDefault 25 = .ok (.iload_n 2, 1) := by decide +kernel
theorem dX2_addDefault_26 : decode cX2_addDefault 26 = .ok (.invokestatic 57, 3) := by decide +kernel
theorem dX2_addDefault_29 : decode cX2_addDefault 29 = .ok (.ifCond .ne 9, 3) := by decide +kernel
theorem dX2_addDefault_32 : decode cX2_addDefault 32 = .ok (.aload_n 0, 1) := by decide +kernel
theorem dX2_addDefault_33 : decode cX2_addDefault 33 = .ok (.iconst 2, 1) := by decide +kernel
theorem dX2_addDefault_34 : decode cX2_addDefault 34 = .ok (.invokevirtual 53, 3) := by decide +kernel
theorem dX2_addDefault_37 : decode cX2_addDefault 37 = .ok (.ireturn, 1) := by decide +kernel
theorem dX2_addDefault_38 : decode cX2_addDefault 38 = .ok (.aload_n 0, 1) := by decide +kernel
theorem dX2_addDefault_39 : decode cX2_addDefault 39 = .ok (.getfield 43, 3) := by decide +kernel
theorem dX2_addDefault_42 : decode cX2_addDefault 42 = .ok (.bipush 6, 2) := by decide +kernel
theorem dX2_addDefault_44 : decode cX2_addDefault 44 = .ok (.if_icmp .ne 9, 3) := by decide +kernel
theorem dX2_addDefault_47 : decode cX2_addDefault 47 = .ok (.aload_n 0, 1) := by decide +kernel
theorem dX2_addDefault_48 : decode cX2_addDefault 48 = .ok (.iconst 3, 1) := by decide +kernel
theorem dX2_addDefault_49 : decode cX2_addDefault 49 = .ok (.invokevirtual 53, 3) := by decide +kernel
theorem dX2_addDefault_52 : decode cX2_addDefault 52 = .ok (.ireturn, 1) := by decide +kernel
theorem dX2_addDefault_53 : decode cX2_addDefault 53 = .ok (.aload_n 0, 1) := by decide +kernel
theorem dX2_addDefault_54 : decode cX2_addDefault 54 = .ok (.getfield 16, 3) := by decide +kernel
theorem dX2_addDefault_57 : decode cX2_addDefault 57 = .ok (.aload_n 0, 1) := by decide +kernel
theorem dX2_addDefault_58 : decode cX2_addDefault 58 = .ok (.getfield 43, 3) := by decide +kernel
theorem dX2_addDefault_61 : decode cX2_addDefault 61 = .ok (.iload_n 1, 1) := by decide +kernel
theorem dX2_addDefault_62 : decode cX2_addDefault 62 = .ok (.iastore, 1) := by decide +kernel
theorem dX2_addDefault_63 : decode cX2_addDefault 63 = .ok (.aload_n 0, 1) := by decide +kernel
theorem dX2_addDefault_64 : decode cX2_addDefault 64 = .ok (.getfield 19, 3) := by decide +kernel
theorem dX2_addDefault_67 : decode cX2_addDefault 67 = .ok (.aload_n 0, 1) := by decide +kernel
theorem dX2_addDefault_68 : decode cX2_addDefault 68 = .ok (.getfield 43, 3) := by decide +kernel
theorem dX2_addDefault_71 : decode cX2_addDefault 71 = .ok (.iload_n 2, 1) := by decide +kernel
theorem dX2_addDefault_72 : decode cX2_addDefault 72 = .ok (.iastore, 1) := by decide +kernel
theorem dX2_addDefault_73 : decode cX2_addDefault 73 = .ok (.aload_n 0, 1) := by decide +kernel
theorem dX2_addDefault_74 : decode cX2_addDefault 74 = .ok (.getfield 22, 3) := by decide +kernel
theorem dX2_addDefault_77 : decode cX2_addDefault 77 = .ok (.aload_n 0, 1) := by decide +kernel
theorem dX2_addDefault_78 : decode cX2_addDefault 78 = .ok (.getfield 43, 3) := by decide +kernel
theorem dX2_addDefault_81 : decode cX2_addDefault 81 = .ok (.iload_n 3, 1) := by decide +kernel
theorem dX2_addDefault_82 : decode cX2_addDefault 82 = .ok (.iastore, 1) := by decide +kernel
theorem dX2_addDefault_83 : decode cX2_addDefault 83 = .ok (.aload_n 0, 1) := by decide +kernel
theorem dX2_addDefault_84 : decode cX2_addDefault 84 = .ok (.dup, 1) := by decide +kernel
theorem dX2_addDefault_85 : decode cX2_addDefault 85 = .ok (.getfield 43, 3) := by decide +kernel
theorem dX2_addDefault_88 : decode cX2_addDefault 88 = .ok (.iconst 1, 1) := by decide +kernel
theorem dX2_addDefault_89 : decode cX2_addDefault 89 = .ok (.iadd, 1) := by decide +kernel
theorem dX2_addDefault_90 : decode cX2_addDefault 90 = .ok (.putfield 43, 3) := by decide +kernel
theorem dX2_addDefault_93 : decode cX2_addDefault 93 = .ok (.aload_n 0, 1) := by decide +kernel
theorem dX2_addDefault_94 : decode cX2_addDefault 94 = .ok (.getfield 43, 3) := by decide +kernel
theorem dX2_addDefault_97 : decode cX2_addDefault 97 = .ok (.iconst 1, 1) := by decide +kernel
theorem dX2_addDefault_98 : decode cX2_addDefault 98 = .ok (.isub, 1) := by decide +kernel
theorem dX2_addDefault_99 : decode cX2_addDefault 99 = .ok (.ireturn, 1) := by decide +kernel
set_option maxRecDepth 20000 in
theorem ggX2_dropRule_X2_fail : GoodIn wsX2_dropRule wsX2_fail := goodIn_r _ [7, 1, 8, 9, 10, 11, 12, 13, 14, 15, 16, 17, 18, 19, 20, 21, 22] (by decide +kernel) (by decide +kernel)
set_option maxRecDepth 20000 in
theorem gX2_dropRule_X2_fail : GoodIn wsX2_dropRule (wsV RX2 53 RX2 yX2_fail wsX2_fail) := goodIn_app (goodIn_of _ (by decide +kernel)) ggX2_dropRule_X2_fail
theorem dX2_dropRule_0 : decode cX2_dropRule 0 = .ok (.aload_n 0, 1) := by decide +kernel
theorem dX2_dropRule_1 : decode cX2_dropRule 1 = .ok (.iconst 0, 1) := by decide +kernel
theorem dX2_dropRule_2 : decode cX2_dropRule 2 = .ok (.putfield 38, 3) := by decide +kernel
theorem dX2_dropRule_5 : decode cX2_dropRule 5 = .ok (.aload_n 0, 1) := by decide +kernel
theorem dX2_dropRule_6 : decode cX2_dropRule 6 = .ok (.getfield 60, 3) := by decide +kernel
theorem dX2_dropRule_9 : decode cX2_dropRule 9 = .ok (.ifCond .ne 9, 3) := by decide +kernel
theorem dX2_dropRule_12 : decode cX2_dropRule 12 = .ok (.aload_n 0, 1) := by decide +kernel
theorem dX2_dropRule_13 : decode cX2_dropRule 13 = .ok (.iconst 1, 1) := by decide +kernel
theorem dX2_dropRule_14 : decode cX2_dropRule 14 = .ok (.invokevirtual 53, 3) := by decide +kernel
theorem dX2_dropRule_17 : decode cX2_dropRule 17 = .ok (.ireturn, 1) := by decide +kernel
theorem dX2_dropRule_18 : decode cX2_dropRule 18 = .ok (.aload_n 0, 1) := by decide +kernel
theorem dX2_dropRule_19 : decode cX2_dropRule 19 = .ok (.dup, 1) := by decide +kernel
theorem dX2_dropRule_20 : decode cX2_dropRule 20 = .ok (.getfield 60, 3) := by decide +kernel
theorem dX2_dropRule_23 : decode cX2_dropRule 23 = .ok (.iconst 1, 1) := by decide +kernel
theorem dX2_dropRule_24 : decode cX2_dropRule 24 = .ok (.isub, 1) := by decide +kernel
theorem dX2_dropRule_25 : decode cX2_dropRule 25 = .ok (.putfield 60, 3) := by decide +kernel
theorem dX2_dropRule_28 : decode cX2_dropRule 28 = .ok (.aload_n 0, 1) := by decide +kernel
theorem dX2_dropRule_29 : decode cX2_dropRule 29 = .ok (.getfield 60, 3) := by decide +kernel
theorem dX2_dropRule_32 : decode cX2_dropRule 32 = .ok (.ireturn, 1) := by decide +kernel
set_option maxRecDepth 20000 in
theorem ggX2_dropDefault_X2_fail : GoodIn wsX2_dropDefault wsX2_fail := goodIn_r _ [8, 1, 9, 10, 11, 12, 13, 14, 15, 16, 17, 18, 19, 20, 21, 22, 23] (by decide +kernel) (by decide +kernel)
set_option maxRecDepth 20000 in
theorem gX2_dropDefault_X2_fail : GoodIn wsX2_dropDefault (wsV RX2 53 RX2 yX2_fail wsX2_fail) := goodIn_app (goodIn_of _ (by decide +kernel)) ggX2_dropDefault_X2_fail
theorem dX2_dropDefault_0 : decode cX2_dropDefault 0 = .ok (.aload_n 0, 1) := by decide +kernel
theorem dX2_dropDefault_1 : decode cX2_dropDefault 1 = .ok (.iconst 0, 1) := by decide +kernel
theorem dX2_dropDefault_2 : decode cX2_dropDefault 2 = .ok (.putfield 38, 3) := by decide +kernel
theorem dX2_dropDefault_5 : decode cX2_dropDefault 5 = .ok (.aload_n 0, 1) := by decide +kernel
theorem dX2_dropDefault_6 : decode cX2_dropDefault 6 = .ok (.getfield 43, 3) := by decide +kernel
theorem dX2_dropDefault_9 : decode cX2_dropDefault 9 = .ok (.ifCond .ne 9, 3) := by decide +kernel
theorem dX2_dropDefault_12 : decode cX2_dropDefault 12 = .ok (.aload_n 0, 1) := by decide +kernel
theorem dX2_dropDefault_13 : decode cX2_dropDefault 13 = .ok (.iconst 1, 1) := by decide +kernel
theorem dX2_dropDefault_14 : decode cX2_dropDefault 14 = .ok (.invokevirtual 53, 3) := by decide +kernel
theorem dX2_dropDefault_17 : decode cX2_dropDefault 17 = .ok (.ireturn, 1) := by decide +kernel
theorem dX2_dropDefault_18 : decode cX2_dropDefault 18 = .ok (.aload_n 0, 1) := by decide +kernel
theorem dX2_dropDefault_19 : decode cX2_dropDefault 19 = .ok (.dup, 1) := by decide +kernel
theorem dX2_dropDefault_20 : decode cX2_dropDefault 20 = .ok (.getfield 43, 3) := by decide +kernel
theorem dX2_dropDefault_23 : decode cX2_dropDefault 23 = .ok (.iconst 1, 1) := by decide +kernel
theorem dX2_dropDefault_24 : decode cX2_dropDefault 24 = .ok (.isub, 1) := by decide +kernel
theorem dX2_dropDefault_25 : decode cX2_dropDefault 25 = .ok (.putfield 43, 3) := by decide +kernel
theorem dX2_dropDefault_28 : decode cX2_dropDefault 28 = .ok (.iconst 0, 1) := by decide +kernel
theorem dX2_dropDefault_29 : decode cX2_dropDefault 29 = .ok (.istore_n 1, 1) := by decide +kernel
theorem dX2_dropDefault_30 : decode cX2_dropDefault 30 = .ok (.iload_n 1, 1) := by decide +kernel
theorem dX2_dropDefault_31 : decode cX2_dropDefault 31 = .ok (.bipush 6, 2) := by decide +kernel
theorem dX2_dropDefault_33 : decode cX2_dropDefault 33 = .ok (.if_icmp .ge 39, 3) := by decide +kernel
theorem dX2_dropDefault_36 : decode cX2_dropDefault 36 = .ok (.aload_n 0, 1) := by decide +kernel
theorem dX2_dropDefault_37 : decode cX2_dropDefault 37 = .ok (.getfield 25, 3) := by decide +kernel
theorem dX2_dropDefault_40 : decode cX2_dropDefault 40 = .ok (.bipush 6, 2) := by decide +kernel
theorem dX2_dropDefault_42 : decode cX2_dropDefault 42 = .ok (.aload_n 0, 1) := by decide +kernel
theorem dX2_dropDefault_43 : decode cX2_dropDefault 43 = .ok (.getfield 43, 3) := by decide +kernel
theorem dX2_dropDefault_46 : decode cX2_dropDefault 46 = .ok (.imul, 1) := by decide +kernel
theorem dX2_dropDefault_47 : decode cX2_dropDefault 47 = .ok (.iload_n 1, 1) := by decide +kernel
theorem dX2_dropDefault_48 : decode cX2_dropDefault 48 = .ok (.iadd, 1) := by decide +kernel
theorem dX2_dropDefault_49 : decode cX2_dropDefault 49 = .ok (.aload_n 0, 1) := by decide +kernel
theorem dX2_dropDefault_50 : decode cX2_dropDefault 50 = .ok (.getfield 25, 3) := by decide +kernel
theorem dX2_dropDefault_53 : decode cX2_dropDefault 53 = .ok (.bipush 6, 2) := by decide +kernel
theorem dX2_dropDefault_55 : decode cX2_dropDefault 55 = .ok (.iload_n 1, 1) := by decide +kernel
theorem dX2_dropDefault_56 : decode cX2_dropDefault 56 = .ok (.imul, 1) := by decide +kernel
theorem dX2_dropDefault_57 : decode cX2_dropDefault 57 = .ok (.aload_n 0, 1) := by decide +kernel
theorem dX2_dropDefault_58 : decode cX2_dropDefault 58 = .ok (.getfield 43, 3) := by decide +kernel
theorem dX2_dropDefault_61 : decode cX2_dropDefault 61 = .ok (.iadd, 1) := by decide +kernel
theorem dX2_dropDefault_62 : decode cX2_dropDefault 62 = .ok (.iconst 0, 1) := by decide +kernel
theorem dX2_dropDefault_63 : decode cX2_dropDefault 63 = .ok (.dup_x2, 1) := by decide +kernel
theorem dX2_dropDefault_64 : decode cX2_dropDefault 64 = .ok (.bastore, 1) := by decide +kernel
theorem dX2_dropDefault_65 : decode cX2_dropDefault 65 = .ok (.bastore, 1) := by decide +kernel
theorem dX2_dropDefault_66 : decode cX2_dropDefault 66 = .ok (.iinc 1 1, 3) := by decide +kernel
theorem dX2_dropDefault_69 : decode cX2_dropDefault 69 = .ok (.goto (-39), 3) := by decide +kernel
theorem dX2_dropDefault_72 : decode cX2_dropDefault 72 = .ok (.aload_n 0, 1) := by decide +kernel
theorem dX2_dropDefault_73 : decode cX2_dropDefault 73 = .ok (.getfield 43, 3) := by decide +kernel
theorem dX2_dropDefault_76 : decode cX2_dropDefault 76 = .ok (.ireturn, 1) := by decide +kernel
set_option maxRecDepth 20000 in
theorem ggX2_leads_X2_leads : GoodIn wsX2_leads wsX2_leads := goodIn_r _ [0, 1, 2, 3, 4, 5, 6, 7, 8, 9, 10, 11, 12, 13, 14, 15, 16, 17, 18, 19, 20, 21] (by decide +kernel) (by decide +kernel)
set_option maxRecDepth 20000 in
theorem gX2_leads_X2_leads : GoodIn wsX2_leads (wsV RX2 63 RX2 yX2_leads wsX2_leads) := goodIn_app (goodIn_of _ (by decide +kernel)) ggX2_leads_X2_leads
theorem dX2_leads_0 : decode cX2_leads 0 = .ok (.aload_n 0, 1) := by decide +kernel
theorem dX2_leads_1 : decode cX2_leads 1 = .ok (.getfield 25, 3) := by decide +kernel
theorem dX2_leads_4 : decode cX2_leads 4 = .ok (.bipush 6, 2) := by decide +kernel
theorem dX2_leads_6 : decode cX2_leads 6 = .ok (.iload_n 1, 1) := by decide +kernel
theorem dX2_leads_7 : decode cX2_leads 7 = .ok (.imul, 1) := by decide +kernel
theorem dX2_leads_8 : decode cX2_leads 8 = .ok (.iload_n 2, 1) := by decide +kernel
theorem dX2_leads_9 : decode cX2_leads 9 = .ok (.iadd, 1) := by decide +kernel
theorem dX2_leads_10 : decode cX2_leads 10 = .ok (.baload, 1) := by decide +kernel
theorem dX2_leads_11 : decode cX2_leads 11 = .ok (.ifCond .eq 5, 3) := by decide +kernel
theorem dX2_leads_14 : decode cX2_leads 14 = .ok (.iconst 1, 1) := by decide +kernel
theorem dX2_leads_15 : decode cX2_leads 15 = .ok (.ireturn, 1) := by decide +kernel
theorem dX2_leads_16 : decode cX2_leads 16 = .ok (.iconst 0, 1) := by decide +kernel
theorem dX2_leads_17 : decode cX2_leads 17 = .ok (.istore 4, 2) := by decide +kernel
theorem dX2_leads_19 : decode cX2_leads 19 = .ok (.iload 4, 2) := by decide +kernel
theorem dX2_leads_21 : decode cX2_leads 21 = .ok (.aload_n 0, 1) := by decide +kernel
theorem dX2_leads_22 : decode cX2_leads 22 = .ok (.getfield 43, 3) := by decide +kernel
theorem dX2_leads_25 : decode cX2_leads 25 = .ok (.if_icmp .ge 44, 3) := by decide +kernel
theorem dX2_leads_28 : decode cX2_leads 28 = .ok (.iload_n 3, 1) := by decide +kernel
theorem dX2_leads_29 : decode cX2_leads 29 = .ok (.iconst 1, 1) := by decide +kernel
theorem dX2_leads_30 : decode cX2_leads 30 = .ok (.if_icmp .le 39, 3) := by decide +kernel
theorem dX2_leads_33 : decode cX2_leads 33 = .ok (.aload_n 0, 1) := by decide +kernel
theorem dX2_leads_34 : decode cX2_leads 34 = .ok (.getfield 25, 3) := by decide +kernel
theorem dX2_leads_37 : decode cX2_leads 37 = .ok (.bipush 6, 2) := by decide +kernel
theorem dX2_leads_39 : decode cX2_leads 39 = .ok (.iload_n 1, 1) := by decide +kernel
theorem dX2_leads_40 : decode cX2_leads 40 = .ok (.imul, 1) := by decide +kernel
theorem dX2_leads_41 : decode cX2_leads 41 = .ok (.iload 4, 2) := by decide +kernel
theorem dX2_leads_43 : decode cX2_leads 43 = .ok (.iadd, 1) := by decide +kernel
theorem dX2_leads_44 : decode cX2_leads 44 = .ok (.baload, 1) := by decide +kernel
theorem dX2_leads_45 : decode cX2_leads 45 = .ok (.ifCond .eq 18, 3) := by decide +kernel
theorem dX2_leads_48 : decode cX2_leads 48 = .ok (.aload_n 0, 1) := by decide +kernel
theorem dX2_leads_49 : decode cX2_leads 49 = .ok (.iload 4, 2) := by decide +kernel
theorem dX2_leads_51 : decode cX2_leads 51 = .ok (.iload_n 2, 1) := by decide +kernel
theorem dX2_leads_52 : decode cX2_leads 52 = .ok (.iload_n 3, 1) := by decide +kernel
theorem dX2_leads_53 : decode cX2_leads 53 = .ok (.iconst 1, 1) := by decide +kernel
theorem dX2_leads_54 : decode cX2_leads 54 = .ok (.isub, 1) := by decide +kernel
theorem dX2_leads_55 : decode cX2_leads 55 = .ok (.invokevirtual 63, 3) := by decide +kernel
theorem dX2_leads_58 : decode cX2_leads 58 = .ok (.ifCond .eq 5, 3) := by decide +kernel
theorem dX2_leads_61 : decode cX2_leads 61 = .ok (.iconst 1, 1) := by decide +kernel
theorem dX2_leads_62 : decode cX2_leads 62 = .ok (.ireturn, 1) := by decide +kernel
theorem dX2_leads_63 : decode cX2_leads 63 = .ok (.iinc 4 1, 3) := by decide +kernel
theorem dX2_leads_66 : decode cX2_leads 66 = .ok (.goto (-47), 3) := by decide +kernel
theorem dX2_leads_69 : decode cX2_leads 69 = .ok (.iconst 0, 1) := by decide +kernel
theorem dX2_leads_70 : decode cX2_leads 70 = .ok (.ireturn, 1) := by decide +kernel
set_option maxRecDepth 20000 in
theorem ggX2_before_X2_leads : GoodIn wsX2_before wsX2_leads := goodIn_r _ [5, 6, 7, 1, 2, 3, 4, 8, 9, 10, 11, 12, 13, 14, 15, 16, 17, 18, 19, 20, 21, 22] (by decide +kernel) (by decide +kernel)
set_option maxRecDepth 20000 in
theorem gX2_before_X2_leads : GoodIn wsX2_before (wsV RX2 63 RX2 yX2_leads wsX2_leads) := goodIn_app (goodIn_of _ (by decide +kernel)) ggX2_before_X2_leads
theorem dX2_before_0 : decode cX2_before 0 = .ok (.aload_n 0, 1) := by decide +kernel
theorem dX2_before_1 : decode cX2_before 1 = .ok (.iload_n 1, 1) := by decide +kernel
theorem dX2_before_2 : decode cX2_before 2 = .ok (.iload_n 2, 1) := by decide +kernel
theorem dX2_before_3 : decode cX2_before 3 = .ok (.bipush 6, 2) := by decide +kernel
theorem dX2_before_5 : decode cX2_before 5 = .ok (.invokevirtual 63, 3) := by decide +kernel
theorem dX2_before_8 : decode cX2_before 8 = .ok (.ireturn, 1) := by decide +kernel
set_option maxRecDepth 20000 in
theorem ggX2_prefer_X2_isDefault : GoodIn wsX2_prefer wsX2_isDefault := goodIn_r _ [7, 8, 17, 18, 19, 20, 21, 22, 23, 24, 25, 26, 27, 28, 29, 30, 31] (by decide +kernel) (by decide +kernel)
set_option maxRecDepth 20000 in
theorem gX2_prefer_X2_isDefault : GoodIn wsX2_prefer (wsV RX2 67 RX2 yX2_isDefault wsX2_isDefault) := goodIn_app (goodIn_of _ (by decide +kernel)) ggX2_prefer_X2_isDefault
set_option maxRecDepth 20000 in
theorem ggX2_prefer_X2_before : GoodIn wsX2_prefer wsX2_before := goodIn_r _ [12, 13, 14, 15, 6, 16, 2, 8, 17, 18, 19, 20, 21, 22, 23, 24, 25, 26, 27, 28, 29, 30, 31] (by decide +kernel) (by decide +kernel)
set_option maxRecDepth 20000 in
theorem gX2_prefer_X2_before : GoodIn wsX2_prefer (wsV RX2 70 RX2 yX2_before wsX2_before) := goodIn_app (goodIn_of _ (by decide +kernel)) ggX2_prefer_X2_before
theorem dX2_prefer_0 : decode cX2_prefer 0 = .ok (.aload_n 0, 1) := by decide +kernel
theorem dX2_prefer_1 : decode cX2_prefer 1 = .ok (.aload_n 0, 1) := by decide +kernel
theorem dX2_prefer_2 : decode cX2_prefer 2 = .ok (.iload_n 1, 1) := by decide +kernel
theorem dX2_prefer_3 : decode cX2_prefer 3 = .ok (.invokevirtual 67, 3) := by decide +kernel
theorem dX2_prefer_6 : decode cX2_prefer 6 = .ok (.ifCond .eq 11, 3) := by decide +kernel
theorem dX2_prefer_9 : decode cX2_prefer 9 = .ok (.aload_n 0, 1) := by decide +kernel
theorem dX2_prefer_10 : decode cX2_prefer 10 = .ok (.iload_n 2, 1) := by decide +kernel
theorem dX2_prefer_11 : decode cX2_prefer 11 = .ok (.invokevirtual 67, 3) := by decide +kernel
theorem dX2_prefer_14 : decode cX2_prefer 14 = .ok (.ifCond .ne 7, 3) := by decide +kernel
theorem dX2_prefer_17 : decode cX2_prefer 17 = .ok (.iconst 1, 1) := by decide +kernel
theorem dX2_prefer_18 : decode cX2_prefer 18 = .ok (.goto 22, 3) := by decide +kernel
theorem dX2_prefer_21 : decode cX2_prefer 21 = .ok (.iload_n 1, 1) := by decide +kernel
theorem dX2_prefer_22 : decode cX2_prefer 22 = .ok (.iload_n 2, 1) := by decide +kernel
theorem dX2_prefer_23 : decode cX2_prefer 23 = .ok (.if_icmp .eq 12, 3) := by decide +kernel
theorem dX2_prefer_26 : decode cX2_prefer 26 = .ok (.aload_n 0, 1) := by decide +kernel
theorem dX2_prefer_27 : decode cX2_prefer 27 = .ok (.iload_n 2, 1) := by decide +kernel
theorem dX2_prefer_28 : decode cX2_prefer 28 = .ok (.iload_n 1, 1) := by decide +kernel
theorem dX2_prefer_29 : decode cX2_prefer 29 = .ok (.invokevirtual 70, 3) := by decide +kernel
theorem dX2_prefer_32 : decode cX2_prefer 32 = .ok (.ifCond .eq 7, 3) := by decide +kernel
theorem dX2_prefer_35 : decode cX2_prefer 35 = .ok (.iconst 2, 1) := by decide +kernel
theorem dX2_prefer_36 : decode cX2_prefer 36 = .ok (.goto 4, 3) := by decide +kernel
theorem dX2_prefer_39 : decode cX2_prefer 39 = .ok (.iconst 0, 1) := by decide +kernel
theorem dX2_prefer_40 : decode cX2_prefer 40 = .ok (.putfield 38, 3) := by decide +kernel
theorem dX2_prefer_43 : decode cX2_prefer 43 = .ok (.aload_n 0, 1) := by decide +kernel
theorem dX2_prefer_44 : decode cX2_prefer 44 = .ok (.getfield 38, 3) := by decide +kernel
theorem dX2_prefer_47 : decode cX2_prefer 47 = .ok (.ifCond .eq 5, 3) := by decide +kernel
theorem dX2_prefer_50 : decode cX2_prefer 50 = .ok (.iconst 0, 1) := by decide +kernel
theorem dX2_prefer_51 : decode cX2_prefer 51 = .ok (.ireturn, 1) := by decide +kernel
theorem dX2_prefer_52 : decode cX2_prefer 52 = .ok (.aload_n 0, 1) := by decide +kernel
theorem dX2_prefer_53 : decode cX2_prefer 53 = .ok (.iload_n 1, 1) := by decide +kernel
theorem dX2_prefer_54 : decode cX2_prefer 54 = .ok (.iload_n 2, 1) := by decide +kernel
theorem dX2_prefer_55 : decode cX2_prefer 55 = .ok (.invokevirtual 70, 3) := by decide +kernel
theorem dX2_prefer_58 : decode cX2_prefer 58 = .ok (.istore_n 3, 1) := by decide +kernel
theorem dX2_prefer_59 : decode cX2_prefer 59 = .ok (.aload_n 0, 1) := by decide +kernel
theorem dX2_prefer_60 : decode cX2_prefer 60 = .ok (.getfield 25, 3) := by decide +kernel
theorem dX2_prefer_63 : decode cX2_prefer 63 = .ok (.bipush 6, 2) := by decide +kernel
theorem dX2_prefer_65 : decode cX2_prefer 65 = .ok (.iload_n 1, 1) := by decide +kernel
theorem dX2_prefer_66 : decode cX2_prefer 66 = .ok (.imul, 1) := by decide +kernel
theorem dX2_prefer_67 : decode cX2_prefer 67 = .ok (.iload_n 2, 1) := by decide +kernel
theorem dX2_prefer_68 : decode cX2_prefer 68 = .ok (.iadd, 1) := by decide +kernel
theorem dX2_prefer_69 : decode cX2_prefer 69 = .ok (.iconst 1, 1) := by decide +kernel
theorem dX2_prefer_70 : decode cX2_prefer 70 = .ok (.bastore, 1) := by decide +kernel
theorem dX2_prefer_71 : decode cX2_prefer 71 = .ok (.iload_n 3, 1) := by decide +kernel
theorem dX2_prefer_72 : decode cX2_prefer 72 = .ok (.ireturn, 1) := by decide +kernel
set_option maxRecDepth 20000 in
theorem ggX2_forgetPriorities_X2_before : GoodIn wsX2_forgetPriorities wsX2_before := goodIn_r _ [8, 9, 10, 11, 7, 12, 3, 2, 13, 14, 15, 16, 17, 18, 19, 20, 21, 22, 23, 24, 25, 26, 27] (by decide +kernel) (by decide +kernel)
set_option maxRecDepth 20000 in
theorem gX2_forgetPriorities_X2_before : GoodIn wsX2_forgetPriorities (wsV RX2 70 RX2 yX2_before wsX2_before) := goodIn_app (goodIn_of _ (by decide +kernel)) ggX2_forgetPriorities_X2_before
theorem dX2_forgetPriorities_0 : decode cX2_forgetPriorities 0 = .ok (.aload_n 0, 1) := by decide +kernel
theorem dX2_forgetPriorities_1 : decode cX2_forgetPriorities 1 = .ok (.iconst 0, 1) := by decide +kernel
theorem dX2_forgetPriorities_2 : decode cX2_forgetPriorities 2 = .ok (.putfield 38, 3) := by decide +kernel
theorem dX2_forgetPriorities_5 : decode cX2_forgetPriorities 5 = .ok (.iconst 0, 1) := by decide +kernel
theorem dX2_forgetPriorities_6 : decode cX2_forgetPriorities 6 = .ok (.istore_n 1, 1) := by decide +kernel
theorem dX2_forgetPriorities_7 : decode cX2_forgetPriorities 7 = .ok (.iconst 0, 1) := by decide +kernel
theorem dX2_forgetPriorities_8 : decode cX2_forgetPriorities 8 = .ok (.istore_n 2, 1) := by decide +kernel
theorem dX2_forgetPriorities_9 : decode cX2_forgetPriorities 9 = .ok (.iload_n 2, 1) := by decide +kernel
theorem dX2_forgetPriorities_10 : decode cX2_forgetPriorities 10 = .ok (.aload_n 0, 1) := by decide +kernel
theorem dX2_forgetPriorities_11 : decode cX2_forgetPriorities 11 = .ok (.getfield 43, 3) := by decide +kernel
theorem dX2_forgetPriorities_14 : decode cX2_forgetPriorities 14 = .ok (.if_icmp .ge 42, 3) := by decide +kernel
theorem dX2_forgetPriorities_17 : decode cX2_forgetPriorities 17 = .ok (.iconst 0, 1) := by decide +kernel
theorem dX2_forgetPriorities_18 : decode cX2_forgetPriorities 18 = .ok (.istore_n 3, 1) := by decide +kernel
theorem dX2_forgetPriorities_19 : decode cX2_forgetPriorities 19 = .ok (.iload_n 3, 1) := by decide +kernel
theorem dX2_forgetPriorities_20 : decode cX2_forgetPriorities 20 = .ok (.aload_n 0, 1) := by decide +kernel
theorem dX2_forgetPriorities_21 : decode cX2_forgetPriorities 21 = .ok (.getfield 43, 3) := by decide +kernel
theorem dX2_forgetPriorities_24 : decode cX2_forgetPriorities 24 = .ok (.if_icmp .ge 26, 3) := by decide +kernel
theorem dX2_forgetPriorities_27 : decode cX2_forgetPriorities 27 = .ok (.iload_n 1, 1) := by decide +kernel
theorem dX2_forgetPriorities_28 : decode cX2_forgetPriorities 28 = .ok (.aload_n 0, 1) := by decide +kernel
theorem dX2_forgetPriorities_29 : decode cX2_forgetPriorities 29 = .ok (.iload_n 2, 1) := by decide +kernel
theorem dX2_forgetPriorities_30 : decode cX2_forgetPriorities 30 = .ok (.iload_n 3, 1) := by decide +kernel
theorem dX2_forgetPriorities_31 : decode cX2_forgetPriorities 31 = .ok (.invokevirtual 70, 3) := by decide +kernel
theorem dX2_forgetPriorities_34 : decode cX2_forgetPriorities 34 = .ok (.ifCond .eq 7, 3) := by decide +kernel
theorem dX2_forgetPriorities_37 : decode cX2_forgetPriorities 37 = .ok (.iconst 1, 1) := by decide +kernel
theorem dX2_forgetPriorities_38 : decode cX2_forgetPriorities 38 = .ok (.goto 4, 3) := by decide +kernel
theorem dX2_forgetPriorities_41 : decode cX2_forgetPriorities 41 = .ok (.iconst 0, 1) := by decide +kernel
theorem dX2_forgetPriorities_42 : decode cX2_forgetPriorities 42 = .ok (.iadd, 1) := by decide +kernel
theorem dX2_forgetPriorities_43 : decode cX2_forgetPriorities 43 = .ok (.istore_n 1, 1) := by decide +kernel
theorem dX2_forgetPriorities_44 : decode cX2_forgetPriorities 44 = .ok (.iinc 3 1, 3) := by decide +kernel
theorem dX2_forgetPriorities_47 : decode cX2_forgetPriorities 47 = .ok (.goto (-28), 3) := by decide +kernel
theorem dX2_forgetPriorities_50 : decode cX2_forgetPriorities 50 = .ok (.iinc 2 1, 3) := by decide +kernel
theorem dX2_forgetPriorities_53 : decode cX2_forgetPriorities 53 = .ok (.goto (-44), 3) := by decide +kernel
theorem dX2_forgetPriorities_56 : decode cX2_forgetPriorities 56 = .ok (.iconst 0, 1) := by decide +kernel
theorem dX2_forgetPriorities_57 : decode cX2_forgetPriorities 57 = .ok (.istore_n 2, 1) := by decide +kernel
theorem dX2_forgetPriorities_58 : decode cX2_forgetPriorities 58 = .ok (.iload_n 2, 1) := by decide +kernel
theorem dX2_forgetPriorities_59 : decode cX2_forgetPriorities 59 = .ok (.bipush 36, 2) := by decide +kernel
theorem dX2_forgetPriorities_61 : decode cX2_forgetPriorities 61 = .ok (.if_icmp .ge 16, 3) := by decide +kernel
theorem dX2_forgetPriorities_64 : decode cX2_forgetPriorities 64 = .ok (.aload_n 0, 1) := by decide +kernel
theorem dX2_forgetPriorities_65 : decode cX2_forgetPriorities 65 = .ok (.getfield 25, 3) := by decide +kernel
theorem dX2_forgetPriorities_68 : decode cX2_forgetPriorities 68 = .ok (.iload_n 2, 1) := by decide +kernel
theorem dX2_forgetPriorities_69 : decode cX2_forgetPriorities 69 = .ok (.iconst 0, 1) := by decide +kernel
theorem dX2_forgetPriorities_70 : decode cX2_forgetPriorities 70 = .ok (.bastore, 1) := by decide +kernel
theorem dX2_forgetPriorities_71 : decode cX2_forgetPriorities 71 = .ok (.iinc 2 1, 3) := by decide +kernel
theorem dX2_forgetPriorities_74 : decode cX2_forgetPriorities 74 = .ok (.goto (-16), 3) := by decide +kernel
theorem dX2_forgetPriorities_77 : decode cX2_forgetPriorities 77 = .ok (.iload_n 1, 1) := by decide +kernel
theorem dX2_forgetPriorities_78 : decode cX2_forgetPriorities 78 = .ok (.ireturn, 1) := by decide +kernel
set_option maxRecDepth 20000 in
theorem ggX2_isBefore_X2_isDefault : GoodIn wsX2_isBefore wsX2_isDefault := goodIn_r _ [6, 7, 17, 18, 19, 20, 21, 22, 23, 24, 25, 26, 27, 28, 29, 30, 31] (by decide +kernel) (by decide +kernel)
set_option maxRecDepth 20000 in
theorem gX2_isBefore_X2_isDefault : GoodIn wsX2_isBefore (wsV RX2 67 RX2 yX2_isDefault wsX2_isDefault) := goodIn_app (goodIn_of _ (by decide +kernel)) ggX2_isBefore_X2_isDefault
set_option maxRecDepth 20000 in
theorem ggX2_isBefore_X2_before : GoodIn wsX2_isBefore wsX2_before := goodIn_r _ [11, 12, 13, 14, 5, 15, 16, 7, 17, 18, 19, 20, 21, 22, 23, 24, 25, 26, 27, 28, 29, 30, 31] (by decide +kernel) (by decide +kernel)
set_option maxRecDepth 20000 in
theorem gX2_isBefore_X2_before : GoodIn wsX2_isBefore (wsV RX2 70 RX2 yX2_before wsX2_before) := goodIn_app (goodIn_of _ (by decide +kernel)) ggX2_isBefore_X2_before
theorem dX2_isBefore_0 : decode cX2_isBefore 0 = .ok (.aload_n 0, 1) := by decide +kernel
theorem dX2_isBefore_1 : decode cX2_isBefore 1 = .ok (.aload_n 0, 1) := by decide +kernel
theorem dX2_isBefore_2 : decode cX2_isBefore 2 = .ok (.iload_n 1, 1) := by decide +kernel
theorem dX2_isBefore_3 : decode cX2_isBefore 3 = .ok (.invokevirtual 67, 3) := by decide +kernel
theorem dX2_isBefore_6 : decode cX2_isBefore 6 = .ok (.ifCond .eq 15, 3) := by decide +kernel
theorem dX2_isBefore_9 : decode cX2_isBefore 9 = .ok (.aload_n 0, 1) := by decide +kernel
theorem dX2_isBefore_10 : decode cX2_isBefore 10 = .ok (.iload_n 2, 1) := by decide +kernel
theorem dX2_isBefore_11 : decode cX2_isBefore 11 = .ok (.invokevirtual 67, 3) := by decide +kernel
theorem dX2_isBefore_14 : decode cX2_isBefore 14 = .ok (.ifCond .eq 7, 3) := by decide +kernel
theorem dX2_isBefore_17 : decode cX2_isBefore 17 = .ok (.iconst 0, 1) := by decide +kernel
theorem dX2_isBefore_18 : decode cX2_isBefore 18 = .ok (.goto 4, 3) := by decide +kernel
theorem dX2_isBefore_21 : decode cX2_isBefore 21 = .ok (.iconst 1, 1) := by decide +kernel
theorem dX2_isBefore_22 : decode cX2_isBefore 22 = .ok (.putfield 38, 3) := by decide +kernel
theorem dX2_isBefore_25 : decode cX2_isBefore 25 = .ok (.aload_n 0, 1) := by decide +kernel
theorem dX2_isBefore_26 : decode cX2_isBefore 26 = .ok (.getfield 38, 3) := by decide +kernel
theorem dX2_isBefore_29 : decode cX2_isBefore 29 = .ok (.ifCond .ne 16, 3) := by decide +kernel
theorem dX2_isBefore_32 : decode cX2_isBefore 32 = .ok (.aload_n 0, 1) := by decide +kernel
theorem dX2_isBefore_33 : decode cX2_isBefore 33 = .ok (.iload_n 1, 1) := by decide +kernel
theorem dX2_isBefore_34 : decode cX2_isBefore 34 = .ok (.iload_n 2, 1) := by decide +kernel
theorem dX2_isBefore_35 : decode cX2_isBefore 35 = .ok (.invokevirtual 70, 3) := by decide +kernel
theorem dX2_isBefore_38 : decode cX2_isBefore 38 = .ok (.ifCond .eq 7, 3) := by decide +kernel
theorem dX2_isBefore_41 : decode cX2_isBefore 41 = .ok (.iconst 1, 1) := by decide +kernel
theorem dX2_isBefore_42 : decode cX2_isBefore 42 = .ok (.goto 4, 3) := by decide +kernel
theorem dX2_isBefore_45 : decode cX2_isBefore 45 = .ok (.iconst 0, 1) := by decide +kernel
theorem dX2_isBefore_46 : decode cX2_isBefore 46 = .ok (.ireturn, 1) := by decide +kernel
theorem dX2_facts_0 : decode cX2_facts 0 = .ok (.aload_n 0, 1) := by decide +kernel
theorem dX2_facts_1 : decode cX2_facts 1 = .ok (.iconst 0, 1) := by decide +kernel
theorem dX2_facts_2 : decode cX2_facts 2 = .ok (.putfield 38, 3) := by decide +kernel
theorem dX2_facts_5 : decode cX2_facts 5 = .ok (.aload_n 0, 1) := by decide +kernel
theorem dX2_facts_6 : decode cX2_facts 6 = .ok (.getfield 50, 3) := by decide +kernel
theorem dX2_facts_9 : decode cX2_facts 9 = .ok (.ireturn, 1) := by decide +kernel
theorem dX2_defaultCount_0 : decode cX2_defaultCount 0 = .ok (.aload_n 0, 1) := by decide +kernel
theorem dX2_defaultCount_1 : decode cX2_defaultCount 1 = .ok (.iconst 0, 1) := by decide +kernel
theorem dX2_defaultCount_2 : decode cX2_defaultCount 2 = .ok (.putfield 38, 3) := by decide +kernel
theorem dX2_defaultCount_5 : decode cX2_defaultCount 5 = .ok (.aload_n 0, 1) := by decide +kernel
theorem dX2_defaultCount_6 : decode cX2_defaultCount 6 = .ok (.getfield 43, 3) := by decide +kernel
theorem dX2_defaultCount_9 : decode cX2_defaultCount 9 = .ok (.ireturn, 1) := by decide +kernel
theorem dX2_complements_0 : decode cX2_complements 0 = .ok (.iload_n 0, 1) := by decide +kernel
theorem dX2_complements_1 : decode cX2_complements 1 = .ok (.bipush 8, 2) := by decide +kernel
theorem dX2_complements_3 : decode cX2_complements 3 = .ok (.ishr, 1) := by decide +kernel
theorem dX2_complements_4 : decode cX2_complements 4 = .ok (.iload_n 0, 1) := by decide +kernel
theorem dX2_complements_5 : decode cX2_complements 5 = .ok (.sipush 255, 3) := by decide +kernel
theorem dX2_complements_8 : decode cX2_complements 8 = .ok (.iand, 1) := by decide +kernel
theorem dX2_complements_9 : decode cX2_complements 9 = .ok (.bipush 8, 2) := by decide +kernel
theorem dX2_complements_11 : decode cX2_complements 11 = .ok (.ishl, 1) := by decide +kernel
theorem dX2_complements_12 : decode cX2_complements 12 = .ok (.ior, 1) := by decide +kernel
theorem dX2_complements_13 : decode cX2_complements 13 = .ok (.ireturn, 1) := by decide +kernel
set_option maxRecDepth 20000 in
theorem ggX2_close_X2_complements : GoodIn wsX2_close wsX2_complements := goodIn_r _ [8] (by decide +kernel) (by decide +kernel)
set_option maxRecDepth 20000 in
theorem gX2_close_X2_complements : GoodIn wsX2_close (va_wsS RX2 74 yX2_complements wsX2_complements) := goodIn_app (goodIn_of _ (by decide +kernel)) ggX2_close_X2_complements
theorem dX2_close_0 : decode cX2_close 0 = .ok (.iload_n 1, 1) := by decide +kernel
theorem dX2_close_1 : decode cX2_close 1 = .ok (.istore_n 2, 1) := by decide +kernel
theorem dX2_close_2 : decode cX2_close 2 = .ok (.iconst (-1), 1) := by decide +kernel
theorem dX2_close_3 : decode cX2_close 3 = .ok (.istore_n 3, 1) := by decide +kernel
theorem dX2_close_4 : decode cX2_close 4 = .ok (.iload_n 2, 1) := by decide +kernel
theorem dX2_close_5 : decode cX2_close 5 = .ok (.iload_n 3, 1) := by decide +kernel
theorem dX2_close_6 : decode cX2_close 6 = .ok (.if_icmp .eq 52, 3) := by decide +kernel
theorem dX2_close_9 : decode cX2_close 9 = .ok (.iload_n 2, 1) := by decide +kernel
theorem dX2_close_10 : decode cX2_close 10 = .ok (.istore_n 3, 1) := by decide +kernel
theorem dX2_close_11 : decode cX2_close 11 = .ok (.iconst 0, 1) := by decide +kernel
theorem dX2_close_12 : decode cX2_close 12 = .ok (.istore 4, 2) := by decide +kernel
theorem dX2_close_14 : decode cX2_close 14 = .ok (.iload 4, 2) := by decide +kernel
theorem dX2_close_16 : decode cX2_close 16 = .ok (.aload_n 0, 1) := by decide +kernel
theorem dX2_close_17 : decode cX2_close 17 = .ok (.getfield 60, 3) := by decide +kernel
theorem dX2_close_20 : decode cX2_close 20 = .ok (.if_icmp .ge 35, 3) := by decide +kernel
theorem dX2_close_23 : decode cX2_close 23 = .ok (.aload_n 0, 1) := by decide +kernel
theorem dX2_close_24 : decode cX2_close 24 = .ok (.getfield 9, 3) := by decide +kernel
theorem dX2_close_27 : decode cX2_close 27 = .ok (.iload 4, 2) := by decide +kernel
theorem dX2_close_29 : decode cX2_close 29 = .ok (.iaload, 1) := by decide +kernel
theorem dX2_close_30 : decode cX2_close 30 = .ok (.iload_n 2, 1) := by decide +kernel
theorem dX2_close_31 : decode cX2_close 31 = .ok (.iconst (-1), 1) := by decide +kernel
theorem dX2_close_32 : decode cX2_close 32 = .ok (.ixor, 1) := by decide +kernel
theorem dX2_close_33 : decode cX2_close 33 = .ok (.iand, 1) := by decide +kernel
theorem dX2_close_34 : decode cX2_close 34 = .ok (.ifCond .ne 15, 3) := by decide +kernel
theorem dX2_close_37 : decode cX2_close 37 = .ok (.iload_n 2, 1) := by decide +kernel
theorem dX2_close_38 : decode cX2_close 38 = .ok (.iconst 1, 1) := by decide +kernel
theorem dX2_close_39 : decode cX2_close 39 = .ok (.aload_n 0, 1) := by decide +kernel
theorem dX2_close_40 : decode cX2_close 40 = .ok (.getfield 13, 3) := by decide +kernel
theorem dX2_close_43 : decode cX2_close 43 = .ok (.iload 4, 2) := by decide +kernel
theorem dX2_close_45 : decode cX2_close 45 = .ok (.iaload, 1) := by decide +kernel
theorem dX2_close_46 : decode cX2_close 46 = .ok (.ishl, 1) := by decide +kernel
theorem dX2_close_47 : decode cX2_close 47 = .ok (.ior, 1) := by decide +kernel
theorem dX2_close_48 : decode cX2_close 48 = .ok (.istore_n 2, 1) := by decide +kernel
theorem dX2_close_49 : decode cX2_close 49 = .ok (.iinc 4 1, 3) := by decide +kernel
theorem dX2_close_52 : decode cX2_close 52 = .ok (.goto (-38), 3) := by decide +kernel
theorem dX2_close_55 : decode cX2_close 55 = .ok (.goto (-51), 3) := by decide +kernel
theorem dX2_close_58 : decode cX2_close 58 = .ok (.iload_n 2, 1) := by decide +kernel
theorem dX2_close_59 : decode cX2_close 59 = .ok (.iload_n 2, 1) := by decide +kernel
theorem dX2_close_60 : decode cX2_close 60 = .ok (.invokestatic 74, 3) := by decide +kernel
theorem dX2_close_63 : decode cX2_close 63 = .ok (.iand, 1) := by decide +kernel
theorem dX2_close_64 : decode cX2_close 64 = .ok (.ifCond .ne 7, 3) := by decide +kernel
theorem dX2_close_67 : decode cX2_close 67 = .ok (.iload_n 2, 1) := by decide +kernel
theorem dX2_close_68 : decode cX2_close 68 = .ok (.goto 5, 3) := by decide +kernel
theorem dX2_close_71 : decode cX2_close 71 = .ok (.ldc 42, 2) := by decide +kernel
theorem dX2_close_73 : decode cX2_close 73 = .ok (.ireturn, 1) := by decide +kernel
set_option maxRecDepth 20000 in
theorem ggX2_open_X2_complements : GoodIn wsX2_open wsX2_complements := goodIn_r _ [5] (by decide +kernel) (by decide +kernel)
set_option maxRecDepth 20000 in
theorem gX2_open_X2_complements : GoodIn wsX2_open (va_wsS RX2 74 yX2_complements wsX2_complements) := goodIn_app (goodIn_of _ (by decide +kernel)) ggX2_open_X2_complements
theorem dX2_open_0 : decode cX2_open 0 = .ok (.aload_n 0, 1) := by decide +kernel
theorem dX2_open_1 : decode cX2_open 1 = .ok (.getfield 19, 3) := by decide +kernel
theorem dX2_open_4 : decode cX2_open 4 = .ok (.iload_n 1, 1) := by decide +kernel
theorem dX2_open_5 : decode cX2_open 5 = .ok (.iaload, 1) := by decide +kernel
theorem dX2_open_6 : decode cX2_open 6 = .ok (.invokestatic 74, 3) := by decide +kernel
theorem dX2_open_9 : decode cX2_open 9 = .ok (.iload_n 2, 1) := by decide +kernel
theorem dX2_open_10 : decode cX2_open 10 = .ok (.iand, 1) := by decide +kernel
theorem dX2_open_11 : decode cX2_open 11 = .ok (.ifCond .ne 7, 3) := by decide +kernel
theorem dX2_open_14 : decode cX2_open 14 = .ok (.iconst 1, 1) := by decide +kernel
theorem dX2_open_15 : decode cX2_open 15 = .ok (.goto 4, 3) := by decide +kernel
theorem dX2_open_18 : decode cX2_open 18 = .ok (.iconst 0, 1) := by decide +kernel
theorem dX2_open_19 : decode cX2_open 19 = .ok (.ireturn, 1) := by decide +kernel
set_option maxRecDepth 20000 in
theorem ggX2_consequences_X2_close : GoodIn wsX2_consequences wsX2_close := goodIn_r _ [8, 9, 10, 11, 12, 13, 14, 7, 15, 16, 17, 18, 19, 20, 21, 22, 23, 24, 25, 26, 27, 28, 29, 30] (by decide +kernel) (by decide +kernel)
set_option maxRecDepth 20000 in
theorem gX2_consequences_X2_close : GoodIn wsX2_consequences (wsV RX2 77 RX2 yX2_close wsX2_close) := goodIn_app (goodIn_of _ (by decide +kernel)) ggX2_consequences_X2_close
theorem dX2_consequences_0 : decode cX2_consequences 0 = .ok (.aload_n 0, 1) := by decide +kernel
theorem dX2_consequences_1 : decode cX2_consequences 1 = .ok (.getfield 50, 3) := by decide +kernel
theorem dX2_consequences_4 : decode cX2_consequences 4 = .ok (.istore_n 2, 1) := by decide +kernel
theorem dX2_consequences_5 : decode cX2_consequences 5 = .ok (.iconst 0, 1) := by decide +kernel
theorem dX2_consequences_6 : decode cX2_consequences 6 = .ok (.istore_n 3, 1) := by decide +kernel
theorem dX2_consequences_7 : decode cX2_consequences 7 = .ok (.iload_n 3, 1) := by decide +kernel
theorem dX2_consequences_8 : decode cX2_consequences 8 = .ok (.aload_n 0, 1) := by decide +kernel
theorem dX2_consequences_9 : decode cX2_consequences 9 = .ok (.getfield 43, 3) := by decide +kernel
theorem dX2_consequences_12 : decode cX2_consequences 12 = .ok (.if_icmp .ge 29, 3) := by decide +kernel
theorem dX2_consequences_15 : decode cX2_consequences 15 = .ok (.iload_n 1, 1) := by decide +kernel
theorem dX2_consequences_16 : decode cX2_consequences 16 = .ok (.iload_n 3, 1) := by decide +kernel
theorem dX2_consequences_17 : decode cX2_consequences 17 = .ok (.ishr, 1) := by decide +kernel
theorem dX2_consequences_18 : decode cX2_consequences 18 = .ok (.iconst 1, 1) := by decide +kernel
theorem dX2_consequences_19 : decode cX2_consequences 19 = .ok (.iand, 1) := by decide +kernel
theorem dX2_consequences_20 : decode cX2_consequences 20 = .ok (.iconst 1, 1) := by decide +kernel
theorem dX2_consequences_21 : decode cX2_consequences 21 = .ok (.if_icmp .ne 14, 3) := by decide +kernel
theorem dX2_consequences_24 : decode cX2_consequences 24 = .ok (.iload_n 2, 1) := by decide +kernel
theorem dX2_consequences_25 : decode cX2_consequences 25 = .ok (.iconst 1, 1) := by decide +kernel
theorem dX2_consequences_26 : decode cX2_consequences 26 = .ok (.aload_n 0, 1) := by decide +kernel
theorem dX2_consequences_27 : decode cX2_consequences 27 = .ok (.getfield 22, 3) := by decide +kernel
theorem dX2_consequences_30 : decode cX2_consequences 30 = .ok (.iload_n 3, 1) := by decide +kernel
theorem dX2_consequences_31 : decode cX2_consequences 31 = .ok (.iaload, 1) := by decide +kernel
theorem dX2_consequences_32 : decode cX2_consequences 32 = .ok (.ishl, 1) := by decide +kernel
theorem dX2_consequences_33 : decode cX2_consequences 33 = .ok (.ior, 1) := by decide +kernel
theorem dX2_consequences_34 : decode cX2_consequences 34 = .ok (.istore_n 2, 1) := by decide +kernel
theorem dX2_consequences_35 : decode cX2_consequences 35 = .ok (.iinc 3 1, 3) := by decide +kernel
theorem dX2_consequences_38 : decode cX2_consequences 38 = .ok (.goto (-31), 3) := by decide +kernel
theorem dX2_consequences_41 : decode cX2_consequences 41 = .ok (.aload_n 0, 1) := by decide +kernel
theorem dX2_consequences_42 : decode cX2_consequences 42 = .ok (.iload_n 2, 1) := by decide +kernel
theorem dX2_consequences_43 : decode cX2_consequences 43 = .ok (.invokevirtual 77, 3) := by decide +kernel
theorem dX2_consequences_46 : decode cX2_consequences 46 = .ok (.ireturn, 1) := by decide +kernel
set_option maxRecDepth 20000 in
theorem ggX2_generators_X2_consequences : GoodIn wsX2_generators wsX2_consequences := goodIn_r _ [7, 8, 1, 9, 10, 11, 12, 6, 13, 14, 15, 16, 17, 18, 19, 20, 26, 27, 28, 29, 30, 31, 32, 33, 34, 35, 36, 37, 38, 39, 40] (by decide +kernel) (by decide +kernel)
set_option maxRecDepth 20000 in
theorem gX2_generators_X2_consequences : GoodIn wsX2_generators (wsV RX2 80 RX2 yX2_consequences wsX2_consequences) := goodIn_app (goodIn_of _ (by decide +kernel)) ggX2_generators_X2_consequences
set_option maxRecDepth 20000 in
theorem ggX2_generators_X2_open : GoodIn wsX2_generators wsX2_open := goodIn_r _ [24, 25, 18, 19, 6, 20, 26, 27, 28, 29, 30, 31, 32, 33, 34, 35, 36, 37, 38, 39, 40] (by decide +kernel) (by decide +kernel)
set_option maxRecDepth 20000 in
theorem gX2_generators_X2_open : GoodIn wsX2_generators (wsV RX2 83 RX2 yX2_open wsX2_open) := goodIn_app (goodIn_of _ (by decide +kernel)) ggX2_generators_X2_open
theorem dX2_generators_0 : decode cX2_generators 0 = .ok (.iconst 0, 1) := by decide +kernel
theorem dX2_generators_1 : decode cX2_generators 1 = .ok (.istore_n 2, 1) := by decide +kernel
theorem dX2_generators_2 : decode cX2_generators 2 = .ok (.iconst (-1), 1) := by decide +kernel
theorem dX2_generators_3 : decode cX2_generators 3 = .ok (.istore_n 3, 1) := by decide +kernel
theorem dX2_generators_4 : decode cX2_generators 4 = .ok (.iload_n 2, 1) := by decide +kernel
theorem dX2_generators_5 : decode cX2_generators 5 = .ok (.iload_n 3, 1) := by decide +kernel
theorem dX2_generators_6 : decode cX2_generators 6 = .ok (.if_icmp .eq 65, 3) := by decide +kernel
theorem dX2_generators_9 : decode cX2_generators 9 = .ok (.iload_n 2, 1) := by decide +kernel
theorem dX2_generators_10 : decode cX2_generators 10 = .ok (.istore_n 3, 1) := by decide +kernel
theorem dX2_generators_11 : decode cX2_generators 11 = .ok (.aload_n 0, 1) := by decide +kernel
theorem dX2_generators_12 : decode cX2_generators 12 = .ok (.iload_n 2, 1) := by decide +kernel
theorem dX2_generators_13 : decode cX2_generators 13 = .ok (.invokevirtual 80, 3) := by decide +kernel
theorem dX2_generators_16 : decode cX2_generators 16 = .ok (.istore 4, 2) := by decide +kernel
theorem dX2_generators_18 : decode cX2_generators 18 = .ok (.iconst 0, 1) := by decide +kernel
theorem dX2_generators_19 : decode cX2_generators 19 = .ok (.istore 5, 2) := by decide +kernel
theorem dX2_generators_21 : decode cX2_generators 21 = .ok (.iload 5, 2) := by decide +kernel
theorem dX2_generators_23 : decode cX2_generators 23 = .ok (.aload_n 0, 1) := by decide +kernel
theorem dX2_generators_24 : decode cX2_generators 24 = .ok (.getfield 43, 3) := by decide +kernel
theorem dX2_generators_27 : decode cX2_generators 27 = .ok (.if_icmp .ge 41, 3) := by decide +kernel
theorem dX2_generators_30 : decode cX2_generators 30 = .ok (.aload_n 0, 1) := by decide +kernel
theorem dX2_generators_31 : decode cX2_generators 31 = .ok (.iload 5, 2) := by decide +kernel
theorem dX2_generators_33 : decode cX2_generators 33 = .ok (.iload_n 1, 1) := by decide +kernel
theorem dX2_generators_34 : decode cX2_generators 34 = .ok (.invokevirtual 83, 3) := by decide +kernel
theorem dX2_generators_37 : decode cX2_generators 37 = .ok (.ifCond .eq 25, 3) := by decide +kernel
theorem dX2_generators_40 : decode cX2_generators 40 = .ok (.aload_n 0, 1) := by decide +kernel
theorem dX2_generators_41 : decode cX2_generators 41 = .ok (.getfield 16, 3) := by decide +kernel
theorem dX2_generators_44 : decode cX2_generators 44 = .ok (.iload 5, 2) := by decide +kernel
theorem dX2_generators_46 : decode cX2_generators 46 = .ok (.iaload, 1) := by decide +kernel
theorem dX2_generators_47 : decode cX2_generators 47 = .ok (.iload 4, 2) := by decide +kernel
theorem dX2_generators_49 : decode cX2_generators 49 = .ok (.iconst (-1), 1) := by decide +kernel
theorem dX2_generators_50 : decode cX2_generators 50 = .ok (.ixor, 1) := by decide +kernel
theorem dX2_generators_51 : decode cX2_generators 51 = .ok (.iand, 1) := by decide +kernel
theorem dX2_generators_52 : decode cX2_generators 52 = .ok (.ifCond .ne 10, 3) := by decide +kernel
theorem dX2_generators_55 : decode cX2_generators 55 = .ok (.iload_n 2, 1) := by decide +kernel
theorem dX2_generators_56 : decode cX2_generators 56 = .ok (.iconst 1, 1) := by decide +kernel
theorem dX2_generators_57 : decode cX2_generators 57 = .ok (.iload 5, 2) := by decide +kernel
theorem dX2_generators_59 : decode cX2_generators 59 = .ok (.ishl, 1) := by decide +kernel
theorem dX2_generators_60 : decode cX2_generators 60 = .ok (.ior, 1) := by decide +kernel
theorem dX2_generators_61 : decode cX2_generators 61 = .ok (.istore_n 2, 1) := by decide +kernel
theorem dX2_generators_62 : decode cX2_generators 62 = .ok (.iinc 5 1, 3) := by decide +kernel
theorem dX2_generators_65 : decode cX2_generators 65 = .ok (.goto (-44), 3) := by decide +kernel
theorem dX2_generators_68 : decode cX2_generators 68 = .ok (.goto (-64), 3) := by decide +kernel
theorem dX2_generators_71 : decode cX2_generators 71 = .ok (.iload_n 2, 1) := by decide +kernel
theorem dX2_generators_72 : decode cX2_generators 72 = .ok (.ireturn, 1) := by decide +kernel
set_option maxRecDepth 20000 in
theorem ggX2_isStable_X2_generators : GoodIn wsX2_isStable wsX2_generators := goodIn_r _ [5, 6, 7, 8, 9, 10, 4, 11, 12, 13, 14, 15, 16, 17, 18, 19, 20, 21, 22, 23, 24, 25, 26, 27, 28, 29, 30, 31, 32, 33, 34, 35, 36, 37, 38, 39, 40, 41, 42, 43, 44] (by decide +kernel) (by decide +kernel)
set_option maxRecDepth 20000 in
theorem gX2_isStable_X2_generators : GoodIn wsX2_isStable (wsV RX2 86 RX2 yX2_generators wsX2_generators) := goodIn_app (goodIn_of _ (by decide +kernel)) ggX2_isStable_X2_generators
set_option maxRecDepth 20000 in
theorem ggX2_isStable_X2_consequences : GoodIn wsX2_isStable wsX2_consequences := goodIn_r _ [11, 12, 6, 13, 14, 15, 16, 4, 17, 18, 19, 20, 21, 22, 23, 24, 30, 31, 32, 33, 34, 35, 36, 37, 38, 39, 40, 41, 42, 43, 44] (by decide +kernel) (by decide +kernel)
set_option maxRecDepth 20000 in
theorem gX2_isStable_X2_consequences : GoodIn wsX2_isStable (wsV RX2 80 RX2 yX2_consequences wsX2_consequences) := goodIn_app (goodIn_of _ (by decide +kernel)) ggX2_isStable_X2_consequences
theorem dX2_isStable_0 : decode cX2_isStable 0 = .ok (.aload_n 0, 1) := by decide +kernel
theorem dX2_isStable_1 : decode cX2_isStable 1 = .ok (.aload_n 0, 1) := by decide +kernel
theorem dX2_isStable_2 : decode cX2_isStable 2 = .ok (.iload_n 1, 1) := by decide +kernel
theorem dX2_isStable_3 : decode cX2_isStable 3 = .ok (.invokevirtual 86, 3) := by decide +kernel
theorem dX2_isStable_6 : decode cX2_isStable 6 = .ok (.invokevirtual 80, 3) := by decide +kernel
theorem dX2_isStable_9 : decode cX2_isStable 9 = .ok (.iload_n 1, 1) := by decide +kernel
theorem dX2_isStable_10 : decode cX2_isStable 10 = .ok (.if_icmp .ne 7, 3) := by decide +kernel
theorem dX2_isStable_13 : decode cX2_isStable 13 = .ok (.iconst 1, 1) := by decide +kernel
theorem dX2_isStable_14 : decode cX2_isStable 14 = .ok (.goto 4, 3) := by decide +kernel
theorem dX2_isStable_17 : decode cX2_isStable 17 = .ok (.iconst 0, 1) := by decide +kernel
theorem dX2_isStable_18 : decode cX2_isStable 18 = .ok (.ireturn, 1) := by decide +kernel
set_option maxRecDepth 20000 in
theorem ggX2_closure_X2_isSet : GoodIn wsX2_closure wsX2_isSet := goodIn_r _ [5, 6] (by decide +kernel) (by decide +kernel)
set_option maxRecDepth 20000 in
theorem gX2_closure_X2_isSet : GoodIn wsX2_closure (va_wsS RX2 57 yX2_isSet wsX2_isSet) := goodIn_app (goodIn_of _ (by decide +kernel)) ggX2_closure_X2_isSet
set_option maxRecDepth 20000 in
theorem ggX2_closure_X2_close : GoodIn wsX2_closure wsX2_close := goodIn_r _ [10, 11, 12, 13, 6, 14, 15, 4, 16, 21, 22, 23, 24, 25, 26, 27, 28, 29, 30, 31, 32, 33, 34, 35] (by decide +kernel) (by decide +kernel)
set_option maxRecDepth 20000 in
theorem gX2_closure_X2_close : GoodIn wsX2_closure (wsV RX2 77 RX2 yX2_close wsX2_close) := goodIn_app (goodIn_of _ (by decide +kernel)) ggX2_closure_X2_close
set_option maxRecDepth 20000 in
theorem ggX2_closure_X2_fail : GoodIn wsX2_closure wsX2_fail := goodIn_r _ [20, 1, 21, 22, 23, 24, 25, 26, 27, 28, 29, 30, 31, 32, 33, 34, 35] (by decide +kernel) (by decide +kernel)
set_option maxRecDepth 20000 in
theorem gX2_closure_X2_fail : GoodIn wsX2_closure (wsV RX2 53 RX2 yX2_fail wsX2_fail) := goodIn_app (goodIn_of _ (by decide +kernel)) ggX2_closure_X2_fail
theorem dX2_closure_0 : decode cX2_closure 0 = .ok (.aload_n 0, 1) := by decide +kernel
theorem dX2_closure_1 : decode cX2_closure 1 = .ok (.iconst 0, 1) := by decide +kernel
theorem dX2_closure_2 : decode cX2_closure 2 = .ok (.putfield 38, 3) := by decide +kernel
theorem dX2_closure_5 : decode cX2_closure 5 = .ok (.iload_n 1, 1) := by decide +kernel
theorem dX2_closure_6 : decode cX2_closure 6 = .ok (.invokestatic 57, 3) := by decide +kernel
theorem dX2_closure_9 : decode cX2_closure 9 = .ok (.ifCond .eq 11, 3) := by decide +kernel
theorem dX2_closure_12 : decode cX2_closure 12 = .ok (.aload_n 0, 1) := by decide +kernel
theorem dX2_closure_13 : decode cX2_closure 13 = .ok (.iload_n 1, 1) := by decide +kernel
theorem dX2_closure_14 : decode cX2_closure 14 = .ok (.invokevirtual 77, 3) := by decide +kernel
theorem dX2_closure_17 : decode cX2_closure 17 = .ok (.goto 8, 3) := by decide +kernel
theorem dX2_closure_20 : decode cX2_closure 20 = .ok (.aload_n 0, 1) := by decide +kernel
theorem dX2_closure_21 : decode cX2_closure 21 = .ok (.iconst 1, 1) := by decide +kernel
theorem dX2_closure_22 : decode cX2_closure 22 = .ok (.invokevirtual 53, 3) := by decide +kernel
theorem dX2_closure_25 : decode cX2_closure 25 = .ok (.ireturn, 1) := by decide +kernel
set_option maxRecDepth 20000 in
theorem ggX2_isOpen_X2_isDefault : GoodIn wsX2_isOpen wsX2_isDefault := goodIn_r _ [6, 7, 20, 21, 22, 23, 24, 25, 26, 27, 28, 29, 30, 31, 32, 33, 34] (by decide +kernel) (by decide +kernel)
set_option maxRecDepth 20000 in
theorem gX2_isOpen_X2_isDefault : GoodIn wsX2_isOpen (wsV RX2 67 RX2 yX2_isDefault wsX2_isDefault) := goodIn_app (goodIn_of _ (by decide +kernel)) ggX2_isOpen_X2_isDefault
set_option maxRecDepth 20000 in
theorem ggX2_isOpen_X2_isSet : GoodIn wsX2_isOpen wsX2_isSet := goodIn_r _ [10, 11] (by decide +kernel) (by decide +kernel)
set_option maxRecDepth 20000 in
theorem gX2_isOpen_X2_isSet : GoodIn wsX2_isOpen (va_wsS RX2 57 yX2_isSet wsX2_isSet) := goodIn_app (goodIn_of _ (by decide +kernel)) ggX2_isOpen_X2_isSet
set_option maxRecDepth 20000 in
theorem ggX2_isOpen_X2_open : GoodIn wsX2_isOpen wsX2_open := goodIn_r _ [15, 16, 17, 18, 5, 19, 20, 21, 22, 23, 24, 25, 26, 27, 28, 29, 30, 31, 32, 33, 34] (by decide +kernel) (by decide +kernel)
set_option maxRecDepth 20000 in
theorem gX2_isOpen_X2_open : GoodIn wsX2_isOpen (wsV RX2 83 RX2 yX2_open wsX2_open) := goodIn_app (goodIn_of _ (by decide +kernel)) ggX2_isOpen_X2_open
theorem dX2_isOpen_0 : decode cX2_isOpen 0 = .ok (.aload_n 0, 1) := by decide +kernel
theorem dX2_isOpen_1 : decode cX2_isOpen 1 = .ok (.aload_n 0, 1) := by decide +kernel
theorem dX2_isOpen_2 : decode cX2_isOpen 2 = .ok (.iload_n 1, 1) := by decide +kernel
theorem dX2_isOpen_3 : decode cX2_isOpen 3 = .ok (.invokevirtual 67, 3) := by decide +kernel
theorem dX2_isOpen_6 : decode cX2_isOpen 6 = .ok (.ifCond .ne 7, 3) := by decide +kernel
theorem dX2_isOpen_9 : decode cX2_isOpen 9 = .ok (.iconst 1, 1) := by decide +kernel
theorem dX2_isOpen_10 : decode cX2_isOpen 10 = .ok (.goto 15, 3) := by decide +kernel
theorem dX2_isOpen_13 : decode cX2_isOpen 13 = .ok (.iload_n 2, 1) := by decide +kernel
theorem dX2_isOpen_14 : decode cX2_isOpen 14 = .ok (.invokestatic 57, 3) := by decide +kernel
theorem dX2_isOpen_17 : decode cX2_isOpen 17 = .ok (.ifCond .ne 7, 3) := by decide +kernel
theorem dX2_isOpen_20 : decode cX2_isOpen 20 = .ok (.iconst 2, 1) := by decide +kernel
theorem dX2_isOpen_21 : decode cX2_isOpen 21 = .ok (.goto 4, 3) := by decide +kernel
theorem dX2_isOpen_24 : decode cX2_isOpen 24 = .ok (.iconst 0, 1) := by decide +kernel
theorem dX2_isOpen_25 : decode cX2_isOpen 25 = .ok (.putfield 38, 3) := by decide +kernel
theorem dX2_isOpen_28 : decode cX2_isOpen 28 = .ok (.aload_n 0, 1) := by decide +kernel
theorem dX2_isOpen_29 : decode cX2_isOpen 29 = .ok (.getfield 38, 3) := by decide +kernel
theorem dX2_isOpen_32 : decode cX2_isOpen 32 = .ok (.ifCond .ne 16, 3) := by decide +kernel
theorem dX2_isOpen_35 : decode cX2_isOpen 35 = .ok (.aload_n 0, 1) := by decide +kernel
theorem dX2_isOpen_36 : decode cX2_isOpen 36 = .ok (.iload_n 1, 1) := by decide +kernel
theorem dX2_isOpen_37 : decode cX2_isOpen 37 = .ok (.iload_n 2, 1) := by decide +kernel
theorem dX2_isOpen_38 : decode cX2_isOpen 38 = .ok (.invokevirtual 83, 3) := by decide +kernel
theorem dX2_isOpen_41 : decode cX2_isOpen 41 = .ok (.ifCond .eq 7, 3) := by decide +kernel
theorem dX2_isOpen_44 : decode cX2_isOpen 44 = .ok (.iconst 1, 1) := by decide +kernel
theorem dX2_isOpen_45 : decode cX2_isOpen 45 = .ok (.goto 4, 3) := by decide +kernel
theorem dX2_isOpen_48 : decode cX2_isOpen 48 = .ok (.iconst 0, 1) := by decide +kernel
theorem dX2_isOpen_49 : decode cX2_isOpen 49 = .ok (.ireturn, 1) := by decide +kernel
set_option maxRecDepth 20000 in
theorem ggX2_generatorsOf_X2_isSet : GoodIn wsX2_generatorsOf wsX2_isSet := goodIn_r _ [5, 6] (by decide +kernel) (by decide +kernel)
set_option maxRecDepth 20000 in
theorem gX2_generatorsOf_X2_isSet : GoodIn wsX2_generatorsOf (va_wsS RX2 57 yX2_isSet wsX2_isSet) := goodIn_app (goodIn_of _ (by decide +kernel)) ggX2_generatorsOf_X2_isSet
set_option maxRecDepth 20000 in
theorem ggX2_generatorsOf_X2_generators : GoodIn wsX2_generatorsOf wsX2_generators := goodIn_r _ [10, 11, 12, 13, 14, 15, 4, 16, 17, 18, 19, 20, 21, 22, 23, 24, 25, 6, 26, 27, 28, 29, 30, 31, 32, 33, 38, 39, 40, 41, 42, 43, 44, 45, 46, 47, 48, 49, 50, 51, 52] (by decide +kernel) (by decide +kernel)
set_option maxRecDepth 20000 in
theorem gX2_generatorsOf_X2_generators : GoodIn wsX2_generatorsOf (wsV RX2 86 RX2 yX2_generators wsX2_generators) := goodIn_app (goodIn_of _ (by decide +kernel)) ggX2_generatorsOf_X2_generators
set_option maxRecDepth 20000 in
theorem ggX2_generatorsOf_X2_fail : GoodIn wsX2_generatorsOf wsX2_fail := goodIn_r _ [37, 1, 38, 39, 40, 41, 42, 43, 44, 45, 46, 47, 48, 49, 50, 51, 52] (by decide +kernel) (by decide +kernel)
set_option maxRecDepth 20000 in
theorem gX2_generatorsOf_X2_fail : GoodIn wsX2_generatorsOf (wsV RX2 53 RX2 yX2_fail wsX2_fail) := goodIn_app (goodIn_of _ (by decide +kernel)) ggX2_generatorsOf_X2_fail
theorem dX2_generatorsOf_0 : decode cX2_generatorsOf 0 = .ok (.aload_n 0, 1) := by decide +kernel
theorem dX2_generatorsOf_1 : decode cX2_generatorsOf 1 = .ok (.iconst 0, 1) := by decide +kernel
theorem dX2_generatorsOf_2 : decode cX2_generatorsOf 2 = .ok (.putfield 38, 3) := by decide +kernel
theorem dX2_generatorsOf_5 : decode cX2_generatorsOf 5 = .ok (.iload_n 1, 1) := by decide +kernel
theorem dX2_generatorsOf_6 : decode cX2_generatorsOf 6 = .ok (.invokestatic 57, 3) := by decide +kernel
theorem dX2_generatorsOf_9 : decode cX2_generatorsOf 9 = .ok (.ifCond .eq 11, 3) := by decide +kernel
theorem dX2_generatorsOf_12 : decode cX2_generatorsOf 12 = .ok (.aload_n 0, 1) := by decide +kernel
theorem dX2_generatorsOf_13 : decode cX2_generatorsOf 13 = .ok (.iload_n 1, 1) := by decide +kernel
theorem dX2_generatorsOf_14 : decode cX2_generatorsOf 14 = .ok (.invokevirtual 86, 3) := by decide +kernel
theorem dX2_generatorsOf_17 : decode cX2_generatorsOf 17 = .ok (.goto 8, 3) := by decide +kernel
theorem dX2_generatorsOf_20 : decode cX2_generatorsOf 20 = .ok (.aload_n 0, 1) := by decide +kernel
theorem dX2_generatorsOf_21 : decode cX2_generatorsOf 21 = .ok (.iconst 1, 1) := by decide +kernel
theorem dX2_generatorsOf_22 : decode cX2_generatorsOf 22 = .ok (.invokevirtual 53, 3) := by decide +kernel
theorem dX2_generatorsOf_25 : decode cX2_generatorsOf 25 = .ok (.ireturn, 1) := by decide +kernel
set_option maxRecDepth 20000 in
theorem ggX2_isExtension_X2_isSet : GoodIn wsX2_isExtension wsX2_isSet := goodIn_r _ [5, 6] (by decide +kernel) (by decide +kernel)
set_option maxRecDepth 20000 in
theorem gX2_isExtension_X2_isSet : GoodIn wsX2_isExtension (va_wsS RX2 57 yX2_isSet wsX2_isSet) := goodIn_app (goodIn_of _ (by decide +kernel)) ggX2_isExtension_X2_isSet
set_option maxRecDepth 20000 in
theorem ggX2_isExtension_X2_isStable : GoodIn wsX2_isExtension wsX2_isStable := goodIn_r _ [10, 11, 12, 13, 4, 14, 15, 16, 17, 18, 19, 20, 21, 22, 23, 24, 25, 26, 27, 28, 29, 6, 30, 31, 32, 33, 34, 35, 36, 37, 38, 39, 40, 41, 42, 43, 44, 45, 46, 47, 48, 49, 50, 51, 52] (by decide +kernel) (by decide +kernel)
set_option maxRecDepth 20000 in
theorem gX2_isExtension_X2_isStable : GoodIn wsX2_isExtension (wsV RX2 89 RX2 yX2_isStable wsX2_isStable) := goodIn_app (goodIn_of _ (by decide +kernel)) ggX2_isExtension_X2_isStable
theorem dX2_isExtension_0 : decode cX2_isExtension 0 = .ok (.aload_n 0, 1) := by decide +kernel
theorem dX2_isExtension_1 : decode cX2_isExtension 1 = .ok (.iload_n 1, 1) := by decide +kernel
theorem dX2_isExtension_2 : decode cX2_isExtension 2 = .ok (.invokestatic 57, 3) := by decide +kernel
theorem dX2_isExtension_5 : decode cX2_isExtension 5 = .ok (.ifCond .eq 7, 3) := by decide +kernel
theorem dX2_isExtension_8 : decode cX2_isExtension 8 = .ok (.iconst 0, 1) := by decide +kernel
theorem dX2_isExtension_9 : decode cX2_isExtension 9 = .ok (.goto 4, 3) := by decide +kernel
theorem dX2_isExtension_12 : decode cX2_isExtension 12 = .ok (.iconst 1, 1) := by decide +kernel
theorem dX2_isExtension_13 : decode cX2_isExtension 13 = .ok (.putfield 38, 3) := by decide +kernel
theorem dX2_isExtension_16 : decode cX2_isExtension 16 = .ok (.aload_n 0, 1) := by decide +kernel
theorem dX2_isExtension_17 : decode cX2_isExtension 17 = .ok (.getfield 38, 3) := by decide +kernel
theorem dX2_isExtension_20 : decode cX2_isExtension 20 = .ok (.ifCond .ne 15, 3) := by decide +kernel
theorem dX2_isExtension_23 : decode cX2_isExtension 23 = .ok (.aload_n 0, 1) := by decide +kernel
theorem dX2_isExtension_24 : decode cX2_isExtension 24 = .ok (.iload_n 1, 1) := by decide +kernel
theorem dX2_isExtension_25 : decode cX2_isExtension 25 = .ok (.invokevirtual 89, 3) := by decide +kernel
theorem dX2_isExtension_28 : decode cX2_isExtension 28 = .ok (.ifCond .eq 7, 3) := by decide +kernel
theorem dX2_isExtension_31 : decode cX2_isExtension 31 = .ok (.iconst 1, 1) := by decide +kernel
theorem dX2_isExtension_32 : decode cX2_isExtension 32 = .ok (.goto 4, 3) := by decide +kernel
theorem dX2_isExtension_35 : decode cX2_isExtension 35 = .ok (.iconst 0, 1) := by decide +kernel
theorem dX2_isExtension_36 : decode cX2_isExtension 36 = .ok (.ireturn, 1) := by decide +kernel
set_option maxRecDepth 20000 in
theorem ggX2_find_X2_consequences : GoodIn wsX2_find wsX2_consequences := goodIn_r _ [8, 9, 2, 10, 11, 12, 13, 7, 14, 15, 16, 17, 18, 19, 20, 21, 32, 33, 34, 35, 36, 37, 38, 39, 40, 41, 42, 43, 44, 45, 46] (by decide +kernel) (by decide +kernel)
set_option maxRecDepth 20000 in
theorem gX2_find_X2_consequences : GoodIn wsX2_find (wsV RX2 80 RX2 yX2_consequences wsX2_consequences) := goodIn_app (goodIn_of _ (by decide +kernel)) ggX2_find_X2_consequences
set_option maxRecDepth 20000 in
theorem ggX2_find_X2_generators : GoodIn wsX2_find wsX2_generators := goodIn_r _ [25, 2, 26, 4, 5, 6, 7, 8, 9, 10, 11, 12, 13, 14, 15, 16, 17, 18, 19, 20, 21, 27, 28, 29, 30, 31, 32, 33, 34, 35, 36, 37, 38, 39, 40, 41, 42, 43, 44, 45, 46] (by decide +kernel) (by decide +kernel)
set_option maxRecDepth 20000 in
theorem gX2_find_X2_generators : GoodIn wsX2_find (wsV RX2 86 RX2 yX2_generators wsX2_generators) := goodIn_app (goodIn_of _ (by decide +kernel)) ggX2_find_X2_generators
theorem dX2_find_0 : decode cX2_find 0 = .ok (.aload_n 0, 1) := by decide +kernel
theorem dX2_find_1 : decode cX2_find 1 = .ok (.iconst 0, 1) := by decide +kernel
theorem dX2_find_2 : decode cX2_find 2 = .ok (.putfield 92, 3) := by decide +kernel
theorem dX2_find_5 : decode cX2_find 5 = .ok (.iconst 0, 1) := by decide +kernel
theorem dX2_find_6 : decode cX2_find 6 = .ok (.istore_n 1, 1) := by decide +kernel
theorem dX2_find_7 : decode cX2_find 7 = .ok (.iload_n 1, 1) := by decide +kernel
theorem dX2_find_8 : decode cX2_find 8 = .ok (.iconst 1, 1) := by decide +kernel
theorem dX2_find_9 : decode cX2_find 9 = .ok (.aload_n 0, 1) := by decide +kernel
theorem dX2_find_10 : decode cX2_find 10 = .ok (.getfield 43, 3) := by decide +kernel
theorem dX2_find_13 : decode cX2_find 13 = .ok (.ishl, 1) := by decide +kernel
theorem dX2_find_14 : decode cX2_find 14 = .ok (.if_icmp .ge 85, 3) := by decide +kernel
theorem dX2_find_17 : decode cX2_find 17 = .ok (.aload_n 0, 1) := by decide +kernel
theorem dX2_find_18 : decode cX2_find 18 = .ok (.iload_n 1, 1) := by decide +kernel
theorem dX2_find_19 : decode cX2_find 19 = .ok (.invokevirtual 80, 3) := by decide +kernel
theorem dX2_find_22 : decode cX2_find 22 = .ok (.istore_n 2, 1) := by decide +kernel
theorem dX2_find_23 : decode cX2_find 23 = .ok (.aload_n 0, 1) := by decide +kernel
theorem dX2_find_24 : decode cX2_find 24 = .ok (.iload_n 2, 1) := by decide +kernel
theorem dX2_find_25 : decode cX2_find 25 = .ok (.invokevirtual 86, 3) := by decide +kernel
theorem dX2_find_28 : decode cX2_find 28 = .ok (.iload_n 1, 1) := by decide +kernel
theorem dX2_find_29 : decode cX2_find 29 = .ok (.if_icmp .eq 6, 3) := by decide +kernel
theorem dX2_find_32 : decode cX2_find 32 = .ok (.goto 61, 3) := by decide +kernel
theorem dX2_find_35 : decode cX2_find 35 = .ok (.aload_n 0, 1) := by decide +kernel
theorem dX2_find_36 : decode cX2_find 36 = .ok (.getfield 92, 3) := by decide +kernel
theorem dX2_find_39 : decode cX2_find 39 = .ok (.istore_n 3, 1) := by decide +kernel
theorem dX2_find_40 : decode cX2_find 40 = .ok (.iload_n 3, 1) := by decide +kernel
theorem dX2_find_41 : decode cX2_find 41 = .ok (.ifCond .le 35, 3) := by decide +kernel
theorem dX2_find_44 : decode cX2_find 44 = .ok (.aload_n 0, 1) := by decide +kernel
theorem dX2_find_45 : decode cX2_find 45 = .ok (.getfield 32, 3) := by decide +kernel
theorem dX2_find_48 : decode cX2_find 48 = .ok (.iload_n 3, 1) := by decide +kernel
theorem dX2_find_49 : decode cX2_find 49 = .ok (.iconst 1, 1) := by decide +kernel
theorem dX2_find_50 : decode cX2_find 50 = .ok (.isub, 1) := by decide +kernel
theorem dX2_find_51 : decode cX2_find 51 = .ok (.iaload, 1) := by decide +kernel
theorem dX2_find_52 : decode cX2_find 52 = .ok (.iload_n 2, 1) := by decide +kernel
theorem dX2_find_53 : decode cX2_find 53 = .ok (.if_icmp .le 23, 3) := by decide +kernel
theorem dX2_find_56 : decode cX2_find 56 = .ok (.aload_n 0, 1) := by decide +kernel
theorem dX2_find_57 : decode cX2_find 57 = .ok (.getfield 32, 3) := by decide +kernel
theorem dX2_find_60 : decode cX2_find 60 = .ok (.iload_n 3, 1) := by decide +kernel
theorem dX2_find_61 : decode cX2_find 61 = .ok (.aload_n 0, 1) := by decide +kernel
theorem dX2_find_62 : decode cX2_find 62 = .ok (.getfield 32, 3) := by decide +kernel
theorem dX2_find_65 : decode cX2_find 65 = .ok (.iload_n 3, 1) := by decide +kernel
theorem dX2_find_66 : decode cX2_find 66 = .ok (.iconst 1, 1) := by decide +kernel
theorem dX2_find_67 : decode cX2_find 67 = .ok (.isub, 1) := by decide +kernel
theorem dX2_find_68 : decode cX2_find 68 = .ok (.iaload, 1) := by decide +kernel
theorem dX2_find_69 : decode cX2_find 69 = .ok (.iastore, 1) := by decide +kernel
theorem dX2_find_70 : decode cX2_find 70 = .ok (.iinc 3 (-1), 3) := by decide +kernel
theorem dX2_find_73 : decode cX2_find 73 = .ok (.goto (-33), 3) := by decide +kernel
theorem dX2_find_76 : decode cX2_find 76 = .ok (.aload_n 0, 1) := by decide +kernel
theorem dX2_find_77 : decode cX2_find 77 = .ok (.getfield 32, 3) := by decide +kernel
theorem dX2_find_80 : decode cX2_find 80 = .ok (.iload_n 3, 1) := by decide +kernel
theorem dX2_find_81 : decode cX2_find 81 = .ok (.iload_n 2, 1) := by decide +kernel
theorem dX2_find_82 : decode cX2_find 82 = .ok (.iastore, 1) := by decide +kernel
theorem dX2_find_83 : decode cX2_find 83 = .ok (.aload_n 0, 1) := by decide +kernel
theorem dX2_find_84 : decode cX2_find 84 = .ok (.dup, 1) := by decide +kernel
theorem dX2_find_85 : decode cX2_find 85 = .ok (.getfield 92, 3) := by decide +kernel
theorem dX2_find_88 : decode cX2_find 88 = .ok (.iconst 1, 1) := by decide +kernel
theorem dX2_find_89 : decode cX2_find 89 = .ok (.iadd, 1) := by decide +kernel
theorem dX2_find_90 : decode cX2_find 90 = .ok (.putfield 92, 3) := by decide +kernel
theorem dX2_find_93 : decode cX2_find 93 = .ok (.iinc 1 1, 3) := by decide +kernel
theorem dX2_find_96 : decode cX2_find 96 = .ok (.goto (-89), 3) := by decide +kernel
theorem dX2_find_99 : decode cX2_find 99 = .ok (.return_, 1) := by decide +kernel
set_option maxRecDepth 20000 in
theorem ggX2_findPreferred_X2_find : GoodIn wsX2_findPreferred wsX2_find := goodIn_r _ [9, 1, 10, 4, 11, 12, 13, 8, 14, 15, 16, 17, 18, 19, 20, 21, 22, 23, 24, 25, 26, 27, 28, 29, 30, 31, 32, 33, 34, 35, 36, 37, 68, 69, 70, 71, 72, 73, 74, 75, 76, 77, 78, 79, 80, 81, 82] (by decide +kernel) (by decide +kernel)
set_option maxRecDepth 20000 in
theorem gX2_findPreferred_X2_find : GoodIn wsX2_findPreferred (wsV RX2 95 RX2 yX2_find wsX2_find) := goodIn_app (goodIn_of _ (by decide +kernel)) ggX2_findPreferred_X2_find
set_option maxRecDepth 20000 in
theorem ggX2_findPreferred_X2_orders : GoodIn wsX2_findPreferred wsX2_orders := goodIn_r _ [41, 10, 68, 69, 70, 71, 72, 73, 74, 75, 76, 77, 78, 79, 80, 81, 82] (by decide +kernel) (by decide +kernel)
set_option maxRecDepth 20000 in
theorem gX2_findPreferred_X2_orders : GoodIn wsX2_findPreferred (wsV RX2 98 RX2 yX2_orders wsX2_orders) := goodIn_app (goodIn_of _ (by decide +kernel)) ggX2_findPreferred_X2_orders
set_option maxRecDepth 20000 in
theorem ggX2_findPreferred_X2_setOrder : GoodIn wsX2_findPreferred wsX2_setOrder := goodIn_r _ [45, 46, 10, 38, 39, 40, 8, 41, 68, 69, 70, 71, 72, 73, 74, 75, 76, 77, 78, 79, 80, 81, 82] (by decide +kernel) (by decide +kernel)
set_option maxRecDepth 20000 in
theorem gX2_findPreferred_X2_setOrder : GoodIn wsX2_findPreferred (wsV RX2 102 RX2 yX2_setOrder wsX2_setOrder) := goodIn_app (goodIn_of _ (by decide +kernel)) ggX2_findPreferred_X2_setOrder
set_option maxRecDepth 20000 in
theorem ggX2_findPreferred_X2_respects : GoodIn wsX2_findPreferred wsX2_respects := goodIn_r _ [50, 10, 51, 52, 53, 8, 54, 55, 56, 57, 58, 59, 68, 69, 70, 71, 72, 73, 74, 75, 76, 77, 78, 79, 80, 81, 82] (by decide +kernel) (by decide +kernel)
set_option maxRecDepth 20000 in
theorem gX2_findPreferred_X2_respects : GoodIn wsX2_findPreferred (wsV RX2 106 RX2 yX2_respects wsX2_respects) := goodIn_app (goodIn_of _ (by decide +kernel)) ggX2_findPreferred_X2_respects
set_option maxRecDepth 20000 in
theorem ggX2_findPreferred_X2_walk : GoodIn wsX2_findPreferred wsX2_walk := goodIn_r _ [63, 15, 16, 17, 18, 19, 8, 20, 21, 22, 23, 24, 25, 26, 27, 64, 65, 66, 67, 10, 32, 33, 34, 35, 36, 37, 68, 69, 70, 71, 72, 73, 74, 75, 76, 77, 78, 79, 80, 81, 82] (by decide +kernel) (by decide +kernel)
set_option maxRecDepth 20000 in
theorem gX2_findPreferred_X2_walk : GoodIn wsX2_findPreferred (wsV RX2 110 RX2 yX2_walk wsX2_walk) := goodIn_app (goodIn_of _ (by decide +kernel)) ggX2_findPreferred_X2_walk
theorem dX2_findPreferred_0 : decode cX2_findPreferred 0 = .ok (.aload_n 0, 1) := by decide +kernel
theorem dX2_findPreferred_1 : decode cX2_findPreferred 1 = .ok (.invokevirtual 95, 3) := by decide +kernel
theorem dX2_findPreferred_4 : decode cX2_findPreferred 4 = .ok (.iconst 0, 1) := by decide +kernel
theorem dX2_findPreferred_5 : decode cX2_findPreferred 5 = .ok (.istore_n 1, 1) := by decide +kernel
theorem dX2_findPreferred_6 : decode cX2_findPreferred 6 = .ok (.iload_n 1, 1) := by decide +kernel
theorem dX2_findPreferred_7 : decode cX2_findPreferred 7 = .ok (.aload_n 0, 1) := by decide +kernel
theorem dX2_findPreferred_8 : decode cX2_findPreferred 8 = .ok (.getfield 92, 3) := by decide +kernel
theorem dX2_findPreferred_11 : decode cX2_findPreferred 11 = .ok (.if_icmp .ge 16, 3) := by decide +kernel
theorem dX2_findPreferred_14 : decode cX2_findPreferred 14 = .ok (.aload_n 0, 1) := by decide +kernel
theorem dX2_findPreferred_15 : decode cX2_findPreferred 15 = .ok (.getfield 35, 3) := by decide +kernel
theorem dX2_findPreferred_18 : decode cX2_findPreferred 18 = .ok (.iload_n 1, 1) := by decide +kernel
theorem dX2_findPreferred_19 : decode cX2_findPreferred 19 = .ok (.iconst 0, 1) := by decide +kernel
theorem dX2_findPreferred_20 : decode cX2_findPreferred 20 = .ok (.bastore, 1) := by decide +kernel
theorem dX2_findPreferred_21 : decode cX2_findPreferred 21 = .ok (.iinc 1 1, 3) := by decide +kernel
theorem dX2_findPreferred_24 : decode cX2_findPreferred 24 = .ok (.goto (-18), 3) := by decide +kernel
theorem dX2_findPreferred_27 : decode cX2_findPreferred 27 = .ok (.bipush 6, 2) := by decide +kernel
theorem dX2_findPreferred_29 : decode cX2_findPreferred 29 = .ok (.newarray .int, 2) := by decide +kernel
theorem dX2_findPreferred_31 : decode cX2_findPreferred 31 = .ok (.astore_n 1, 1) := by decide +kernel
theorem dX2_findPreferred_32 : decode cX2_findPreferred 32 = .ok (.iconst 0, 1) := by decide +kernel
theorem dX2_findPreferred_33 : decode cX2_findPreferred 33 = .ok (.istore_n 2, 1) := by decide +kernel
theorem dX2_findPreferred_34 : decode cX2_findPreferred 34 = .ok (.iload_n 2, 1) := by decide +kernel
theorem dX2_findPreferred_35 : decode cX2_findPreferred 35 = .ok (.aload_n 0, 1) := by decide +kernel
theorem dX2_findPreferred_36 : decode cX2_findPreferred 36 = .ok (.invokevirtual 98, 3) := by decide +kernel
theorem dX2_findPreferred_39 : decode cX2_findPreferred 39 = .ok (.if_icmp .ge 87, 3) := by decide +kernel
theorem dX2_findPreferred_42 : decode cX2_findPreferred 42 = .ok (.aload_n 0, 1) := by decide +kernel
theorem dX2_findPreferred_43 : decode cX2_findPreferred 43 = .ok (.aload_n 1, 1) := by decide +kernel
theorem dX2_findPreferred_44 : decode cX2_findPreferred 44 = .ok (.iload_n 2, 1) := by decide +kernel
theorem dX2_findPreferred_45 : decode cX2_findPreferred 45 = .ok (.invokevirtual 102, 3) := by decide +kernel
theorem dX2_findPreferred_48 : decode cX2_findPreferred 48 = .ok (.aload_n 0, 1) := by decide +kernel
theorem dX2_findPreferred_49 : decode cX2_findPreferred 49 = .ok (.aload_n 1, 1) := by decide +kernel
theorem dX2_findPreferred_50 : decode cX2_findPreferred 50 = .ok (.invokevirtual 106, 3) := by decide +kernel
theorem dX2_findPreferred_53 : decode cX2_findPreferred 53 = .ok (.ifCond .ne 6, 3) := by decide +kernel
theorem dX2_findPreferred_56 : decode cX2_findPreferred 56 = .ok (.goto 64, 3) := by decide +kernel
theorem dX2_findPreferred_59 : decode cX2_findPreferred 59 = .ok (.aload_n 0, 1) := by decide +kernel
theorem dX2_findPreferred_60 : decode cX2_findPreferred 60 = .ok (.aload_n 1, 1) := by decide +kernel
theorem dX2_findPreferred_61 : decode cX2_findPreferred 61 = .ok (.bipush 7, 2) := by decide +kernel
theorem dX2_findPreferred_63 : decode cX2_findPreferred 63 = .ok (.newarray .int, 2) := by decide +kernel
theorem dX2_findPreferred_65 : decode cX2_findPreferred 65 = .ok (.invokevirtual 110, 3) := by decide +kernel
theorem dX2_findPreferred_68 : decode cX2_findPreferred 68 = .ok (.istore_n 3, 1) := by decide +kernel
theorem dX2_findPreferred_69 : decode cX2_findPreferred 69 = .ok (.iconst 0, 1) := by decide +kernel
theorem dX2_findPreferred_70 : decode cX2_findPreferred 70 = .ok (.istore 4, 2) := by decide +kernel
theorem dX2_findPreferred_72 : decode cX2_findPreferred 72 = .ok (.iload 4, 2) := by decide +kernel
theorem dX2_findPreferred_74 : decode cX2_findPreferred 74 = .ok (.aload_n 0, 1) := by decide +kernel
theorem dX2_findPreferred_75 : decode cX2_findPreferred 75 = .ok (.getfield 92, 3) := by decide +kernel
theorem dX2_findPreferred_78 : decode cX2_findPreferred 78 = .ok (.if_icmp .ge 42, 3) := by decide +kernel
theorem dX2_findPreferred_81 : decode cX2_findPreferred 81 = .ok (.aload_n 0, 1) := by decide +kernel
theorem dX2_findPreferred_82 : decode cX2_findPreferred 82 = .ok (.getfield 35, 3) := by decide +kernel
theorem dX2_findPreferred_85 : decode cX2_findPreferred 85 = .ok (.iload 4, 2) := by decide +kernel
theorem dX2_findPreferred_87 : decode cX2_findPreferred 87 = .ok (.aload_n 0, 1) := by decide +kernel
theorem dX2_findPreferred_88 : decode cX2_findPreferred 88 = .ok (.getfield 35, 3) := by decide +kernel
theorem dX2_findPreferred_91 : decode cX2_findPreferred 91 = .ok (.iload 4, 2) := by decide +kernel
theorem dX2_findPreferred_93 : decode cX2_findPreferred 93 = .ok (.baload, 1) := by decide +kernel
theorem dX2_findPreferred_94 : decode cX2_findPreferred 94 = .ok (.ifCond .ne 14, 3) := by decide +kernel
theorem dX2_findPreferred_97 : decode cX2_findPreferred 97 = .ok (.aload_n 0, 1) := by decide +kernel
theorem dX2_findPreferred_98 : decode cX2_findPreferred 98 = .ok (.getfield 32, 3) := by decide +kernel
theorem dX2_findPreferred_101 : decode cX2_findPreferred 101 = .ok (.iload 4, 2) := by decide +kernel
theorem dX2_findPreferred_103 : decode cX2_findPreferred 103 = .ok (.iaload, 1) := by decide +kernel
theorem dX2_findPreferred_104 : decode cX2_findPreferred 104 = .ok (.iload_n 3, 1) := by decide +kernel
theorem dX2_findPreferred_105 : decode cX2_findPreferred 105 = .ok (.if_icmp .ne 7, 3) := by decide +kernel
theorem dX2_findPreferred_108 : decode cX2_findPreferred 108 = .ok (.iconst 1, 1) := by decide +kernel
theorem dX2_findPreferred_109 : decode cX2_findPreferred 109 = .ok (.goto 4, 3) := by decide +kernel
theorem dX2_findPreferred_112 : decode cX2_findPreferred 112 = .ok (.iconst 0, 1) := by decide +kernel
theorem dX2_findPreferred_113 : decode cX2_findPreferred 113 = .ok (.bastore, 1) := by decide +kernel
theorem dX2_findPreferred_114 : decode cX2_findPreferred 114 = .ok (.iinc 4 1, 3) := by decide +kernel
theorem dX2_findPreferred_117 : decode cX2_findPreferred 117 = .ok (.goto (-45), 3) := by decide +kernel
theorem dX2_findPreferred_120 : decode cX2_findPreferred 120 = .ok (.iinc 2 1, 3) := by decide +kernel
theorem dX2_findPreferred_123 : decode cX2_findPreferred 123 = .ok (.goto (-89), 3) := by decide +kernel
theorem dX2_findPreferred_126 : decode cX2_findPreferred 126 = .ok (.return_, 1) := by decide +kernel
set_option maxRecDepth 20000 in
theorem ggX2_extensionCount_X2_find : GoodIn wsX2_extensionCount wsX2_find := goodIn_r _ [7, 2, 8, 9, 10, 11, 12, 6, 13, 14, 15, 16, 17, 18, 19, 20, 21, 22, 23, 24, 25, 26, 27, 28, 29, 30, 31, 32, 33, 34, 35, 36, 37, 38, 39, 40, 41, 42, 43, 44, 45, 46, 47, 48, 49, 50, 51] (by decide +kernel) (by decide +kernel)
set_option maxRecDepth 20000 in
theorem gX2_extensionCount_X2_find : GoodIn wsX2_extensionCount (wsV RX2 95 RX2 yX2_find wsX2_find) := goodIn_app (goodIn_of _ (by decide +kernel)) ggX2_extensionCount_X2_find
theorem dX2_extensionCount_0 : decode cX2_extensionCount 0 = .ok (.aload_n 0, 1) := by decide +kernel
end
section
theorem dX2_extensionCount_1 : decode cX2_extensionCount 1 = .ok (.iconst 0, 1) := by decide +kernel
theorem dX2_extensionCount_2 : decode cX2_extensionCount 2 = .ok (.putfield 38, 3) := by decide +kernel
theorem dX2_extensionCount_5 : decode cX2_extensionCount 5 = .ok (.aload_n 0, 1) := by decide +kernel
theorem dX2_extensionCount_6 : decode cX2_extensionCount 6 = .ok (.invokevirtual 95, 3) := by decide +kernel
theorem dX2_extensionCount_9 : decode cX2_extensionCount 9 = .ok (.aload_n 0, 1) := by decide +kernel
theorem dX2_extensionCount_10 : decode cX2_extensionCount 10 = .ok (.getfield 92, 3) := by decide +kernel
theorem dX2_extensionCount_13 : decode cX2_extensionCount 13 = .ok (.ireturn, 1) := by decide +kernel
set_option maxRecDepth 20000 in
theorem ggX2_asks_X2_find : GoodIn wsX2_asks wsX2_find := goodIn_r _ [7, 1, 8, 9, 10, 11, 12, 6, 13, 14, 15, 16, 17, 18, 19, 20, 21, 22, 23, 24, 25, 26, 27, 28, 29, 30, 31, 32, 33, 34, 35, 36, 37, 38, 39, 40, 41, 42, 43, 44, 45, 46, 47, 48, 49, 50, 51] (by decide +kernel) (by decide +kernel)
set_option maxRecDepth 20000 in
theorem gX2_asks_X2_find : GoodIn wsX2_asks (wsV RX2 95 RX2 yX2_find wsX2_find) := goodIn_app (goodIn_of _ (by decide +kernel)) ggX2_asks_X2_find
theorem dX2_asks_0 : decode cX2_asks 0 = .ok (.aload_n 0, 1) := by decide +kernel
theorem dX2_asks_1 : decode cX2_asks 1 = .ok (.invokevirtual 95, 3) := by decide +kernel
theorem dX2_asks_4 : decode cX2_asks 4 = .ok (.aload_n 0, 1) := by decide +kernel
theorem dX2_asks_5 : decode cX2_asks 5 = .ok (.iload_n 1, 1) := by decide +kernel
theorem dX2_asks_6 : decode cX2_asks 6 = .ok (.ifCond .lt 15, 3) := by decide +kernel
theorem dX2_asks_9 : decode cX2_asks 9 = .ok (.iload_n 1, 1) := by decide +kernel
theorem dX2_asks_10 : decode cX2_asks 10 = .ok (.aload_n 0, 1) := by decide +kernel
theorem dX2_asks_11 : decode cX2_asks 11 = .ok (.getfield 92, 3) := by decide +kernel
theorem dX2_asks_14 : decode cX2_asks 14 = .ok (.if_icmp .ge 7, 3) := by decide +kernel
theorem dX2_asks_17 : decode cX2_asks 17 = .ok (.iconst 0, 1) := by decide +kernel
theorem dX2_asks_18 : decode cX2_asks 18 = .ok (.goto 4, 3) := by decide +kernel
theorem dX2_asks_21 : decode cX2_asks 21 = .ok (.iconst 1, 1) := by decide +kernel
theorem dX2_asks_22 : decode cX2_asks 22 = .ok (.putfield 38, 3) := by decide +kernel
theorem dX2_asks_25 : decode cX2_asks 25 = .ok (.aload_n 0, 1) := by decide +kernel
theorem dX2_asks_26 : decode cX2_asks 26 = .ok (.getfield 38, 3) := by decide +kernel
theorem dX2_asks_29 : decode cX2_asks 29 = .ok (.ifCond .ne 7, 3) := by decide +kernel
theorem dX2_asks_32 : decode cX2_asks 32 = .ok (.iconst 1, 1) := by decide +kernel
theorem dX2_asks_33 : decode cX2_asks 33 = .ok (.goto 4, 3) := by decide +kernel
theorem dX2_asks_36 : decode cX2_asks 36 = .ok (.iconst 0, 1) := by decide +kernel
theorem dX2_asks_37 : decode cX2_asks 37 = .ok (.ireturn, 1) := by decide +kernel
set_option maxRecDepth 20000 in
theorem ggX2_extension_X2_asks : GoodIn wsX2_extension wsX2_asks := goodIn_r _ [6, 7, 8, 9, 10, 11, 5, 12, 13, 1, 14, 15, 16, 17, 18, 19, 20, 21, 22, 23, 24, 25, 26, 27, 28, 29, 30, 31, 32, 33, 34, 35, 36, 37, 38, 39, 40, 41, 42, 43, 44, 45, 46, 47, 48, 49, 50, 51, 52, 53, 54, 55] (by decide +kernel) (by decide +kernel)
set_option maxRecDepth 20000 in
theorem gX2_extension_X2_asks : GoodIn wsX2_extension (wsV RX2 114 RX2 yX2_asks wsX2_asks) := goodIn_app (goodIn_of _ (by decide +kernel)) ggX2_extension_X2_asks
theorem dX2_extension_0 : decode cX2_extension 0 = .ok (.aload_n 0, 1) := by decide +kernel
theorem dX2_extension_1 : decode cX2_extension 1 = .ok (.iload_n 1, 1) := by decide +kernel
theorem dX2_extension_2 : decode cX2_extension 2 = .ok (.invokevirtual 114, 3) := by decide +kernel
theorem dX2_extension_5 : decode cX2_extension 5 = .ok (.ifCond .eq 12, 3) := by decide +kernel
theorem dX2_extension_8 : decode cX2_extension 8 = .ok (.aload_n 0, 1) := by decide +kernel
theorem dX2_extension_9 : decode cX2_extension 9 = .ok (.getfield 32, 3) := by decide +kernel
theorem dX2_extension_12 : decode cX2_extension 12 = .ok (.iload_n 1, 1) := by decide +kernel
theorem dX2_extension_13 : decode cX2_extension 13 = .ok (.iaload, 1) := by decide +kernel
theorem dX2_extension_14 : decode cX2_extension 14 = .ok (.goto 4, 3) := by decide +kernel
theorem dX2_extension_17 : decode cX2_extension 17 = .ok (.iconst 0, 1) := by decide +kernel
theorem dX2_extension_18 : decode cX2_extension 18 = .ok (.ireturn, 1) := by decide +kernel
set_option maxRecDepth 20000 in
theorem ggX2_isPreferred_X2_asks : GoodIn wsX2_isPreferred wsX2_asks := goodIn_r _ [6, 7, 8, 9, 10, 11, 5, 12, 13, 14, 15, 16, 17, 18, 19, 20, 21, 22, 23, 24, 25, 26, 27, 28, 29, 30, 31, 32, 33, 34, 35, 36, 37, 38, 39, 40, 41, 77, 78, 79, 80, 81, 82, 83, 84, 85, 86, 87, 88, 89, 90, 91] (by decide +kernel) (by decide +kernel)
set_option maxRecDepth 20000 in
theorem gX2_isPreferred_X2_asks : GoodIn wsX2_isPreferred (wsV RX2 114 RX2 yX2_asks wsX2_asks) := goodIn_app (goodIn_of _ (by decide +kernel)) ggX2_isPreferred_X2_asks
set_option maxRecDepth 20000 in
theorem ggX2_isPreferred_X2_findPreferred : GoodIn wsX2_isPreferred wsX2_findPreferred := goodIn_r _ [45, 7, 1, 46, 14, 9, 10, 11, 5, 12, 13, 15, 16, 17, 18, 19, 20, 21, 22, 23, 24, 25, 26, 27, 28, 29, 30, 31, 32, 33, 34, 35, 36, 37, 38, 39, 40, 41, 47, 48, 49, 50, 51, 52, 53, 54, 55, 56, 57, 58, 59, 60, 61, 62, 63, 64, 65, 66, 67, 68, 69, 70, 71, 72, 73, 74, 75, 76, 77, 78, 79, 80, 81, 82, 83, 84, 85, 86, 87, 88, 89, 90, 91] (by decide +kernel) (by decide +kernel)
set_option maxRecDepth 20000 in
theorem gX2_isPreferred_X2_findPreferred : GoodIn wsX2_isPreferred (wsV RX2 117 RX2 yX2_findPreferred wsX2_findPreferred) := goodIn_app (goodIn_of _ (by decide +kernel)) ggX2_isPreferred_X2_findPreferred
theorem dX2_isPreferred_0 : decode cX2_isPreferred 0 = .ok (.aload_n 0, 1) := by decide +kernel
theorem dX2_isPreferred_1 : decode cX2_isPreferred 1 = .ok (.iload_n 1, 1) := by decide +kernel
theorem dX2_isPreferred_2 : decode cX2_isPreferred 2 = .ok (.invokevirtual 114, 3) := by decide +kernel
theorem dX2_isPreferred_5 : decode cX2_isPreferred 5 = .ok (.ifCond .ne 5, 3) := by decide +kernel
theorem dX2_isPreferred_8 : decode cX2_isPreferred 8 = .ok (.iconst 0, 1) := by decide +kernel
theorem dX2_isPreferred_9 : decode cX2_isPreferred 9 = .ok (.ireturn, 1) := by decide +kernel
theorem dX2_isPreferred_10 : decode cX2_isPreferred 10 = .ok (.aload_n 0, 1) := by decide +kernel
theorem dX2_isPreferred_11 : decode cX2_isPreferred 11 = .ok (.invokevirtual 117, 3) := by decide +kernel
theorem dX2_isPreferred_14 : decode cX2_isPreferred 14 = .ok (.aload_n 0, 1) := by decide +kernel
theorem dX2_isPreferred_15 : decode cX2_isPreferred 15 = .ok (.getfield 35, 3) := by decide +kernel
theorem dX2_isPreferred_18 : decode cX2_isPreferred 18 = .ok (.iload_n 1, 1) := by decide +kernel
theorem dX2_isPreferred_19 : decode cX2_isPreferred 19 = .ok (.baload, 1) := by decide +kernel
theorem dX2_isPreferred_20 : decode cX2_isPreferred 20 = .ok (.ireturn, 1) := by decide +kernel
set_option maxRecDepth 20000 in
theorem ggX2_preferred_X2_findPreferred : GoodIn wsX2_preferred wsX2_findPreferred := goodIn_r _ [7, 1, 2, 8, 9, 10, 11, 12, 6, 13, 14, 15, 16, 17, 18, 19, 20, 21, 22, 23, 24, 25, 26, 27, 28, 29, 30, 31, 32, 33, 34, 35, 36, 37, 38, 39, 40, 41, 42, 43, 44, 45, 46, 47, 48, 49, 50, 51, 52, 53, 54, 55, 56, 57, 58, 59, 60, 61, 62, 63, 64, 65, 66, 67, 68, 69, 70, 71, 72, 73, 74, 75, 76, 77, 78, 79, 80, 81, 82, 83, 84, 85, 86] (by decide +kernel) (by decide +kernel)
set_option maxRecDepth 20000 in
theorem gX2_preferred_X2_findPreferred : GoodIn wsX2_preferred (wsV RX2 117 RX2 yX2_findPreferred wsX2_findPreferred) := goodIn_app (goodIn_of _ (by decide +kernel)) ggX2_preferred_X2_findPreferred
theorem dX2_preferred_0 : decode cX2_preferred 0 = .ok (.aload_n 0, 1) := by decide +kernel
theorem dX2_preferred_1 : decode cX2_preferred 1 = .ok (.invokevirtual 117, 3) := by decide +kernel
theorem dX2_preferred_4 : decode cX2_preferred 4 = .ok (.iconst 0, 1) := by decide +kernel
theorem dX2_preferred_5 : decode cX2_preferred 5 = .ok (.istore_n 1, 1) := by decide +kernel
theorem dX2_preferred_6 : decode cX2_preferred 6 = .ok (.iconst 0, 1) := by decide +kernel
theorem dX2_preferred_7 : decode cX2_preferred 7 = .ok (.istore_n 2, 1) := by decide +kernel
theorem dX2_preferred_8 : decode cX2_preferred 8 = .ok (.iload_n 2, 1) := by decide +kernel
theorem dX2_preferred_9 : decode cX2_preferred 9 = .ok (.aload_n 0, 1) := by decide +kernel
theorem dX2_preferred_10 : decode cX2_preferred 10 = .ok (.getfield 92, 3) := by decide +kernel
theorem dX2_preferred_13 : decode cX2_preferred 13 = .ok (.if_icmp .ge 26, 3) := by decide +kernel
theorem dX2_preferred_16 : decode cX2_preferred 16 = .ok (.iload_n 1, 1) := by decide +kernel
theorem dX2_preferred_17 : decode cX2_preferred 17 = .ok (.aload_n 0, 1) := by decide +kernel
theorem dX2_preferred_18 : decode cX2_preferred 18 = .ok (.getfield 35, 3) := by decide +kernel
theorem dX2_preferred_21 : decode cX2_preferred 21 = .ok (.iload_n 2, 1) := by decide +kernel
theorem dX2_preferred_22 : decode cX2_preferred 22 = .ok (.baload, 1) := by decide +kernel
theorem dX2_preferred_23 : decode cX2_preferred 23 = .ok (.ifCond .eq 7, 3) := by decide +kernel
theorem dX2_preferred_26 : decode cX2_preferred 26 = .ok (.iconst 1, 1) := by decide +kernel
theorem dX2_preferred_27 : decode cX2_preferred 27 = .ok (.goto 4, 3) := by decide +kernel
theorem dX2_preferred_30 : decode cX2_preferred 30 = .ok (.iconst 0, 1) := by decide +kernel
theorem dX2_preferred_31 : decode cX2_preferred 31 = .ok (.iadd, 1) := by decide +kernel
theorem dX2_preferred_32 : decode cX2_preferred 32 = .ok (.istore_n 1, 1) := by decide +kernel
theorem dX2_preferred_33 : decode cX2_preferred 33 = .ok (.iinc 2 1, 3) := by decide +kernel
theorem dX2_preferred_36 : decode cX2_preferred 36 = .ok (.goto (-28), 3) := by decide +kernel
theorem dX2_preferred_39 : decode cX2_preferred 39 = .ok (.iload_n 1, 1) := by decide +kernel
theorem dX2_preferred_40 : decode cX2_preferred 40 = .ok (.ireturn, 1) := by decide +kernel
set_option maxRecDepth 20000 in
theorem ggX2_preferredCount_X2_preferred : GoodIn wsX2_preferredCount wsX2_preferred := goodIn_r _ [6, 7, 8, 9, 10, 11, 5, 12, 13, 14, 15, 16, 17, 18, 19, 20, 21, 22, 23, 24, 25, 26, 27, 28, 29, 30, 31, 32, 33, 34, 35, 36, 37, 38, 39, 40, 41, 42, 43, 44, 45, 46, 47, 48, 49, 50, 51, 52, 53, 54, 55, 56, 57, 58, 59, 60, 61, 62, 63, 64, 65, 66, 67, 68, 69, 70, 71, 72, 73, 74, 75, 76, 77, 78, 79, 80, 81, 82, 83, 84, 85, 86, 87, 88, 89, 90, 91] (by decide +kernel) (by decide +kernel)
set_option maxRecDepth 20000 in
theorem gX2_preferredCount_X2_preferred : GoodIn wsX2_preferredCount (wsV RX2 120 RX2 yX2_preferred wsX2_preferred) := goodIn_app (goodIn_of _ (by decide +kernel)) ggX2_preferredCount_X2_preferred
theorem dX2_preferredCount_0 : decode cX2_preferredCount 0 = .ok (.aload_n 0, 1) := by decide +kernel
theorem dX2_preferredCount_1 : decode cX2_preferredCount 1 = .ok (.iconst 0, 1) := by decide +kernel
theorem dX2_preferredCount_2 : decode cX2_preferredCount 2 = .ok (.putfield 38, 3) := by decide +kernel
theorem dX2_preferredCount_5 : decode cX2_preferredCount 5 = .ok (.aload_n 0, 1) := by decide +kernel
theorem dX2_preferredCount_6 : decode cX2_preferredCount 6 = .ok (.invokevirtual 120, 3) := by decide +kernel
theorem dX2_preferredCount_9 : decode cX2_preferredCount 9 = .ok (.ireturn, 1) := by decide +kernel
set_option maxRecDepth 20000 in
theorem ggX2_supports_X2_isLiteral : GoodIn wsX2_supports wsX2_isLiteral := goodIn_r _ [7] (by decide +kernel) (by decide +kernel)
set_option maxRecDepth 20000 in
theorem gX2_supports_X2_isLiteral : GoodIn wsX2_supports (va_wsS RX2 46 yX2_isLiteral wsX2_isLiteral) := goodIn_app (goodIn_of _ (by decide +kernel)) ggX2_supports_X2_isLiteral
set_option maxRecDepth 20000 in
theorem ggX2_supports_X2_fail : GoodIn wsX2_supports wsX2_fail := goodIn_r _ [11, 1, 44, 45, 46, 47, 48, 49, 50, 51, 52, 53, 54, 55, 56, 57, 58] (by decide +kernel) (by decide +kernel)
set_option maxRecDepth 20000 in
theorem gX2_supports_X2_fail : GoodIn wsX2_supports (wsV RX2 53 RX2 yX2_fail wsX2_fail) := goodIn_app (goodIn_of _ (by decide +kernel)) ggX2_supports_X2_fail
set_option maxRecDepth 20000 in
theorem ggX2_supports_X2_find : GoodIn wsX2_supports wsX2_find := goodIn_r _ [15, 2, 16, 3, 17, 18, 19, 6, 20, 21, 22, 23, 24, 25, 26, 27, 28, 29, 30, 31, 32, 33, 34, 35, 36, 37, 38, 39, 40, 41, 42, 43, 44, 45, 46, 47, 48, 49, 50, 51, 52, 53, 54, 55, 56, 57, 58] (by decide +kernel) (by decide +kernel)
set_option maxRecDepth 20000 in
theorem gX2_supports_X2_find : GoodIn wsX2_supports (wsV RX2 95 RX2 yX2_find wsX2_find) := goodIn_app (goodIn_of _ (by decide +kernel)) ggX2_supports_X2_find
theorem dX2_supports_0 : decode cX2_supports 0 = .ok (.aload_n 0, 1) := by decide +kernel
theorem dX2_supports_1 : decode cX2_supports 1 = .ok (.iconst 0, 1) := by decide +kernel
theorem dX2_supports_2 : decode cX2_supports 2 = .ok (.putfield 38, 3) := by decide +kernel
theorem dX2_supports_5 : decode cX2_supports 5 = .ok (.iload_n 1, 1) := by decide +kernel
theorem dX2_supports_6 : decode cX2_supports 6 = .ok (.invokestatic 46, 3) := by decide +kernel
theorem dX2_supports_9 : decode cX2_supports 9 = .ok (.ifCond .ne 9, 3) := by decide +kernel
theorem dX2_supports_12 : decode cX2_supports 12 = .ok (.aload_n 0, 1) := by decide +kernel
theorem dX2_supports_13 : decode cX2_supports 13 = .ok (.iconst 1, 1) := by decide +kernel
theorem dX2_supports_14 : decode cX2_supports 14 = .ok (.invokevirtual 53, 3) := by decide +kernel
theorem dX2_supports_17 : decode cX2_supports 17 = .ok (.ireturn, 1) := by decide +kernel
theorem dX2_supports_18 : decode cX2_supports 18 = .ok (.aload_n 0, 1) := by decide +kernel
theorem dX2_supports_19 : decode cX2_supports 19 = .ok (.invokevirtual 95, 3) := by decide +kernel
theorem dX2_supports_22 : decode cX2_supports 22 = .ok (.iconst 0, 1) := by decide +kernel
theorem dX2_supports_23 : decode cX2_supports 23 = .ok (.istore_n 2, 1) := by decide +kernel
theorem dX2_supports_24 : decode cX2_supports 24 = .ok (.iconst 0, 1) := by decide +kernel
theorem dX2_supports_25 : decode cX2_supports 25 = .ok (.istore_n 3, 1) := by decide +kernel
theorem dX2_supports_26 : decode cX2_supports 26 = .ok (.iload_n 3, 1) := by decide +kernel
theorem dX2_supports_27 : decode cX2_supports 27 = .ok (.aload_n 0, 1) := by decide +kernel
theorem dX2_supports_28 : decode cX2_supports 28 = .ok (.getfield 92, 3) := by decide +kernel
theorem dX2_supports_31 : decode cX2_supports 31 = .ok (.if_icmp .ge 22, 3) := by decide +kernel
theorem dX2_supports_34 : decode cX2_supports 34 = .ok (.iload_n 2, 1) := by decide +kernel
theorem dX2_supports_35 : decode cX2_supports 35 = .ok (.aload_n 0, 1) := by decide +kernel
theorem dX2_supports_36 : decode cX2_supports 36 = .ok (.getfield 32, 3) := by decide +kernel
theorem dX2_supports_39 : decode cX2_supports 39 = .ok (.iload_n 3, 1) := by decide +kernel
theorem dX2_supports_40 : decode cX2_supports 40 = .ok (.iaload, 1) := by decide +kernel
theorem dX2_supports_41 : decode cX2_supports 41 = .ok (.iload_n 1, 1) := by decide +kernel
theorem dX2_supports_42 : decode cX2_supports 42 = .ok (.ishr, 1) := by decide +kernel
theorem dX2_supports_43 : decode cX2_supports 43 = .ok (.iconst 1, 1) := by decide +kernel
theorem dX2_supports_44 : decode cX2_supports 44 = .ok (.iand, 1) := by decide +kernel
theorem dX2_supports_45 : decode cX2_supports 45 = .ok (.iadd, 1) := by decide +kernel
theorem dX2_supports_46 : decode cX2_supports 46 = .ok (.istore_n 2, 1) := by decide +kernel
theorem dX2_supports_47 : decode cX2_supports 47 = .ok (.iinc 3 1, 3) := by decide +kernel
theorem dX2_supports_50 : decode cX2_supports 50 = .ok (.goto (-24), 3) := by decide +kernel
theorem dX2_supports_53 : decode cX2_supports 53 = .ok (.iload_n 2, 1) := by decide +kernel
theorem dX2_supports_54 : decode cX2_supports 54 = .ok (.ireturn, 1) := by decide +kernel
set_option maxRecDepth 20000 in
theorem ggX2_common_X2_findPreferred : GoodIn wsX2_common wsX2_findPreferred := goodIn_r _ [10, 3, 4, 11, 5, 12, 13, 14, 9, 15, 16, 17, 18, 19, 20, 21, 22, 23, 24, 25, 26, 27, 28, 29, 2, 30, 31, 32, 33, 34, 35, 36, 37, 38, 39, 40, 41, 42, 43, 44, 45, 46, 47, 48, 49, 50, 51, 52, 53, 54, 55, 56, 57, 58, 59, 60, 61, 62, 63, 64, 65, 66, 67, 68, 69, 70, 71, 72, 73, 74, 75, 76, 77, 78, 79, 80, 81, 82, 83, 84, 85, 86, 87] (by decide +kernel) (by decide +kernel)
set_option maxRecDepth 20000 in
theorem gX2_common_X2_findPreferred : GoodIn wsX2_common (wsV RX2 117 RX2 yX2_findPreferred wsX2_findPreferred) := goodIn_app (goodIn_of _ (by decide +kernel)) ggX2_common_X2_findPreferred
theorem dX2_common_0 : decode cX2_common 0 = .ok (.aload_n 0, 1) := by decide +kernel
theorem dX2_common_1 : decode cX2_common 1 = .ok (.iconst 0, 1) := by decide +kernel
theorem dX2_common_2 : decode cX2_common 2 = .ok (.putfield 38, 3) := by decide +kernel
theorem dX2_common_5 : decode cX2_common 5 = .ok (.aload_n 0, 1) := by decide +kernel
theorem dX2_common_6 : decode cX2_common 6 = .ok (.invokevirtual 117, 3) := by decide +kernel
theorem dX2_common_9 : decode cX2_common 9 = .ok (.ldc 42, 2) := by decide +kernel
theorem dX2_common_11 : decode cX2_common 11 = .ok (.istore_n 2, 1) := by decide +kernel
theorem dX2_common_12 : decode cX2_common 12 = .ok (.iconst 0, 1) := by decide +kernel
theorem dX2_common_13 : decode cX2_common 13 = .ok (.istore_n 3, 1) := by decide +kernel
theorem dX2_common_14 : decode cX2_common 14 = .ok (.iload_n 3, 1) := by decide +kernel
theorem dX2_common_15 : decode cX2_common 15 = .ok (.aload_n 0, 1) := by decide +kernel
theorem dX2_common_16 : decode cX2_common 16 = .ok (.getfield 92, 3) := by decide +kernel
theorem dX2_common_19 : decode cX2_common 19 = .ok (.if_icmp .ge 31, 3) := by decide +kernel
theorem dX2_common_22 : decode cX2_common 22 = .ok (.aload_n 0, 1) := by decide +kernel
theorem dX2_common_23 : decode cX2_common 23 = .ok (.getfield 35, 3) := by decide +kernel
theorem dX2_common_26 : decode cX2_common 26 = .ok (.iload_n 3, 1) := by decide +kernel
theorem dX2_common_27 : decode cX2_common 27 = .ok (.baload, 1) := by decide +kernel
theorem dX2_common_28 : decode cX2_common 28 = .ok (.ifCond .ne 7, 3) := by decide +kernel
theorem dX2_common_31 : decode cX2_common 31 = .ok (.iload_n 1, 1) := by decide +kernel
theorem dX2_common_32 : decode cX2_common 32 = .ok (.ifCond .ne 12, 3) := by decide +kernel
theorem dX2_common_35 : decode cX2_common 35 = .ok (.iload_n 2, 1) := by decide +kernel
theorem dX2_common_36 : decode cX2_common 36 = .ok (.aload_n 0, 1) := by decide +kernel
theorem dX2_common_37 : decode cX2_common 37 = .ok (.getfield 32, 3) := by decide +kernel
theorem dX2_common_40 : decode cX2_common 40 = .ok (.iload_n 3, 1) := by decide +kernel
theorem dX2_common_41 : decode cX2_common 41 = .ok (.iaload, 1) := by decide +kernel
theorem dX2_common_42 : decode cX2_common 42 = .ok (.iand, 1) := by decide +kernel
theorem dX2_common_43 : decode cX2_common 43 = .ok (.istore_n 2, 1) := by decide +kernel
theorem dX2_common_44 : decode cX2_common 44 = .ok (.iinc 3 1, 3) := by decide +kernel
theorem dX2_common_47 : decode cX2_common 47 = .ok (.goto (-33), 3) := by decide +kernel
theorem dX2_common_50 : decode cX2_common 50 = .ok (.iload_n 2, 1) := by decide +kernel
theorem dX2_common_51 : decode cX2_common 51 = .ok (.ireturn, 1) := by decide +kernel
set_option maxRecDepth 20000 in
theorem ggX2_share_X2_isLiteral : GoodIn wsX2_share wsX2_isLiteral := goodIn_r _ [8] (by decide +kernel) (by decide +kernel)
set_option maxRecDepth 20000 in
theorem gX2_share_X2_isLiteral : GoodIn wsX2_share (va_wsS RX2 46 yX2_isLiteral wsX2_isLiteral) := goodIn_app (goodIn_of _ (by decide +kernel)) ggX2_share_X2_isLiteral
set_option maxRecDepth 20000 in
theorem ggX2_share_X2_preferred : GoodIn wsX2_share wsX2_preferred := goodIn_r _ [12, 2, 3, 13, 14, 15, 7, 16, 17, 4, 18, 19, 20, 21, 22, 23, 24, 25, 26, 27, 28, 29, 30, 31, 32, 33, 34, 35, 36, 37, 38, 39, 40, 41, 42, 43, 44, 45, 46, 47, 48, 49, 50, 51, 52, 53, 54, 55, 56, 57, 58, 59, 60, 61, 62, 63, 64, 65, 66, 67, 68, 69, 70, 71, 72, 73, 74, 75, 76, 77, 78, 79, 80, 81, 82, 83, 84, 85, 86, 87, 88, 89, 90, 91, 92, 93, 94] (by decide +kernel) (by decide +kernel)
set_option maxRecDepth 20000 in
theorem gX2_share_X2_preferred : GoodIn wsX2_share (wsV RX2 120 RX2 yX2_preferred wsX2_preferred) := goodIn_app (goodIn_of _ (by decide +kernel)) ggX2_share_X2_preferred
theorem dX2_share_0 : decode cX2_share 0 = .ok (.aload_n 0, 1) := by decide +kernel
theorem dX2_share_1 : decode cX2_share 1 = .ok (.iload_n 1, 1) := by decide +kernel
theorem dX2_share_2 : decode cX2_share 2 = .ok (.invokestatic 46, 3) := by decide +kernel
theorem dX2_share_5 : decode cX2_share 5 = .ok (.ifCond .eq 7, 3) := by decide +kernel
theorem dX2_share_8 : decode cX2_share 8 = .ok (.iconst 0, 1) := by decide +kernel
theorem dX2_share_9 : decode cX2_share 9 = .ok (.goto 4, 3) := by decide +kernel
theorem dX2_share_12 : decode cX2_share 12 = .ok (.iconst 1, 1) := by decide +kernel
theorem dX2_share_13 : decode cX2_share 13 = .ok (.putfield 38, 3) := by decide +kernel
theorem dX2_share_16 : decode cX2_share 16 = .ok (.aload_n 0, 1) := by decide +kernel
theorem dX2_share_17 : decode cX2_share 17 = .ok (.getfield 38, 3) := by decide +kernel
theorem dX2_share_20 : decode cX2_share 20 = .ok (.ifCond .eq 5, 3) := by decide +kernel
theorem dX2_share_23 : decode cX2_share 23 = .ok (.dconst 0, 1) := by decide +kernel
theorem dX2_share_24 : decode cX2_share 24 = .ok (.dreturn, 1) := by decide +kernel
theorem dX2_share_25 : decode cX2_share 25 = .ok (.aload_n 0, 1) := by decide +kernel
theorem dX2_share_26 : decode cX2_share 26 = .ok (.invokevirtual 120, 3) := by decide +kernel
theorem dX2_share_29 : decode cX2_share 29 = .ok (.istore_n 2, 1) := by decide +kernel
theorem dX2_share_30 : decode cX2_share 30 = .ok (.iconst 0, 1) := by decide +kernel
theorem dX2_share_31 : decode cX2_share 31 = .ok (.istore_n 3, 1) := by decide +kernel
theorem dX2_share_32 : decode cX2_share 32 = .ok (.iconst 0, 1) := by decide +kernel
theorem dX2_share_33 : decode cX2_share 33 = .ok (.istore 4, 2) := by decide +kernel
theorem dX2_share_35 : decode cX2_share 35 = .ok (.iload 4, 2) := by decide +kernel
theorem dX2_share_37 : decode cX2_share 37 = .ok (.aload_n 0, 1) := by decide +kernel
theorem dX2_share_38 : decode cX2_share 38 = .ok (.getfield 92, 3) := by decide +kernel
theorem dX2_share_41 : decode cX2_share 41 = .ok (.if_icmp .ge 37, 3) := by decide +kernel
theorem dX2_share_44 : decode cX2_share 44 = .ok (.iload_n 3, 1) := by decide +kernel
theorem dX2_share_45 : decode cX2_share 45 = .ok (.aload_n 0, 1) := by decide +kernel
theorem dX2_share_46 : decode cX2_share 46 = .ok (.getfield 35, 3) := by decide +kernel
theorem dX2_share_49 : decode cX2_share 49 = .ok (.iload 4, 2) := by decide +kernel
theorem dX2_share_51 : decode cX2_share 51 = .ok (.baload, 1) := by decide +kernel
theorem dX2_share_52 : decode cX2_share 52 = .ok (.ifCond .eq 17, 3) := by decide +kernel
theorem dX2_share_55 : decode cX2_share 55 = .ok (.aload_n 0, 1) := by decide +kernel
theorem dX2_share_56 : decode cX2_share 56 = .ok (.getfield 32, 3) := by decide +kernel
theorem dX2_share_59 : decode cX2_share 59 = .ok (.iload 4, 2) := by decide +kernel
theorem dX2_share_61 : decode cX2_share 61 = .ok (.iaload, 1) := by decide +kernel
theorem dX2_share_62 : decode cX2_share 62 = .ok (.iload_n 1, 1) := by decide +kernel
theorem dX2_share_63 : decode cX2_share 63 = .ok (.ishr, 1) := by decide +kernel
theorem dX2_share_64 : decode cX2_share 64 = .ok (.iconst 1, 1) := by decide +kernel
theorem dX2_share_65 : decode cX2_share 65 = .ok (.iand, 1) := by decide +kernel
theorem dX2_share_66 : decode cX2_share 66 = .ok (.goto 4, 3) := by decide +kernel
theorem dX2_share_69 : decode cX2_share 69 = .ok (.iconst 0, 1) := by decide +kernel
theorem dX2_share_70 : decode cX2_share 70 = .ok (.iadd, 1) := by decide +kernel
theorem dX2_share_71 : decode cX2_share 71 = .ok (.istore_n 3, 1) := by decide +kernel
theorem dX2_share_72 : decode cX2_share 72 = .ok (.iinc 4 1, 3) := by decide +kernel
theorem dX2_share_75 : decode cX2_share 75 = .ok (.goto (-40), 3) := by decide +kernel
theorem dX2_share_78 : decode cX2_share 78 = .ok (.iload_n 2, 1) := by decide +kernel
theorem dX2_share_79 : decode cX2_share 79 = .ok (.ifCond .ne 7, 3) := by decide +kernel
theorem dX2_share_82 : decode cX2_share 82 = .ok (.dconst 0, 1) := by decide +kernel
theorem dX2_share_83 : decode cX2_share 83 = .ok (.goto 8, 3) := by decide +kernel
theorem dX2_share_86 : decode cX2_share 86 = .ok (.iload_n 3, 1) := by decide +kernel
theorem dX2_share_87 : decode cX2_share 87 = .ok (.i2d, 1) := by decide +kernel
theorem dX2_share_88 : decode cX2_share 88 = .ok (.iload_n 2, 1) := by decide +kernel
theorem dX2_share_89 : decode cX2_share 89 = .ok (.i2d, 1) := by decide +kernel
theorem dX2_share_90 : decode cX2_share 90 = .ok (.ddiv, 1) := by decide +kernel
theorem dX2_share_91 : decode cX2_share 91 = .ok (.dreturn, 1) := by decide +kernel
theorem dX2_orders_0 : decode cX2_orders 0 = .ok (.iconst 1, 1) := by decide +kernel
theorem dX2_orders_1 : decode cX2_orders 1 = .ok (.istore_n 1, 1) := by decide +kernel
theorem dX2_orders_2 : decode cX2_orders 2 = .ok (.iconst 2, 1) := by decide +kernel
theorem dX2_orders_3 : decode cX2_orders 3 = .ok (.istore_n 2, 1) := by decide +kernel
theorem dX2_orders_4 : decode cX2_orders 4 = .ok (.iload_n 2, 1) := by decide +kernel
theorem dX2_orders_5 : decode cX2_orders 5 = .ok (.aload_n 0, 1) := by decide +kernel
theorem dX2_orders_6 : decode cX2_orders 6 = .ok (.getfield 43, 3) := by decide +kernel
theorem dX2_orders_9 : decode cX2_orders 9 = .ok (.if_icmp .gt 13, 3) := by decide +kernel
theorem dX2_orders_12 : decode cX2_orders 12 = .ok (.iload_n 1, 1) := by decide +kernel
theorem dX2_orders_13 : decode cX2_orders 13 = .ok (.iload_n 2, 1) := by decide +kernel
theorem dX2_orders_14 : decode cX2_orders 14 = .ok (.imul, 1) := by decide +kernel
theorem dX2_orders_15 : decode cX2_orders 15 = .ok (.istore_n 1, 1) := by decide +kernel
theorem dX2_orders_16 : decode cX2_orders 16 = .ok (.iinc 2 1, 3) := by decide +kernel
theorem dX2_orders_19 : decode cX2_orders 19 = .ok (.goto (-15), 3) := by decide +kernel
theorem dX2_orders_22 : decode cX2_orders 22 = .ok (.iload_n 1, 1) := by decide +kernel
theorem dX2_orders_23 : decode cX2_orders 23 = .ok (.ireturn, 1) := by decide +kernel
set_option maxRecDepth 20000 in
theorem ggX2_setOrder_X2_orders : GoodIn wsX2_setOrder wsX2_orders := goodIn_r _ [7, 2, 8, 9, 10, 11, 12, 13, 14, 15, 16, 17, 18, 19, 20, 21, 22] (by decide +kernel) (by decide +kernel)
set_option maxRecDepth 20000 in
theorem gX2_setOrder_X2_orders : GoodIn wsX2_setOrder (wsV RX2 98 RX2 yX2_orders wsX2_orders) := goodIn_app (goodIn_of _ (by decide +kernel)) ggX2_setOrder_X2_orders
theorem dX2_setOrder_0 : decode cX2_setOrder 0 = .ok (.bipush 6, 2) := by decide +kernel
theorem dX2_setOrder_2 : decode cX2_setOrder 2 = .ok (.newarray .boolean, 2) := by decide +kernel
theorem dX2_setOrder_4 : decode cX2_setOrder 4 = .ok (.astore_n 3, 1) := by decide +kernel
theorem dX2_setOrder_5 : decode cX2_setOrder 5 = .ok (.iload_n 2, 1) := by decide +kernel
theorem dX2_setOrder_6 : decode cX2_setOrder 6 = .ok (.istore 4, 2) := by decide +kernel
theorem dX2_setOrder_8 : decode cX2_setOrder 8 = .ok (.aload_n 0, 1) := by decide +kernel
theorem dX2_setOrder_9 : decode cX2_setOrder 9 = .ok (.invokevirtual 98, 3) := by decide +kernel
theorem dX2_setOrder_12 : decode cX2_setOrder 12 = .ok (.istore 5, 2) := by decide +kernel
theorem dX2_setOrder_14 : decode cX2_setOrder 14 = .ok (.iconst 0, 1) := by decide +kernel
theorem dX2_setOrder_15 : decode cX2_setOrder 15 = .ok (.istore 6, 2) := by decide +kernel
theorem dX2_setOrder_17 : decode cX2_setOrder 17 = .ok (.iload 6, 2) := by decide +kernel
theorem dX2_setOrder_19 : decode cX2_setOrder 19 = .ok (.aload_n 0, 1) := by decide +kernel
theorem dX2_setOrder_20 : decode cX2_setOrder 20 = .ok (.getfield 43, 3) := by decide +kernel
theorem dX2_setOrder_23 : decode cX2_setOrder 23 = .ok (.if_icmp .ge 84, 3) := by decide +kernel
theorem dX2_setOrder_26 : decode cX2_setOrder 26 = .ok (.iload 5, 2) := by decide +kernel
theorem dX2_setOrder_28 : decode cX2_setOrder 28 = .ok (.aload_n 0, 1) := by decide +kernel
theorem dX2_setOrder_29 : decode cX2_setOrder 29 = .ok (.getfield 43, 3) := by decide +kernel
theorem dX2_setOrder_32 : decode cX2_setOrder 32 = .ok (.iload 6, 2) := by decide +kernel
theorem dX2_setOrder_34 : decode cX2_setOrder 34 = .ok (.isub, 1) := by decide +kernel
theorem dX2_setOrder_35 : decode cX2_setOrder 35 = .ok (.idiv, 1) := by decide +kernel
theorem dX2_setOrder_36 : decode cX2_setOrder 36 = .ok (.istore 5, 2) := by decide +kernel
theorem dX2_setOrder_38 : decode cX2_setOrder 38 = .ok (.iload 4, 2) := by decide +kernel
theorem dX2_setOrder_40 : decode cX2_setOrder 40 = .ok (.iload 5, 2) := by decide +kernel
theorem dX2_setOrder_42 : decode cX2_setOrder 42 = .ok (.idiv, 1) := by decide +kernel
theorem dX2_setOrder_43 : decode cX2_setOrder 43 = .ok (.istore 7, 2) := by decide +kernel
theorem dX2_setOrder_45 : decode cX2_setOrder 45 = .ok (.iload 4, 2) := by decide +kernel
theorem dX2_setOrder_47 : decode cX2_setOrder 47 = .ok (.iload 5, 2) := by decide +kernel
theorem dX2_setOrder_49 : decode cX2_setOrder 49 = .ok (.irem, 1) := by decide +kernel
theorem dX2_setOrder_50 : decode cX2_setOrder 50 = .ok (.istore 4, 2) := by decide +kernel
theorem dX2_setOrder_52 : decode cX2_setOrder 52 = .ok (.iconst 0, 1) := by decide +kernel
theorem dX2_setOrder_53 : decode cX2_setOrder 53 = .ok (.istore 8, 2) := by decide +kernel
theorem dX2_setOrder_55 : decode cX2_setOrder 55 = .ok (.aload_n 3, 1) := by decide +kernel
theorem dX2_setOrder_56 : decode cX2_setOrder 56 = .ok (.iload 8, 2) := by decide +kernel
theorem dX2_setOrder_58 : decode cX2_setOrder 58 = .ok (.baload, 1) := by decide +kernel
theorem dX2_setOrder_59 : decode cX2_setOrder 59 = .ok (.ifCond .ne 8, 3) := by decide +kernel
theorem dX2_setOrder_62 : decode cX2_setOrder 62 = .ok (.iload 7, 2) := by decide +kernel
theorem dX2_setOrder_64 : decode cX2_setOrder 64 = .ok (.ifCond .le 26, 3) := by decide +kernel
theorem dX2_setOrder_67 : decode cX2_setOrder 67 = .ok (.iload 7, 2) := by decide +kernel
theorem dX2_setOrder_69 : decode cX2_setOrder 69 = .ok (.aload_n 3, 1) := by decide +kernel
theorem dX2_setOrder_70 : decode cX2_setOrder 70 = .ok (.iload 8, 2) := by decide +kernel
theorem dX2_setOrder_72 : decode cX2_setOrder 72 = .ok (.baload, 1) := by decide +kernel
theorem dX2_setOrder_73 : decode cX2_setOrder 73 = .ok (.ifCond .eq 7, 3) := by decide +kernel
theorem dX2_setOrder_76 : decode cX2_setOrder 76 = .ok (.iconst 0, 1) := by decide +kernel
theorem dX2_setOrder_77 : decode cX2_setOrder 77 = .ok (.goto 4, 3) := by decide +kernel
theorem dX2_setOrder_80 : decode cX2_setOrder 80 = .ok (.iconst 1, 1) := by decide +kernel
theorem dX2_setOrder_81 : decode cX2_setOrder 81 = .ok (.isub, 1) := by decide +kernel
theorem dX2_setOrder_82 : decode cX2_setOrder 82 = .ok (.istore 7, 2) := by decide +kernel
theorem dX2_setOrder_84 : decode cX2_setOrder 84 = .ok (.iinc 8 1, 3) := by decide +kernel
theorem dX2_setOrder_87 : decode cX2_setOrder 87 = .ok (.goto (-32), 3) := by decide +kernel
theorem dX2_setOrder_90 : decode cX2_setOrder 90 = .ok (.aload_n 3, 1) := by decide +kernel
theorem dX2_setOrder_91 : decode cX2_setOrder 91 = .ok (.iload 8, 2) := by decide +kernel
theorem dX2_setOrder_93 : decode cX2_setOrder 93 = .ok (.iconst 1, 1) := by decide +kernel
theorem dX2_setOrder_94 : decode cX2_setOrder 94 = .ok (.bastore, 1) := by decide +kernel
theorem dX2_setOrder_95 : decode cX2_setOrder 95 = .ok (.aload_n 1, 1) := by decide +kernel
theorem dX2_setOrder_96 : decode cX2_setOrder 96 = .ok (.iload 6, 2) := by decide +kernel
theorem dX2_setOrder_98 : decode cX2_setOrder 98 = .ok (.iload 8, 2) := by decide +kernel
theorem dX2_setOrder_100 : decode cX2_setOrder 100 = .ok (.iastore, 1) := by decide +kernel
theorem dX2_setOrder_101 : decode cX2_setOrder 101 = .ok (.iinc 6 1, 3) := by decide +kernel
theorem dX2_setOrder_104 : decode cX2_setOrder 104 = .ok (.goto (-87), 3) := by decide +kernel
theorem dX2_setOrder_107 : decode cX2_setOrder 107 = .ok (.return_, 1) := by decide +kernel
set_option maxRecDepth 20000 in
theorem ggX2_respects_X2_before : GoodIn wsX2_respects wsX2_before := goodIn_r _ [6, 7, 8, 9, 5, 10, 11, 1, 12, 13, 14, 15, 16, 17, 18, 19, 20, 21, 22, 23, 24, 25, 26] (by decide +kernel) (by decide +kernel)
set_option maxRecDepth 20000 in
theorem gX2_respects_X2_before : GoodIn wsX2_respects (wsV RX2 70 RX2 yX2_before wsX2_before) := goodIn_app (goodIn_of _ (by decide +kernel)) ggX2_respects_X2_before
theorem dX2_respects_0 : decode cX2_respects 0 = .ok (.iconst 0, 1) := by decide +kernel
theorem dX2_respects_1 : decode cX2_respects 1 = .ok (.istore_n 2, 1) := by decide +kernel
theorem dX2_respects_2 : decode cX2_respects 2 = .ok (.iload_n 2, 1) := by decide +kernel
theorem dX2_respects_3 : decode cX2_respects 3 = .ok (.aload_n 0, 1) := by decide +kernel
theorem dX2_respects_4 : decode cX2_respects 4 = .ok (.getfield 43, 3) := by decide +kernel
theorem dX2_respects_7 : decode cX2_respects 7 = .ok (.if_icmp .ge 42, 3) := by decide +kernel
theorem dX2_respects_10 : decode cX2_respects 10 = .ok (.iload_n 2, 1) := by decide +kernel
theorem dX2_respects_11 : decode cX2_respects 11 = .ok (.iconst 1, 1) := by decide +kernel
theorem dX2_respects_12 : decode cX2_respects 12 = .ok (.iadd, 1) := by decide +kernel
theorem dX2_respects_13 : decode cX2_respects 13 = .ok (.istore_n 3, 1) := by decide +kernel
theorem dX2_respects_14 : decode cX2_respects 14 = .ok (.iload_n 3, 1) := by decide +kernel
theorem dX2_respects_15 : decode cX2_respects 15 = .ok (.aload_n 0, 1) := by decide +kernel
theorem dX2_respects_16 : decode cX2_respects 16 = .ok (.getfield 43, 3) := by decide +kernel
theorem dX2_respects_19 : decode cX2_respects 19 = .ok (.if_icmp .ge 24, 3) := by decide +kernel
theorem dX2_respects_22 : decode cX2_respects 22 = .ok (.aload_n 0, 1) := by decide +kernel
theorem dX2_respects_23 : decode cX2_respects 23 = .ok (.aload_n 1, 1) := by decide +kernel
theorem dX2_respects_24 : decode cX2_respects 24 = .ok (.iload_n 3, 1) := by decide +kernel
theorem dX2_respects_25 : decode cX2_respects 25 = .ok (.iaload, 1) := by decide +kernel
theorem dX2_respects_26 : decode cX2_respects 26 = .ok (.aload_n 1, 1) := by decide +kernel
theorem dX2_respects_27 : decode cX2_respects 27 = .ok (.iload_n 2, 1) := by decide +kernel
theorem dX2_respects_28 : decode cX2_respects 28 = .ok (.iaload, 1) := by decide +kernel
theorem dX2_respects_29 : decode cX2_respects 29 = .ok (.invokevirtual 70, 3) := by decide +kernel
theorem dX2_respects_32 : decode cX2_respects 32 = .ok (.ifCond .eq 5, 3) := by decide +kernel
theorem dX2_respects_35 : decode cX2_respects 35 = .ok (.iconst 0, 1) := by decide +kernel
theorem dX2_respects_36 : decode cX2_respects 36 = .ok (.ireturn, 1) := by decide +kernel
theorem dX2_respects_37 : decode cX2_respects 37 = .ok (.iinc 3 1, 3) := by decide +kernel
theorem dX2_respects_40 : decode cX2_respects 40 = .ok (.goto (-26), 3) := by decide +kernel
theorem dX2_respects_43 : decode cX2_respects 43 = .ok (.iinc 2 1, 3) := by decide +kernel
theorem dX2_respects_46 : decode cX2_respects 46 = .ok (.goto (-44), 3) := by decide +kernel
theorem dX2_respects_49 : decode cX2_respects 49 = .ok (.iconst 1, 1) := by decide +kernel
theorem dX2_respects_50 : decode cX2_respects 50 = .ok (.ireturn, 1) := by decide +kernel
set_option maxRecDepth 20000 in
theorem ggX2_walk_X2_close : GoodIn wsX2_walk wsX2_close := goodIn_r _ [7, 8, 9, 10, 11, 12, 13, 6, 14, 26, 27, 28, 29, 30, 31, 32, 33, 34, 35, 36, 37, 38, 39, 40] (by decide +kernel) (by decide +kernel)
set_option maxRecDepth 20000 in
theorem gX2_walk_X2_close : GoodIn wsX2_walk (wsV RX2 77 RX2 yX2_close wsX2_close) := goodIn_app (goodIn_of _ (by decide +kernel)) ggX2_walk_X2_close
set_option maxRecDepth 20000 in
theorem ggX2_walk_X2_first : GoodIn wsX2_walk wsX2_first := goodIn_r _ [18, 19, 20, 2, 21, 22, 23, 6, 24, 25, 12, 13, 14, 26, 27, 28, 29, 30, 31, 32, 33, 34, 35, 36, 37, 38, 39, 40] (by decide +kernel) (by decide +kernel)
set_option maxRecDepth 20000 in
theorem gX2_walk_X2_first : GoodIn wsX2_walk (wsV RX2 123 RX2 yX2_first wsX2_first) := goodIn_app (goodIn_of _ (by decide +kernel)) ggX2_walk_X2_first
theorem dX2_walk_0 : decode cX2_walk 0 = .ok (.aload_n 0, 1) := by decide +kernel
theorem dX2_walk_1 : decode cX2_walk 1 = .ok (.aload_n 0, 1) := by decide +kernel
theorem dX2_walk_2 : decode cX2_walk 2 = .ok (.getfield 50, 3) := by decide +kernel
theorem dX2_walk_5 : decode cX2_walk 5 = .ok (.invokevirtual 77, 3) := by decide +kernel
theorem dX2_walk_8 : decode cX2_walk 8 = .ok (.istore_n 3, 1) := by decide +kernel
theorem dX2_walk_9 : decode cX2_walk 9 = .ok (.aload_n 0, 1) := by decide +kernel
theorem dX2_walk_10 : decode cX2_walk 10 = .ok (.aload_n 1, 1) := by decide +kernel
theorem dX2_walk_11 : decode cX2_walk 11 = .ok (.iload_n 3, 1) := by decide +kernel
theorem dX2_walk_12 : decode cX2_walk 12 = .ok (.invokevirtual 123, 3) := by decide +kernel
theorem dX2_walk_15 : decode cX2_walk 15 = .ok (.istore 4, 2) := by decide +kernel
theorem dX2_walk_17 : decode cX2_walk 17 = .ok (.iload 4, 2) := by decide +kernel
theorem dX2_walk_19 : decode cX2_walk 19 = .ok (.iconst (-1), 1) := by decide +kernel
theorem dX2_walk_20 : decode cX2_walk 20 = .ok (.if_icmp .eq 44, 3) := by decide +kernel
theorem dX2_walk_23 : decode cX2_walk 23 = .ok (.aload_n 2, 1) := by decide +kernel
theorem dX2_walk_24 : decode cX2_walk 24 = .ok (.iconst 0, 1) := by decide +kernel
theorem dX2_walk_25 : decode cX2_walk 25 = .ok (.dup2, 1) := by decide +kernel
theorem dX2_walk_26 : decode cX2_walk 26 = .ok (.iaload, 1) := by decide +kernel
theorem dX2_walk_27 : decode cX2_walk 27 = .ok (.iconst 1, 1) := by decide +kernel
theorem dX2_walk_28 : decode cX2_walk 28 = .ok (.iadd, 1) := by decide +kernel
theorem dX2_walk_29 : decode cX2_walk 29 = .ok (.iastore, 1) := by decide +kernel
theorem dX2_walk_30 : decode cX2_walk 30 = .ok (.aload_n 2, 1) := by decide +kernel
theorem dX2_walk_31 : decode cX2_walk 31 = .ok (.aload_n 2, 1) := by decide +kernel
theorem dX2_walk_32 : decode cX2_walk 32 = .ok (.iconst 0, 1) := by decide +kernel
theorem dX2_walk_33 : decode cX2_walk 33 = .ok (.iaload, 1) := by decide +kernel
theorem dX2_walk_34 : decode cX2_walk 34 = .ok (.iload 4, 2) := by decide +kernel
theorem dX2_walk_36 : decode cX2_walk 36 = .ok (.iastore, 1) := by decide +kernel
theorem dX2_walk_37 : decode cX2_walk 37 = .ok (.aload_n 0, 1) := by decide +kernel
theorem dX2_walk_38 : decode cX2_walk 38 = .ok (.iload_n 3, 1) := by decide +kernel
theorem dX2_walk_39 : decode cX2_walk 39 = .ok (.iconst 1, 1) := by decide +kernel
theorem dX2_walk_40 : decode cX2_walk 40 = .ok (.aload_n 0, 1) := by decide +kernel
theorem dX2_walk_41 : decode cX2_walk 41 = .ok (.getfield 22, 3) := by decide +kernel
theorem dX2_walk_44 : decode cX2_walk 44 = .ok (.iload 4, 2) := by decide +kernel
theorem dX2_walk_46 : decode cX2_walk 46 = .ok (.iaload, 1) := by decide +kernel
theorem dX2_walk_47 : decode cX2_walk 47 = .ok (.ishl, 1) := by decide +kernel
theorem dX2_walk_48 : decode cX2_walk 48 = .ok (.ior, 1) := by decide +kernel
theorem dX2_walk_49 : decode cX2_walk 49 = .ok (.invokevirtual 77, 3) := by decide +kernel
theorem dX2_walk_52 : decode cX2_walk 52 = .ok (.istore_n 3, 1) := by decide +kernel
theorem dX2_walk_53 : decode cX2_walk 53 = .ok (.aload_n 0, 1) := by decide +kernel
theorem dX2_walk_54 : decode cX2_walk 54 = .ok (.aload_n 1, 1) := by decide +kernel
theorem dX2_walk_55 : decode cX2_walk 55 = .ok (.iload_n 3, 1) := by decide +kernel
theorem dX2_walk_56 : decode cX2_walk 56 = .ok (.invokevirtual 123, 3) := by decide +kernel
theorem dX2_walk_59 : decode cX2_walk 59 = .ok (.istore 4, 2) := by decide +kernel
theorem dX2_walk_61 : decode cX2_walk 61 = .ok (.goto (-44), 3) := by decide +kernel
theorem dX2_walk_64 : decode cX2_walk 64 = .ok (.iload_n 3, 1) := by decide +kernel
theorem dX2_walk_65 : decode cX2_walk 65 = .ok (.ireturn, 1) := by decide +kernel
set_option maxRecDepth 20000 in
theorem ggX2_first_X2_open : GoodIn wsX2_first wsX2_open := goodIn_r _ [8, 9, 10, 11, 7, 12, 13, 14, 15, 16, 17, 18, 19, 20, 21, 22, 23, 24, 25, 26, 27] (by decide +kernel) (by decide +kernel)
set_option maxRecDepth 20000 in
theorem gX2_first_X2_open : GoodIn wsX2_first (wsV RX2 83 RX2 yX2_open wsX2_open) := goodIn_app (goodIn_of _ (by decide +kernel)) ggX2_first_X2_open
theorem dX2_first_0 : decode cX2_first 0 = .ok (.iconst 0, 1) := by decide +kernel
theorem dX2_first_1 : decode cX2_first 1 = .ok (.istore_n 3, 1) := by decide +kernel
theorem dX2_first_2 : decode cX2_first 2 = .ok (.iload_n 3, 1) := by decide +kernel
theorem dX2_first_3 : decode cX2_first 3 = .ok (.aload_n 0, 1) := by decide +kernel
theorem dX2_first_4 : decode cX2_first 4 = .ok (.getfield 43, 3) := by decide +kernel
theorem dX2_first_7 : decode cX2_first 7 = .ok (.if_icmp .ge 55, 3) := by decide +kernel
theorem dX2_first_10 : decode cX2_first 10 = .ok (.aload_n 1, 1) := by decide +kernel
theorem dX2_first_11 : decode cX2_first 11 = .ok (.iload_n 3, 1) := by decide +kernel
theorem dX2_first_12 : decode cX2_first 12 = .ok (.iaload, 1) := by decide +kernel
theorem dX2_first_13 : decode cX2_first 13 = .ok (.istore 4, 2) := by decide +kernel
theorem dX2_first_15 : decode cX2_first 15 = .ok (.aload_n 0, 1) := by decide +kernel
theorem dX2_first_16 : decode cX2_first 16 = .ok (.getfield 16, 3) := by decide +kernel
theorem dX2_first_19 : decode cX2_first 19 = .ok (.iload 4, 2) := by decide +kernel
theorem dX2_first_21 : decode cX2_first 21 = .ok (.iaload, 1) := by decide +kernel
theorem dX2_first_22 : decode cX2_first 22 = .ok (.iload_n 2, 1) := by decide +kernel
theorem dX2_first_23 : decode cX2_first 23 = .ok (.iconst (-1), 1) := by decide +kernel
theorem dX2_first_24 : decode cX2_first 24 = .ok (.ixor, 1) := by decide +kernel
theorem dX2_first_25 : decode cX2_first 25 = .ok (.iand, 1) := by decide +kernel
theorem dX2_first_26 : decode cX2_first 26 = .ok (.ifCond .ne 30, 3) := by decide +kernel
theorem dX2_first_29 : decode cX2_first 29 = .ok (.aload_n 0, 1) := by decide +kernel
theorem dX2_first_30 : decode cX2_first 30 = .ok (.iload 4, 2) := by decide +kernel
theorem dX2_first_32 : decode cX2_first 32 = .ok (.iload_n 2, 1) := by decide +kernel
theorem dX2_first_33 : decode cX2_first 33 = .ok (.invokevirtual 83, 3) := by decide +kernel
theorem dX2_first_36 : decode cX2_first 36 = .ok (.ifCond .eq 20, 3) := by decide +kernel
theorem dX2_first_39 : decode cX2_first 39 = .ok (.iload_n 2, 1) := by decide +kernel
theorem dX2_first_40 : decode cX2_first 40 = .ok (.aload_n 0, 1) := by decide +kernel
theorem dX2_first_41 : decode cX2_first 41 = .ok (.getfield 22, 3) := by decide +kernel
theorem dX2_first_44 : decode cX2_first 44 = .ok (.iload 4, 2) := by decide +kernel
theorem dX2_first_46 : decode cX2_first 46 = .ok (.iaload, 1) := by decide +kernel
theorem dX2_first_47 : decode cX2_first 47 = .ok (.ishr, 1) := by decide +kernel
theorem dX2_first_48 : decode cX2_first 48 = .ok (.iconst 1, 1) := by decide +kernel
theorem dX2_first_49 : decode cX2_first 49 = .ok (.iand, 1) := by decide +kernel
theorem dX2_first_50 : decode cX2_first 50 = .ok (.ifCond .ne 6, 3) := by decide +kernel
theorem dX2_first_53 : decode cX2_first 53 = .ok (.iload 4, 2) := by decide +kernel
theorem dX2_first_55 : decode cX2_first 55 = .ok (.ireturn, 1) := by decide +kernel
theorem dX2_first_56 : decode cX2_first 56 = .ok (.iinc 3 1, 3) := by decide +kernel
theorem dX2_first_59 : decode cX2_first 59 = .ok (.goto (-57), 3) := by decide +kernel
theorem dX2_first_62 : decode cX2_first 62 = .ok (.iconst (-1), 1) := by decide +kernel
theorem dX2_first_63 : decode cX2_first 63 = .ok (.ireturn, 1) := by decide +kernel
set_option maxRecDepth 20000 in
theorem ggX2_isOrder_X2_orders : GoodIn wsX2_isOrder wsX2_orders := goodIn_r _ [6, 7, 8, 9, 10, 11, 12, 13, 14, 15, 16, 17, 18, 19, 20, 21, 22] (by decide +kernel) (by decide +kernel)
set_option maxRecDepth 20000 in
theorem gX2_isOrder_X2_orders : GoodIn wsX2_isOrder (wsV RX2 98 RX2 yX2_orders wsX2_orders) := goodIn_app (goodIn_of _ (by decide +kernel)) ggX2_isOrder_X2_orders
theorem dX2_isOrder_0 : decode cX2_isOrder 0 = .ok (.aload_n 0, 1) := by decide +kernel
theorem dX2_isOrder_1 : decode cX2_isOrder 1 = .ok (.iload_n 1, 1) := by decide +kernel
theorem dX2_isOrder_2 : decode cX2_isOrder 2 = .ok (.ifCond .lt 15, 3) := by decide +kernel
theorem dX2_isOrder_5 : decode cX2_isOrder 5 = .ok (.iload_n 1, 1) := by decide +kernel
theorem dX2_isOrder_6 : decode cX2_isOrder 6 = .ok (.aload_n 0, 1) := by decide +kernel
theorem dX2_isOrder_7 : decode cX2_isOrder 7 = .ok (.invokevirtual 98, 3) := by decide +kernel
theorem dX2_isOrder_10 : decode cX2_isOrder 10 = .ok (.if_icmp .ge 7, 3) := by decide +kernel
theorem dX2_isOrder_13 : decode cX2_isOrder 13 = .ok (.iconst 0, 1) := by decide +kernel
theorem dX2_isOrder_14 : decode cX2_isOrder 14 = .ok (.goto 4, 3) := by decide +kernel
theorem dX2_isOrder_17 : decode cX2_isOrder 17 = .ok (.iconst 1, 1) := by decide +kernel
theorem dX2_isOrder_18 : decode cX2_isOrder 18 = .ok (.putfield 38, 3) := by decide +kernel
theorem dX2_isOrder_21 : decode cX2_isOrder 21 = .ok (.aload_n 0, 1) := by decide +kernel
theorem dX2_isOrder_22 : decode cX2_isOrder 22 = .ok (.getfield 38, 3) := by decide +kernel
theorem dX2_isOrder_25 : decode cX2_isOrder 25 = .ok (.ifCond .ne 7, 3) := by decide +kernel
theorem dX2_isOrder_28 : decode cX2_isOrder 28 = .ok (.iconst 1, 1) := by decide +kernel
theorem dX2_isOrder_29 : decode cX2_isOrder 29 = .ok (.goto 4, 3) := by decide +kernel
theorem dX2_isOrder_32 : decode cX2_isOrder 32 = .ok (.iconst 0, 1) := by decide +kernel
theorem dX2_isOrder_33 : decode cX2_isOrder 33 = .ok (.ireturn, 1) := by decide +kernel
set_option maxRecDepth 20000 in
theorem ggX2_walk__X2_isOrder : GoodIn wsX2_walk_ wsX2_isOrder := goodIn_r _ [8, 9, 10, 11, 12, 7, 13, 14, 47, 48, 49, 50, 51, 52, 53, 54, 55, 56, 57, 58, 59, 60, 61] (by decide +kernel) (by decide +kernel)
set_option maxRecDepth 20000 in
theorem gX2_walk__X2_isOrder : GoodIn wsX2_walk_ (wsV RX2 127 RX2 yX2_isOrder wsX2_isOrder) := goodIn_app (goodIn_of _ (by decide +kernel)) ggX2_walk__X2_isOrder
set_option maxRecDepth 20000 in
theorem ggX2_walk__X2_setOrder : GoodIn wsX2_walk_ wsX2_setOrder := goodIn_r _ [18, 19, 14, 10, 11, 12, 7, 13, 47, 48, 49, 50, 51, 52, 53, 54, 55, 56, 57, 58, 59, 60, 61] (by decide +kernel) (by decide +kernel)
set_option maxRecDepth 20000 in
theorem gX2_walk__X2_setOrder : GoodIn wsX2_walk_ (wsV RX2 102 RX2 yX2_setOrder wsX2_setOrder) := goodIn_app (goodIn_of _ (by decide +kernel)) ggX2_walk__X2_setOrder
set_option maxRecDepth 20000 in
theorem ggX2_walk__X2_walk : GoodIn wsX2_walk_ wsX2_walk := goodIn_r _ [23, 24, 25, 26, 27, 28, 7, 29, 30, 31, 32, 33, 34, 35, 36, 37, 38, 39, 40, 14, 41, 42, 43, 44, 45, 46, 47, 48, 49, 50, 51, 52, 53, 54, 55, 56, 57, 58, 59, 60, 61] (by decide +kernel) (by decide +kernel)
set_option maxRecDepth 20000 in
theorem gX2_walk__X2_walk : GoodIn wsX2_walk_ (wsV RX2 110 RX2 yX2_walk wsX2_walk) := goodIn_app (goodIn_of _ (by decide +kernel)) ggX2_walk__X2_walk
theorem dX2_walk__0 : decode cX2_walk_ 0 = .ok (.aload_n 0, 1) := by decide +kernel
theorem dX2_walk__1 : decode cX2_walk_ 1 = .ok (.iload_n 1, 1) := by decide +kernel
theorem dX2_walk__2 : decode cX2_walk_ 2 = .ok (.invokevirtual 127, 3) := by decide +kernel
theorem dX2_walk__5 : decode cX2_walk_ 5 = .ok (.ifCond .ne 5, 3) := by decide +kernel
theorem dX2_walk__8 : decode cX2_walk_ 8 = .ok (.iconst 0, 1) := by decide +kernel
theorem dX2_walk__9 : decode cX2_walk_ 9 = .ok (.ireturn, 1) := by decide +kernel
theorem dX2_walk__10 : decode cX2_walk_ 10 = .ok (.bipush 6, 2) := by decide +kernel
theorem dX2_walk__12 : decode cX2_walk_ 12 = .ok (.newarray .int, 2) := by decide +kernel
theorem dX2_walk__14 : decode cX2_walk_ 14 = .ok (.astore_n 2, 1) := by decide +kernel
theorem dX2_walk__15 : decode cX2_walk_ 15 = .ok (.aload_n 0, 1) := by decide +kernel
theorem dX2_walk__16 : decode cX2_walk_ 16 = .ok (.aload_n 2, 1) := by decide +kernel
theorem dX2_walk__17 : decode cX2_walk_ 17 = .ok (.iload_n 1, 1) := by decide +kernel
theorem dX2_walk__18 : decode cX2_walk_ 18 = .ok (.invokevirtual 102, 3) := by decide +kernel
theorem dX2_walk__21 : decode cX2_walk_ 21 = .ok (.bipush 7, 2) := by decide +kernel
theorem dX2_walk__23 : decode cX2_walk_ 23 = .ok (.newarray .int, 2) := by decide +kernel
theorem dX2_walk__25 : decode cX2_walk_ 25 = .ok (.astore_n 3, 1) := by decide +kernel
theorem dX2_walk__26 : decode cX2_walk_ 26 = .ok (.aload_n 0, 1) := by decide +kernel
theorem dX2_walk__27 : decode cX2_walk_ 27 = .ok (.aload_n 2, 1) := by decide +kernel
theorem dX2_walk__28 : decode cX2_walk_ 28 = .ok (.aload_n 3, 1) := by decide +kernel
theorem dX2_walk__29 : decode cX2_walk_ 29 = .ok (.invokevirtual 110, 3) := by decide +kernel
theorem dX2_walk__32 : decode cX2_walk_ 32 = .ok (.istore 4, 2) := by decide +kernel
theorem dX2_walk__34 : decode cX2_walk_ 34 = .ok (.aload_n 0, 1) := by decide +kernel
theorem dX2_walk__35 : decode cX2_walk_ 35 = .ok (.aload_n 3, 1) := by decide +kernel
theorem dX2_walk__36 : decode cX2_walk_ 36 = .ok (.iconst 0, 1) := by decide +kernel
theorem dX2_walk__37 : decode cX2_walk_ 37 = .ok (.iaload, 1) := by decide +kernel
theorem dX2_walk__38 : decode cX2_walk_ 38 = .ok (.putfield 130, 3) := by decide +kernel
theorem dX2_walk__41 : decode cX2_walk_ 41 = .ok (.iconst 0, 1) := by decide +kernel
theorem dX2_walk__42 : decode cX2_walk_ 42 = .ok (.istore 5, 2) := by decide +kernel
theorem dX2_walk__44 : decode cX2_walk_ 44 = .ok (.iload 5, 2) := by decide +kernel
theorem dX2_walk__46 : decode cX2_walk_ 46 = .ok (.aload_n 0, 1) := by decide +kernel
theorem dX2_walk__47 : decode cX2_walk_ 47 = .ok (.getfield 130, 3) := by decide +kernel
theorem dX2_walk__50 : decode cX2_walk_ 50 = .ok (.if_icmp .ge 22, 3) := by decide +kernel
theorem dX2_walk__53 : decode cX2_walk_ 53 = .ok (.aload_n 0, 1) := by decide +kernel
theorem dX2_walk__54 : decode cX2_walk_ 54 = .ok (.getfield 29, 3) := by decide +kernel
theorem dX2_walk__57 : decode cX2_walk_ 57 = .ok (.iload 5, 2) := by decide +kernel
theorem dX2_walk__59 : decode cX2_walk_ 59 = .ok (.aload_n 3, 1) := by decide +kernel
theorem dX2_walk__60 : decode cX2_walk_ 60 = .ok (.iload 5, 2) := by decide +kernel
theorem dX2_walk__62 : decode cX2_walk_ 62 = .ok (.iconst 1, 1) := by decide +kernel
theorem dX2_walk__63 : decode cX2_walk_ 63 = .ok (.iadd, 1) := by decide +kernel
theorem dX2_walk__64 : decode cX2_walk_ 64 = .ok (.iaload, 1) := by decide +kernel
theorem dX2_walk__65 : decode cX2_walk_ 65 = .ok (.iastore, 1) := by decide +kernel
theorem dX2_walk__66 : decode cX2_walk_ 66 = .ok (.iinc 5 1, 3) := by decide +kernel
theorem dX2_walk__69 : decode cX2_walk_ 69 = .ok (.goto (-25), 3) := by decide +kernel
theorem dX2_walk__72 : decode cX2_walk_ 72 = .ok (.iload 4, 2) := by decide +kernel
theorem dX2_walk__74 : decode cX2_walk_ 74 = .ok (.ireturn, 1) := by decide +kernel
theorem dX2_appliedCount_0 : decode cX2_appliedCount 0 = .ok (.aload_n 0, 1) := by decide +kernel
theorem dX2_appliedCount_1 : decode cX2_appliedCount 1 = .ok (.iconst 0, 1) := by decide +kernel
theorem dX2_appliedCount_2 : decode cX2_appliedCount 2 = .ok (.putfield 38, 3) := by decide +kernel
theorem dX2_appliedCount_5 : decode cX2_appliedCount 5 = .ok (.aload_n 0, 1) := by decide +kernel
theorem dX2_appliedCount_6 : decode cX2_appliedCount 6 = .ok (.getfield 130, 3) := by decide +kernel
theorem dX2_appliedCount_9 : decode cX2_appliedCount 9 = .ok (.ireturn, 1) := by decide +kernel
set_option maxRecDepth 20000 in
theorem ggX2_applied_X2_fail : GoodIn wsX2_applied wsX2_fail := goodIn_r _ [8, 1, 9, 10, 11, 12, 13, 14, 15, 16, 17, 18, 19, 20, 21, 22, 23] (by decide +kernel) (by decide +kernel)
set_option maxRecDepth 20000 in
theorem gX2_applied_X2_fail : GoodIn wsX2_applied (wsV RX2 53 RX2 yX2_fail wsX2_fail) := goodIn_app (goodIn_of _ (by decide +kernel)) ggX2_applied_X2_fail
theorem dX2_applied_0 : decode cX2_applied 0 = .ok (.aload_n 0, 1) := by decide +kernel
theorem dX2_applied_1 : decode cX2_applied 1 = .ok (.iconst 0, 1) := by decide +kernel
theorem dX2_applied_2 : decode cX2_applied 2 = .ok (.putfield 38, 3) := by decide +kernel
theorem dX2_applied_5 : decode cX2_applied 5 = .ok (.iload_n 1, 1) := by decide +kernel
theorem dX2_applied_6 : decode cX2_applied 6 = .ok (.ifCond .lt 20, 3) := by decide +kernel
theorem dX2_applied_9 : decode cX2_applied 9 = .ok (.iload_n 1, 1) := by decide +kernel
theorem dX2_applied_10 : decode cX2_applied 10 = .ok (.aload_n 0, 1) := by decide +kernel
theorem dX2_applied_11 : decode cX2_applied 11 = .ok (.getfield 130, 3) := by decide +kernel
theorem dX2_applied_14 : decode cX2_applied 14 = .ok (.if_icmp .ge 12, 3) := by decide +kernel
theorem dX2_applied_17 : decode cX2_applied 17 = .ok (.aload_n 0, 1) := by decide +kernel
theorem dX2_applied_18 : decode cX2_applied 18 = .ok (.getfield 29, 3) := by decide +kernel
theorem dX2_applied_21 : decode cX2_applied 21 = .ok (.iload_n 1, 1) := by decide +kernel
theorem dX2_applied_22 : decode cX2_applied 22 = .ok (.iaload, 1) := by decide +kernel
theorem dX2_applied_23 : decode cX2_applied 23 = .ok (.goto 8, 3) := by decide +kernel
theorem dX2_applied_26 : decode cX2_applied 26 = .ok (.aload_n 0, 1) := by decide +kernel
theorem dX2_applied_27 : decode cX2_applied 27 = .ok (.iconst 1, 1) := by decide +kernel
theorem dX2_applied_28 : decode cX2_applied 28 = .ok (.invokevirtual 53, 3) := by decide +kernel
theorem dX2_applied_31 : decode cX2_applied 31 = .ok (.ireturn, 1) := by decide +kernel
set_option maxRecDepth 20000 in
theorem ggX2_respects__X2_isOrder : GoodIn wsX2_respects_ wsX2_isOrder := goodIn_r _ [6, 7, 8, 9, 10, 5, 11, 12, 31, 32, 33, 34, 35, 36, 37, 38, 39, 40, 41, 42, 43, 44, 45] (by decide +kernel) (by decide +kernel)
set_option maxRecDepth 20000 in
theorem gX2_respects__X2_isOrder : GoodIn wsX2_respects_ (wsV RX2 127 RX2 yX2_isOrder wsX2_isOrder) := goodIn_app (goodIn_of _ (by decide +kernel)) ggX2_respects__X2_isOrder
set_option maxRecDepth 20000 in
theorem ggX2_respects__X2_setOrder : GoodIn wsX2_respects_ wsX2_setOrder := goodIn_r _ [16, 17, 12, 8, 9, 10, 5, 11, 31, 32, 33, 34, 35, 36, 37, 38, 39, 40, 41, 42, 43, 44, 45] (by decide +kernel) (by decide +kernel)
set_option maxRecDepth 20000 in
theorem gX2_respects__X2_setOrder : GoodIn wsX2_respects_ (wsV RX2 102 RX2 yX2_setOrder wsX2_setOrder) := goodIn_app (goodIn_of _ (by decide +kernel)) ggX2_respects__X2_setOrder
set_option maxRecDepth 20000 in
theorem ggX2_respects__X2_respects : GoodIn wsX2_respects_ wsX2_respects := goodIn_r _ [21, 12, 22, 23, 24, 5, 25, 26, 27, 28, 29, 30, 31, 32, 33, 34, 35, 36, 37, 38, 39, 40, 41, 42, 43, 44, 45] (by decide +kernel) (by decide +kernel)
set_option maxRecDepth 20000 in
theorem gX2_respects__X2_respects : GoodIn wsX2_respects_ (wsV RX2 106 RX2 yX2_respects wsX2_respects) := goodIn_app (goodIn_of _ (by decide +kernel)) ggX2_respects__X2_respects
theorem dX2_respects__0 : decode cX2_respects_ 0 = .ok (.aload_n 0, 1) := by decide +kernel
theorem dX2_respects__1 : decode cX2_respects_ 1 = .ok (.iload_n 1, 1) := by decide +kernel
theorem dX2_respects__2 : decode cX2_respects_ 2 = .ok (.invokevirtual 127, 3) := by decide +kernel
theorem dX2_respects__5 : decode cX2_respects_ 5 = .ok (.ifCond .ne 5, 3) := by decide +kernel
theorem dX2_respects__8 : decode cX2_respects_ 8 = .ok (.iconst 0, 1) := by decide +kernel
theorem dX2_respects__9 : decode cX2_respects_ 9 = .ok (.ireturn, 1) := by decide +kernel
theorem dX2_respects__10 : decode cX2_respects_ 10 = .ok (.bipush 6, 2) := by decide +kernel
theorem dX2_respects__12 : decode cX2_respects_ 12 = .ok (.newarray .int, 2) := by decide +kernel
theorem dX2_respects__14 : decode cX2_respects_ 14 = .ok (.astore_n 2, 1) := by decide +kernel
theorem dX2_respects__15 : decode cX2_respects_ 15 = .ok (.aload_n 0, 1) := by decide +kernel
theorem dX2_respects__16 : decode cX2_respects_ 16 = .ok (.aload_n 2, 1) := by decide +kernel
theorem dX2_respects__17 : decode cX2_respects_ 17 = .ok (.iload_n 1, 1) := by decide +kernel
theorem dX2_respects__18 : decode cX2_respects_ 18 = .ok (.invokevirtual 102, 3) := by decide +kernel
theorem dX2_respects__21 : decode cX2_respects_ 21 = .ok (.aload_n 0, 1) := by decide +kernel
theorem dX2_respects__22 : decode cX2_respects_ 22 = .ok (.aload_n 2, 1) := by decide +kernel
theorem dX2_respects__23 : decode cX2_respects_ 23 = .ok (.invokevirtual 106, 3) := by decide +kernel
theorem dX2_respects__26 : decode cX2_respects_ 26 = .ok (.ireturn, 1) := by decide +kernel
set_option maxRecDepth 20000 in
theorem ggX2_digest_X2_before : GoodIn wsX2_digest wsX2_before := goodIn_r _ [18, 19, 20, 21, 17, 22, 23, 8, 24, 25, 26, 27, 28, 29, 30, 31, 32, 33, 34, 35, 36, 37, 38] (by decide +kernel) (by decide +kernel)
set_option maxRecDepth 20000 in
theorem gX2_digest_X2_before : GoodIn wsX2_digest (wsV RX2 70 RX2 yX2_before wsX2_before) := goodIn_app (goodIn_of _ (by decide +kernel)) ggX2_digest_X2_before
theorem dX2_digest_0 : decode cX2_digest 0 = .ok (.aload_n 0, 1) := by decide +kernel
theorem dX2_digest_1 : decode cX2_digest 1 = .ok (.iconst 0, 1) := by decide +kernel
theorem dX2_digest_2 : decode cX2_digest 2 = .ok (.putfield 38, 3) := by decide +kernel
theorem dX2_digest_5 : decode cX2_digest 5 = .ok (.ldc2_w 133, 3) := by decide +kernel
theorem dX2_digest_8 : decode cX2_digest 8 = .ok (.aload_n 0, 1) := by decide +kernel
theorem dX2_digest_9 : decode cX2_digest 9 = .ok (.getfield 50, 3) := by decide +kernel
theorem dX2_digest_12 : decode cX2_digest 12 = .ok (.i2l, 1) := by decide +kernel
theorem dX2_digest_13 : decode cX2_digest 13 = .ok (.ladd, 1) := by decide +kernel
theorem dX2_digest_14 : decode cX2_digest 14 = .ok (.ldc2_w 135, 3) := by decide +kernel
theorem dX2_digest_17 : decode cX2_digest 17 = .ok (.lmul, 1) := by decide +kernel
theorem dX2_digest_18 : decode cX2_digest 18 = .ok (.aload_n 0, 1) := by decide +kernel
theorem dX2_digest_19 : decode cX2_digest 19 = .ok (.getfield 60, 3) := by decide +kernel
theorem dX2_digest_22 : decode cX2_digest 22 = .ok (.i2l, 1) := by decide +kernel
theorem dX2_digest_23 : decode cX2_digest 23 = .ok (.ladd, 1) := by decide +kernel
theorem dX2_digest_24 : decode cX2_digest 24 = .ok (.lstore_n 1, 1) := by decide +kernel
theorem dX2_digest_25 : decode cX2_digest 25 = .ok (.iconst 0, 1) := by decide +kernel
theorem dX2_digest_26 : decode cX2_digest 26 = .ok (.istore_n 3, 1) := by decide +kernel
theorem dX2_digest_27 : decode cX2_digest 27 = .ok (.iload_n 3, 1) := by decide +kernel
theorem dX2_digest_28 : decode cX2_digest 28 = .ok (.aload_n 0, 1) := by decide +kernel
theorem dX2_digest_29 : decode cX2_digest 29 = .ok (.getfield 60, 3) := by decide +kernel
theorem dX2_digest_32 : decode cX2_digest 32 = .ok (.if_icmp .ge 35, 3) := by decide +kernel
theorem dX2_digest_35 : decode cX2_digest 35 = .ok (.lload_n 1, 1) := by decide +kernel
theorem dX2_digest_36 : decode cX2_digest 36 = .ok (.ldc2_w 135, 3) := by decide +kernel
theorem dX2_digest_39 : decode cX2_digest 39 = .ok (.lmul, 1) := by decide +kernel
theorem dX2_digest_40 : decode cX2_digest 40 = .ok (.aload_n 0, 1) := by decide +kernel
theorem dX2_digest_41 : decode cX2_digest 41 = .ok (.getfield 9, 3) := by decide +kernel
theorem dX2_digest_44 : decode cX2_digest 44 = .ok (.iload_n 3, 1) := by decide +kernel
theorem dX2_digest_45 : decode cX2_digest 45 = .ok (.iaload, 1) := by decide +kernel
theorem dX2_digest_46 : decode cX2_digest 46 = .ok (.i2l, 1) := by decide +kernel
theorem dX2_digest_47 : decode cX2_digest 47 = .ok (.ladd, 1) := by decide +kernel
theorem dX2_digest_48 : decode cX2_digest 48 = .ok (.ldc2_w 135, 3) := by decide +kernel
theorem dX2_digest_51 : decode cX2_digest 51 = .ok (.lmul, 1) := by decide +kernel
theorem dX2_digest_52 : decode cX2_digest 52 = .ok (.aload_n 0, 1) := by decide +kernel
theorem dX2_digest_53 : decode cX2_digest 53 = .ok (.getfield 13, 3) := by decide +kernel
theorem dX2_digest_56 : decode cX2_digest 56 = .ok (.iload_n 3, 1) := by decide +kernel
theorem dX2_digest_57 : decode cX2_digest 57 = .ok (.iaload, 1) := by decide +kernel
theorem dX2_digest_58 : decode cX2_digest 58 = .ok (.i2l, 1) := by decide +kernel
theorem dX2_digest_59 : decode cX2_digest 59 = .ok (.ladd, 1) := by decide +kernel
theorem dX2_digest_60 : decode cX2_digest 60 = .ok (.lstore_n 1, 1) := by decide +kernel
theorem dX2_digest_61 : decode cX2_digest 61 = .ok (.iinc 3 1, 3) := by decide +kernel
theorem dX2_digest_64 : decode cX2_digest 64 = .ok (.goto (-37), 3) := by decide +kernel
theorem dX2_digest_67 : decode cX2_digest 67 = .ok (.lload_n 1, 1) := by decide +kernel
theorem dX2_digest_68 : decode cX2_digest 68 = .ok (.ldc2_w 135, 3) := by decide +kernel
theorem dX2_digest_71 : decode cX2_digest 71 = .ok (.lmul, 1) := by decide +kernel
theorem dX2_digest_72 : decode cX2_digest 72 = .ok (.aload_n 0, 1) := by decide +kernel
theorem dX2_digest_73 : decode cX2_digest 73 = .ok (.getfield 43, 3) := by decide +kernel
theorem dX2_digest_76 : decode cX2_digest 76 = .ok (.i2l, 1) := by decide +kernel
theorem dX2_digest_77 : decode cX2_digest 77 = .ok (.ladd, 1) := by decide +kernel
theorem dX2_digest_78 : decode cX2_digest 78 = .ok (.lstore_n 1, 1) := by decide +kernel
theorem dX2_digest_79 : decode cX2_digest 79 = .ok (.iconst 0, 1) := by decide +kernel
theorem dX2_digest_80 : decode cX2_digest 80 = .ok (.istore_n 3, 1) := by decide +kernel
theorem dX2_digest_81 : decode cX2_digest 81 = .ok (.iload_n 3, 1) := by decide +kernel
theorem dX2_digest_82 : decode cX2_digest 82 = .ok (.aload_n 0, 1) := by decide +kernel
theorem dX2_digest_83 : decode cX2_digest 83 = .ok (.getfield 43, 3) := by decide +kernel
theorem dX2_digest_86 : decode cX2_digest 86 = .ok (.if_icmp .ge 47, 3) := by decide +kernel
theorem dX2_digest_89 : decode cX2_digest 89 = .ok (.lload_n 1, 1) := by decide +kernel
theorem dX2_digest_90 : decode cX2_digest 90 = .ok (.ldc2_w 135, 3) := by decide +kernel
theorem dX2_digest_93 : decode cX2_digest 93 = .ok (.lmul, 1) := by decide +kernel
theorem dX2_digest_94 : decode cX2_digest 94 = .ok (.aload_n 0, 1) := by decide +kernel
theorem dX2_digest_95 : decode cX2_digest 95 = .ok (.getfield 16, 3) := by decide +kernel
theorem dX2_digest_98 : decode cX2_digest 98 = .ok (.iload_n 3, 1) := by decide +kernel
theorem dX2_digest_99 : decode cX2_digest 99 = .ok (.iaload, 1) := by decide +kernel
theorem dX2_digest_100 : decode cX2_digest 100 = .ok (.i2l, 1) := by decide +kernel
theorem dX2_digest_101 : decode cX2_digest 101 = .ok (.ladd, 1) := by decide +kernel
theorem dX2_digest_102 : decode cX2_digest 102 = .ok (.ldc2_w 135, 3) := by decide +kernel
theorem dX2_digest_105 : decode cX2_digest 105 = .ok (.lmul, 1) := by decide +kernel
theorem dX2_digest_106 : decode cX2_digest 106 = .ok (.aload_n 0, 1) := by decide +kernel
theorem dX2_digest_107 : decode cX2_digest 107 = .ok (.getfield 19, 3) := by decide +kernel
theorem dX2_digest_110 : decode cX2_digest 110 = .ok (.iload_n 3, 1) := by decide +kernel
theorem dX2_digest_111 : decode cX2_digest 111 = .ok (.iaload, 1) := by decide +kernel
theorem dX2_digest_112 : decode cX2_digest 112 = .ok (.i2l, 1) := by decide +kernel
theorem dX2_digest_113 : decode cX2_digest 113 = .ok (.ladd, 1) := by decide +kernel
theorem dX2_digest_114 : decode cX2_digest 114 = .ok (.ldc2_w 135, 3) := by decide +kernel
theorem dX2_digest_117 : decode cX2_digest 117 = .ok (.lmul, 1) := by decide +kernel
theorem dX2_digest_118 : decode cX2_digest 118 = .ok (.aload_n 0, 1) := by decide +kernel
theorem dX2_digest_119 : decode cX2_digest 119 = .ok (.getfield 22, 3) := by decide +kernel
theorem dX2_digest_122 : decode cX2_digest 122 = .ok (.iload_n 3, 1) := by decide +kernel
theorem dX2_digest_123 : decode cX2_digest 123 = .ok (.iaload, 1) := by decide +kernel
theorem dX2_digest_124 : decode cX2_digest 124 = .ok (.i2l, 1) := by decide +kernel
theorem dX2_digest_125 : decode cX2_digest 125 = .ok (.ladd, 1) := by decide +kernel
theorem dX2_digest_126 : decode cX2_digest 126 = .ok (.lstore_n 1, 1) := by decide +kernel
theorem dX2_digest_127 : decode cX2_digest 127 = .ok (.iinc 3 1, 3) := by decide +kernel
theorem dX2_digest_130 : decode cX2_digest 130 = .ok (.goto (-49), 3) := by decide +kernel
theorem dX2_digest_133 : decode cX2_digest 133 = .ok (.iconst 0, 1) := by decide +kernel
theorem dX2_digest_134 : decode cX2_digest 134 = .ok (.istore_n 3, 1) := by decide +kernel
theorem dX2_digest_135 : decode cX2_digest 135 = .ok (.iload_n 3, 1) := by decide +kernel
theorem dX2_digest_136 : decode cX2_digest 136 = .ok (.aload_n 0, 1) := by decide +kernel
theorem dX2_digest_137 : decode cX2_digest 137 = .ok (.getfield 43, 3) := by decide +kernel
theorem dX2_digest_140 : decode cX2_digest 140 = .ok (.if_icmp .ge 49, 3) := by decide +kernel
theorem dX2_digest_143 : decode cX2_digest 143 = .ok (.iconst 0, 1) := by decide +kernel
theorem dX2_digest_144 : decode cX2_digest 144 = .ok (.istore 4, 2) := by decide +kernel
theorem dX2_digest_146 : decode cX2_digest 146 = .ok (.iload 4, 2) := by decide +kernel
theorem dX2_digest_148 : decode cX2_digest 148 = .ok (.aload_n 0, 1) := by decide +kernel
theorem dX2_digest_149 : decode cX2_digest 149 = .ok (.getfield 43, 3) := by decide +kernel
theorem dX2_digest_152 : decode cX2_digest 152 = .ok (.if_icmp .ge 31, 3) := by decide +kernel
theorem dX2_digest_155 : decode cX2_digest 155 = .ok (.lload_n 1, 1) := by decide +kernel
theorem dX2_digest_156 : decode cX2_digest 156 = .ok (.ldc2_w 135, 3) := by decide +kernel
theorem dX2_digest_159 : decode cX2_digest 159 = .ok (.lmul, 1) := by decide +kernel
theorem dX2_digest_160 : decode cX2_digest 160 = .ok (.aload_n 0, 1) := by decide +kernel
theorem dX2_digest_161 : decode cX2_digest 161 = .ok (.iload_n 3, 1) := by decide +kernel
theorem dX2_digest_162 : decode cX2_digest 162 = .ok (.iload 4, 2) := by decide +kernel
theorem dX2_digest_164 : decode cX2_digest 164 = .ok (.invokevirtual 70, 3) := by decide +kernel
theorem dX2_digest_167 : decode cX2_digest 167 = .ok (.ifCond .eq 7, 3) := by decide +kernel
theorem dX2_digest_170 : decode cX2_digest 170 = .ok (.lconst 1, 1) := by decide +kernel
theorem dX2_digest_171 : decode cX2_digest 171 = .ok (.goto 4, 3) := by decide +kernel
theorem dX2_digest_174 : decode cX2_digest 174 = .ok (.lconst 0, 1) := by decide +kernel
theorem dX2_digest_175 : decode cX2_digest 175 = .ok (.ladd, 1) := by decide +kernel
theorem dX2_digest_176 : decode cX2_digest 176 = .ok (.lstore_n 1, 1) := by decide +kernel
theorem dX2_digest_177 : decode cX2_digest 177 = .ok (.iinc 4 1, 3) := by decide +kernel
theorem dX2_digest_180 : decode cX2_digest 180 = .ok (.goto (-34), 3) := by decide +kernel
theorem dX2_digest_183 : decode cX2_digest 183 = .ok (.iinc 3 1, 3) := by decide +kernel
theorem dX2_digest_186 : decode cX2_digest 186 = .ok (.goto (-51), 3) := by decide +kernel
theorem dX2_digest_189 : decode cX2_digest 189 = .ok (.lload_n 1, 1) := by decide +kernel
theorem dX2_digest_190 : decode cX2_digest 190 = .ok (.ldc2_w 135, 3) := by decide +kernel
theorem dX2_digest_193 : decode cX2_digest 193 = .ok (.lmul, 1) := by decide +kernel
theorem dX2_digest_194 : decode cX2_digest 194 = .ok (.aload_n 0, 1) := by decide +kernel
theorem dX2_digest_195 : decode cX2_digest 195 = .ok (.getfield 130, 3) := by decide +kernel
theorem dX2_digest_198 : decode cX2_digest 198 = .ok (.i2l, 1) := by decide +kernel
theorem dX2_digest_199 : decode cX2_digest 199 = .ok (.ladd, 1) := by decide +kernel
theorem dX2_digest_200 : decode cX2_digest 200 = .ok (.lstore_n 1, 1) := by decide +kernel
theorem dX2_digest_201 : decode cX2_digest 201 = .ok (.iconst 0, 1) := by decide +kernel
theorem dX2_digest_202 : decode cX2_digest 202 = .ok (.istore_n 3, 1) := by decide +kernel
theorem dX2_digest_203 : decode cX2_digest 203 = .ok (.iload_n 3, 1) := by decide +kernel
theorem dX2_digest_204 : decode cX2_digest 204 = .ok (.aload_n 0, 1) := by decide +kernel
theorem dX2_digest_205 : decode cX2_digest 205 = .ok (.getfield 130, 3) := by decide +kernel
theorem dX2_digest_208 : decode cX2_digest 208 = .ok (.if_icmp .ge 23, 3) := by decide +kernel
theorem dX2_digest_211 : decode cX2_digest 211 = .ok (.lload_n 1, 1) := by decide +kernel
theorem dX2_digest_212 : decode cX2_digest 212 = .ok (.ldc2_w 135, 3) := by decide +kernel
theorem dX2_digest_215 : decode cX2_digest 215 = .ok (.lmul, 1) := by decide +kernel
theorem dX2_digest_216 : decode cX2_digest 216 = .ok (.aload_n 0, 1) := by decide +kernel
theorem dX2_digest_217 : decode cX2_digest 217 = .ok (.getfield 29, 3) := by decide +kernel
theorem dX2_digest_220 : decode cX2_digest 220 = .ok (.iload_n 3, 1) := by decide +kernel
theorem dX2_digest_221 : decode cX2_digest 221 = .ok (.iaload, 1) := by decide +kernel
theorem dX2_digest_222 : decode cX2_digest 222 = .ok (.i2l, 1) := by decide +kernel
theorem dX2_digest_223 : decode cX2_digest 223 = .ok (.ladd, 1) := by decide +kernel
theorem dX2_digest_224 : decode cX2_digest 224 = .ok (.lstore_n 1, 1) := by decide +kernel
theorem dX2_digest_225 : decode cX2_digest 225 = .ok (.iinc 3 1, 3) := by decide +kernel
theorem dX2_digest_228 : decode cX2_digest 228 = .ok (.goto (-25), 3) := by decide +kernel
theorem dX2_digest_231 : decode cX2_digest 231 = .ok (.lload_n 1, 1) := by decide +kernel
theorem dX2_digest_232 : decode cX2_digest 232 = .ok (.lreturn, 1) := by decide +kernel
theorem dJ6_bitCount_0f7a4_0 : decode cJ6_bitCount_0f7a4 0 = .ok (.iload_n 0, 1) := by decide +kernel
theorem dJ6_bitCount_0f7a4_1 : decode cJ6_bitCount_0f7a4 1 = .ok (.iload_n 0, 1) := by decide +kernel
theorem dJ6_bitCount_0f7a4_2 : decode cJ6_bitCount_0f7a4 2 = .ok (.iconst 1, 1) := by decide +kernel
theorem dJ6_bitCount_0f7a4_3 : decode cJ6_bitCount_0f7a4 3 = .ok (.iushr, 1) := by decide +kernel
theorem dJ6_bitCount_0f7a4_4 : decode cJ6_bitCount_0f7a4 4 = .ok (.ldc_w 265, 3) := by decide +kernel
theorem dJ6_bitCount_0f7a4_7 : decode cJ6_bitCount_0f7a4 7 = .ok (.iand, 1) := by decide +kernel
theorem dJ6_bitCount_0f7a4_8 : decode cJ6_bitCount_0f7a4 8 = .ok (.isub, 1) := by decide +kernel
theorem dJ6_bitCount_0f7a4_9 : decode cJ6_bitCount_0f7a4 9 = .ok (.istore_n 0, 1) := by decide +kernel
theorem dJ6_bitCount_0f7a4_10 : decode cJ6_bitCount_0f7a4 10 = .ok (.iload_n 0, 1) := by decide +kernel
theorem dJ6_bitCount_0f7a4_11 : decode cJ6_bitCount_0f7a4 11 = .ok (.ldc_w 266, 3) := by decide +kernel
theorem dJ6_bitCount_0f7a4_14 : decode cJ6_bitCount_0f7a4 14 = .ok (.iand, 1) := by decide +kernel
theorem dJ6_bitCount_0f7a4_15 : decode cJ6_bitCount_0f7a4 15 = .ok (.iload_n 0, 1) := by decide +kernel
theorem dJ6_bitCount_0f7a4_16 : decode cJ6_bitCount_0f7a4 16 = .ok (.iconst 2, 1) := by decide +kernel
theorem dJ6_bitCount_0f7a4_17 : decode cJ6_bitCount_0f7a4 17 = .ok (.iushr, 1) := by decide +kernel
theorem dJ6_bitCount_0f7a4_18 : decode cJ6_bitCount_0f7a4 18 = .ok (.ldc_w 266, 3) := by decide +kernel
theorem dJ6_bitCount_0f7a4_21 : decode cJ6_bitCount_0f7a4 21 = .ok (.iand, 1) := by decide +kernel
theorem dJ6_bitCount_0f7a4_22 : decode cJ6_bitCount_0f7a4 22 = .ok (.iadd, 1) := by decide +kernel
theorem dJ6_bitCount_0f7a4_23 : decode cJ6_bitCount_0f7a4 23 = .ok (.istore_n 0, 1) := by decide +kernel
theorem dJ6_bitCount_0f7a4_24 : decode cJ6_bitCount_0f7a4 24 = .ok (.iload_n 0, 1) := by decide +kernel
theorem dJ6_bitCount_0f7a4_25 : decode cJ6_bitCount_0f7a4 25 = .ok (.iload_n 0, 1) := by decide +kernel
theorem dJ6_bitCount_0f7a4_26 : decode cJ6_bitCount_0f7a4 26 = .ok (.iconst 4, 1) := by decide +kernel
theorem dJ6_bitCount_0f7a4_27 : decode cJ6_bitCount_0f7a4 27 = .ok (.iushr, 1) := by decide +kernel
theorem dJ6_bitCount_0f7a4_28 : decode cJ6_bitCount_0f7a4 28 = .ok (.iadd, 1) := by decide +kernel
theorem dJ6_bitCount_0f7a4_29 : decode cJ6_bitCount_0f7a4 29 = .ok (.ldc_w 267, 3) := by decide +kernel
theorem dJ6_bitCount_0f7a4_32 : decode cJ6_bitCount_0f7a4 32 = .ok (.iand, 1) := by decide +kernel
theorem dJ6_bitCount_0f7a4_33 : decode cJ6_bitCount_0f7a4 33 = .ok (.istore_n 0, 1) := by decide +kernel
theorem dJ6_bitCount_0f7a4_34 : decode cJ6_bitCount_0f7a4 34 = .ok (.iload_n 0, 1) := by decide +kernel
theorem dJ6_bitCount_0f7a4_35 : decode cJ6_bitCount_0f7a4 35 = .ok (.iload_n 0, 1) := by decide +kernel
theorem dJ6_bitCount_0f7a4_36 : decode cJ6_bitCount_0f7a4 36 = .ok (.bipush 8, 2) := by decide +kernel
theorem dJ6_bitCount_0f7a4_38 : decode cJ6_bitCount_0f7a4 38 = .ok (.iushr, 1) := by decide +kernel
theorem dJ6_bitCount_0f7a4_39 : decode cJ6_bitCount_0f7a4 39 = .ok (.iadd, 1) := by decide +kernel
theorem dJ6_bitCount_0f7a4_40 : decode cJ6_bitCount_0f7a4 40 = .ok (.istore_n 0, 1) := by decide +kernel
theorem dJ6_bitCount_0f7a4_41 : decode cJ6_bitCount_0f7a4 41 = .ok (.iload_n 0, 1) := by decide +kernel
theorem dJ6_bitCount_0f7a4_42 : decode cJ6_bitCount_0f7a4 42 = .ok (.iload_n 0, 1) := by decide +kernel
theorem dJ6_bitCount_0f7a4_43 : decode cJ6_bitCount_0f7a4 43 = .ok (.bipush 16, 2) := by decide +kernel
theorem dJ6_bitCount_0f7a4_45 : decode cJ6_bitCount_0f7a4 45 = .ok (.iushr, 1) := by decide +kernel
theorem dJ6_bitCount_0f7a4_46 : decode cJ6_bitCount_0f7a4 46 = .ok (.iadd, 1) := by decide +kernel
theorem dJ6_bitCount_0f7a4_47 : decode cJ6_bitCount_0f7a4 47 = .ok (.istore_n 0, 1) := by decide +kernel
theorem dJ6_bitCount_0f7a4_48 : decode cJ6_bitCount_0f7a4 48 = .ok (.iload_n 0, 1) := by decide +kernel
theorem dJ6_bitCount_0f7a4_49 : decode cJ6_bitCount_0f7a4 49 = .ok (.bipush 63, 2) := by decide +kernel
theorem dJ6_bitCount_0f7a4_51 : decode cJ6_bitCount_0f7a4 51 = .ok (.iand, 1) := by decide +kernel
theorem dJ6_bitCount_0f7a4_52 : decode cJ6_bitCount_0f7a4 52 = .ok (.ireturn, 1) := by decide +kernel
set_option maxRecDepth 20000 in
theorem ggL_setFact_X1_setFact : GoodIn wsL_setFact wsX1_setFact := goodIn_ca (goodIn_r _ [6, 7, 8, 9, 5, 10, 11, 12, 13, 14, 15, 16, 17, 18, 19, 20, 21, 22, 23, 24, 25, 26, 27, 28, 29, 30, 31, 32, 33, 34, 35, 36, 37, 38, 39, 40, 41] (by decide +kernel) (by decide +kernel)) (goodIn_sub (fun _ h => List.mem_cons_of_mem _ (List.mem_append_right _ h)) (by decide +kernel))
set_option maxRecDepth 20000 in
theorem gL_setFact_X1_setFact : GoodIn wsL_setFact (wsV RL 7 RX1 yX1_setFact wsX1_setFact) := goodIn_app (goodIn_of _ (by decide +kernel)) ggL_setFact_X1_setFact
theorem dL_setFact_0 : decode cL_setFact 0 = .ok (.aload_n 3, 1) := by decide +kernel
theorem dL_setFact_1 : decode cL_setFact 1 = .ok (.iconst 0, 1) := by decide +kernel
theorem dL_setFact_2 : decode cL_setFact 2 = .ok (.aload_n 0, 1) := by decide +kernel
theorem dL_setFact_3 : decode cL_setFact 3 = .ok (.iload_n 1, 1) := by decide +kernel
theorem dL_setFact_4 : decode cL_setFact 4 = .ok (.iload_n 2, 1) := by decide +kernel
theorem dL_setFact_5 : decode cL_setFact 5 = .ok (.invokevirtual 7, 3) := by decide +kernel
theorem dL_setFact_8 : decode cL_setFact 8 = .ok (.ifCond .eq 7, 3) := by decide +kernel
theorem dL_setFact_11 : decode cL_setFact 11 = .ok (.lconst 1, 1) := by decide +kernel
theorem dL_setFact_12 : decode cL_setFact 12 = .ok (.goto 4, 3) := by decide +kernel
theorem dL_setFact_15 : decode cL_setFact 15 = .ok (.lconst 0, 1) := by decide +kernel
theorem dL_setFact_16 : decode cL_setFact 16 = .ok (.lastore, 1) := by decide +kernel
theorem dL_setFact_17 : decode cL_setFact 17 = .ok (.goto 7, 3) := by decide +kernel
theorem dL_setFact_20 : decode cL_setFact 20 = .ok (.astore 4, 2) := by decide +kernel
theorem dL_setFact_22 : decode cL_setFact 22 = .ok (.iconst 1, 1) := by decide +kernel
theorem dL_setFact_23 : decode cL_setFact 23 = .ok (.ireturn, 1) := by decide +kernel
theorem dL_setFact_24 : decode cL_setFact 24 = .ok (.iconst 0, 1) := by decide +kernel
theorem dL_setFact_25 : decode cL_setFact 25 = .ok (.ireturn, 1) := by decide +kernel
set_option maxRecDepth 20000 in
theorem ggL_addRule_X1_addRule : GoodIn wsL_addRule wsX1_addRule := goodIn_ca (goodIn_ca (goodIn_ca (goodIn_r _ [8, 9, 10, 11, 12, 13, 14, 15, 7, 16, 17, 18, 19, 20, 21, 22, 23, 24, 25, 26, 27, 28, 29, 30, 31, 32, 33, 34, 35, 36, 37, 38, 39, 40, 41, 42, 43, 44, 45, 46, 47, 48, 49, 50] (by decide +kernel) (by decide +kernel)) (goodIn_sub (fun _ h => List.mem_cons_of_mem _ (List.mem_append_left _ (List.mem_append_left _ (List.mem_append_right _ h)))) (by decide +kernel))) (goodIn_sub (fun _ h => List.mem_cons_of_mem _ (List.mem_append_left _ (List.mem_append_right _ h))) (by decide +kernel))) (goodIn_sub (fun _ h => List.mem_cons_of_mem _ (List.mem_append_right _ h)) (by decide +kernel))
set_option maxRecDepth 20000 in
theorem gL_addRule_X1_addRule : GoodIn wsL_addRule (wsV RL 15 RX1 yX1_addRule wsX1_addRule) := goodIn_app (goodIn_of _ (by decide +kernel)) ggL_addRule_X1_addRule
theorem dL_addRule_0 : decode cL_addRule 0 = .ok (.aload_n 3, 1) := by decide +kernel
theorem dL_addRule_1 : decode cL_addRule 1 = .ok (.iconst 0, 1) := by decide +kernel
theorem dL_addRule_2 : decode cL_addRule 2 = .ok (.aload_n 0, 1) := by decide +kernel
theorem dL_addRule_3 : decode cL_addRule 3 = .ok (.iload_n 1, 1) := by decide +kernel
theorem dL_addRule_4 : decode cL_addRule 4 = .ok (.iload_n 2, 1) := by decide +kernel
theorem dL_addRule_5 : decode cL_addRule 5 = .ok (.invokevirtual 15, 3) := by decide +kernel
theorem dL_addRule_8 : decode cL_addRule 8 = .ok (.i2l, 1) := by decide +kernel
theorem dL_addRule_9 : decode cL_addRule 9 = .ok (.lastore, 1) := by decide +kernel
theorem dL_addRule_10 : decode cL_addRule 10 = .ok (.goto 15, 3) := by decide +kernel
theorem dL_addRule_13 : decode cL_addRule 13 = .ok (.astore 4, 2) := by decide +kernel
theorem dL_addRule_15 : decode cL_addRule 15 = .ok (.iconst 1, 1) := by decide +kernel
theorem dL_addRule_16 : decode cL_addRule 16 = .ok (.ireturn, 1) := by decide +kernel
theorem dL_addRule_17 : decode cL_addRule 17 = .ok (.astore 4, 2) := by decide +kernel
theorem dL_addRule_19 : decode cL_addRule 19 = .ok (.iconst 2, 1) := by decide +kernel
theorem dL_addRule_20 : decode cL_addRule 20 = .ok (.ireturn, 1) := by decide +kernel
theorem dL_addRule_21 : decode cL_addRule 21 = .ok (.astore 4, 2) := by decide +kernel
theorem dL_addRule_23 : decode cL_addRule 23 = .ok (.iconst 3, 1) := by decide +kernel
theorem dL_addRule_24 : decode cL_addRule 24 = .ok (.ireturn, 1) := by decide +kernel
theorem dL_addRule_25 : decode cL_addRule 25 = .ok (.iconst 0, 1) := by decide +kernel
theorem dL_addRule_26 : decode cL_addRule 26 = .ok (.ireturn, 1) := by decide +kernel
set_option maxRecDepth 20000 in
theorem ggL_addDefault_X1_addDefault : GoodIn wsL_addDefault wsX1_addDefault := goodIn_ca (goodIn_ca (goodIn_ca (goodIn_r _ [8, 9, 10, 11, 12, 13, 14, 15, 16, 7, 17, 18, 19, 20, 21, 22, 23, 24, 25, 26, 27, 28, 29, 30, 31, 32, 33, 34, 35, 36, 37, 38, 39, 40, 41, 42, 43, 44, 45, 46, 47, 48, 49, 50, 51] (by decide +kernel) (by decide +kernel)) (goodIn_sub (fun _ h => List.mem_cons_of_mem _ (List.mem_append_left _ (List.mem_append_left _ (List.mem_append_right _ h)))) (by decide +kernel))) (goodIn_sub (fun _ h => List.mem_cons_of_mem _ (List.mem_append_left _ (List.mem_append_right _ h))) (by decide +kernel))) (goodIn_sub (fun _ h => List.mem_cons_of_mem _ (List.mem_append_right _ h)) (by decide +kernel))
set_option maxRecDepth 20000 in
theorem gL_addDefault_X1_addDefault : GoodIn wsL_addDefault (wsV RL 23 RX1 yX1_addDefault wsX1_addDefault) := goodIn_app (goodIn_of _ (by decide +kernel)) ggL_addDefault_X1_addDefault
theorem dL_addDefault_0 : decode cL_addDefault 0 = .ok (.aload 4, 2) := by decide +kernel
theorem dL_addDefault_2 : decode cL_addDefault 2 = .ok (.iconst 0, 1) := by decide +kernel
theorem dL_addDefault_3 : decode cL_addDefault 3 = .ok (.aload_n 0, 1) := by decide +kernel
theorem dL_addDefault_4 : decode cL_addDefault 4 = .ok (.iload_n 1, 1) := by decide +kernel
theorem dL_addDefault_5 : decode cL_addDefault 5 = .ok (.iload_n 2, 1) := by decide +kernel
theorem dL_addDefault_6 : decode cL_addDefault 6 = .ok (.iload_n 3, 1) := by decide +kernel
theorem dL_addDefault_7 : decode cL_addDefault 7 = .ok (.invokevirtual 23, 3) := by decide +kernel
theorem dL_addDefault_10 : decode cL_addDefault 10 = .ok (.i2l, 1) := by decide +kernel
theorem dL_addDefault_11 : decode cL_addDefault 11 = .ok (.lastore, 1) := by decide +kernel
theorem dL_addDefault_12 : decode cL_addDefault 12 = .ok (.goto 15, 3) := by decide +kernel
theorem dL_addDefault_15 : decode cL_addDefault 15 = .ok (.astore 5, 2) := by decide +kernel
theorem dL_addDefault_17 : decode cL_addDefault 17 = .ok (.iconst 1, 1) := by decide +kernel
theorem dL_addDefault_18 : decode cL_addDefault 18 = .ok (.ireturn, 1) := by decide +kernel
theorem dL_addDefault_19 : decode cL_addDefault 19 = .ok (.astore 5, 2) := by decide +kernel
theorem dL_addDefault_21 : decode cL_addDefault 21 = .ok (.iconst 2, 1) := by decide +kernel
theorem dL_addDefault_22 : decode cL_addDefault 22 = .ok (.ireturn, 1) := by decide +kernel
theorem dL_addDefault_23 : decode cL_addDefault 23 = .ok (.astore 5, 2) := by decide +kernel
theorem dL_addDefault_25 : decode cL_addDefault 25 = .ok (.iconst 3, 1) := by decide +kernel
theorem dL_addDefault_26 : decode cL_addDefault 26 = .ok (.ireturn, 1) := by decide +kernel
theorem dL_addDefault_27 : decode cL_addDefault 27 = .ok (.iconst 0, 1) := by decide +kernel
theorem dL_addDefault_28 : decode cL_addDefault 28 = .ok (.ireturn, 1) := by decide +kernel
set_option maxRecDepth 20000 in
theorem ggL_dropRule_X1_dropRule : GoodIn wsL_dropRule wsX1_dropRule := goodIn_ca (goodIn_r _ [6, 7, 8, 9, 10, 11, 12, 5, 13, 14, 15, 16, 17, 18, 19, 20, 21, 22, 23, 24, 25, 26, 27, 28, 29, 30, 31, 32, 33, 34, 35] (by decide +kernel) (by decide +kernel)) (goodIn_sub (fun _ h => List.mem_cons_of_mem _ (List.mem_append_right _ h)) (by decide +kernel))
set_option maxRecDepth 20000 in
theorem gL_dropRule_X1_dropRule : GoodIn wsL_dropRule (wsV RL 27 RX1 yX1_dropRule wsX1_dropRule) := goodIn_app (goodIn_of _ (by decide +kernel)) ggL_dropRule_X1_dropRule
theorem dL_dropRule_0 : decode cL_dropRule 0 = .ok (.aload_n 1, 1) := by decide +kernel
theorem dL_dropRule_1 : decode cL_dropRule 1 = .ok (.iconst 0, 1) := by decide +kernel
theorem dL_dropRule_2 : decode cL_dropRule 2 = .ok (.aload_n 0, 1) := by decide +kernel
theorem dL_dropRule_3 : decode cL_dropRule 3 = .ok (.invokevirtual 27, 3) := by decide +kernel
theorem dL_dropRule_6 : decode cL_dropRule 6 = .ok (.i2l, 1) := by decide +kernel
theorem dL_dropRule_7 : decode cL_dropRule 7 = .ok (.lastore, 1) := by decide +kernel
theorem dL_dropRule_8 : decode cL_dropRule 8 = .ok (.goto 6, 3) := by decide +kernel
theorem dL_dropRule_11 : decode cL_dropRule 11 = .ok (.astore_n 2, 1) := by decide +kernel
theorem dL_dropRule_12 : decode cL_dropRule 12 = .ok (.iconst 1, 1) := by decide +kernel
theorem dL_dropRule_13 : decode cL_dropRule 13 = .ok (.ireturn, 1) := by decide +kernel
theorem dL_dropRule_14 : decode cL_dropRule 14 = .ok (.iconst 0, 1) := by decide +kernel
theorem dL_dropRule_15 : decode cL_dropRule 15 = .ok (.ireturn, 1) := by decide +kernel
set_option maxRecDepth 20000 in
theorem ggL_dropDefault_X1_dropDefault : GoodIn wsL_dropDefault wsX1_dropDefault := goodIn_ca (goodIn_r _ [6, 7, 8, 9, 10, 11, 12, 13, 14, 15, 16, 17, 18, 19, 20, 21, 5, 22, 23, 24, 25, 26, 27, 28, 29, 30, 31, 32, 33, 34, 35, 36, 37, 38, 39, 40, 41, 42, 43, 44, 45, 46, 47, 48, 49, 50] (by decide +kernel) (by decide +kernel)) (goodIn_sub (fun _ h => List.mem_cons_of_mem _ (List.mem_append_right _ h)) (by decide +kernel))
set_option maxRecDepth 20000 in
theorem gL_dropDefault_X1_dropDefault : GoodIn wsL_dropDefault (wsV RL 31 RX1 yX1_dropDefault wsX1_dropDefault) := goodIn_app (goodIn_of _ (by decide +kernel)) ggL_dropDefault_X1_dropDefault
theorem dL_dropDefault_0 : decode cL_dropDefault 0 = .ok (.aload_n 1, 1) := by decide +kernel
theorem dL_dropDefault_1 : decode cL_dropDefault 1 = .ok (.iconst 0, 1) := by decide +kernel
theorem dL_dropDefault_2 : decode cL_dropDefault 2 = .ok (.aload_n 0, 1) := by decide +kernel
theorem dL_dropDefault_3 : decode cL_dropDefault 3 = .ok (.invokevirtual 31, 3) := by decide +kernel
theorem dL_dropDefault_6 : decode cL_dropDefault 6 = .ok (.i2l, 1) := by decide +kernel
theorem dL_dropDefault_7 : decode cL_dropDefault 7 = .ok (.lastore, 1) := by decide +kernel
theorem dL_dropDefault_8 : decode cL_dropDefault 8 = .ok (.goto 6, 3) := by decide +kernel
theorem dL_dropDefault_11 : decode cL_dropDefault 11 = .ok (.astore_n 2, 1) := by decide +kernel
theorem dL_dropDefault_12 : decode cL_dropDefault 12 = .ok (.iconst 1, 1) := by decide +kernel
theorem dL_dropDefault_13 : decode cL_dropDefault 13 = .ok (.ireturn, 1) := by decide +kernel
theorem dL_dropDefault_14 : decode cL_dropDefault 14 = .ok (.iconst 0, 1) := by decide +kernel
theorem dL_dropDefault_15 : decode cL_dropDefault 15 = .ok (.ireturn, 1) := by decide +kernel
set_option maxRecDepth 20000 in
theorem ggL_prefer_X1_prefer : GoodIn wsL_prefer wsX1_prefer := goodIn_ca (goodIn_ca (goodIn_r _ [7, 8, 9, 10, 11, 12, 13, 14, 6, 15, 16, 17, 18, 19, 20, 21, 22, 23, 24, 25, 26, 27, 28, 29, 30, 31, 32, 33, 34, 35, 36, 37, 38, 39, 40, 41, 42, 43, 44, 45, 46, 47, 48, 49, 50, 51, 52, 53, 54, 55] (by decide +kernel) (by decide +kernel)) (goodIn_sub (fun _ h => List.mem_cons_of_mem _ (List.mem_append_left _ (List.mem_append_right _ h))) (by decide +kernel))) (goodIn_sub (fun _ h => List.mem_cons_of_mem _ (List.mem_append_right _ h)) (by decide +kernel))
set_option maxRecDepth 20000 in
theorem gL_prefer_X1_prefer : GoodIn wsL_prefer (wsV RL 34 RX1 yX1_prefer wsX1_prefer) := goodIn_app (goodIn_of _ (by decide +kernel)) ggL_prefer_X1_prefer
theorem dL_prefer_0 : decode cL_prefer 0 = .ok (.aload_n 3, 1) := by decide +kernel
theorem dL_prefer_1 : decode cL_prefer 1 = .ok (.iconst 0, 1) := by decide +kernel
theorem dL_prefer_2 : decode cL_prefer 2 = .ok (.aload_n 0, 1) := by decide +kernel
theorem dL_prefer_3 : decode cL_prefer 3 = .ok (.iload_n 1, 1) := by decide +kernel
theorem dL_prefer_4 : decode cL_prefer 4 = .ok (.iload_n 2, 1) := by decide +kernel
theorem dL_prefer_5 : decode cL_prefer 5 = .ok (.invokevirtual 34, 3) := by decide +kernel
theorem dL_prefer_8 : decode cL_prefer 8 = .ok (.ifCond .eq 7, 3) := by decide +kernel
theorem dL_prefer_11 : decode cL_prefer 11 = .ok (.lconst 1, 1) := by decide +kernel
theorem dL_prefer_12 : decode cL_prefer 12 = .ok (.goto 4, 3) := by decide +kernel
theorem dL_prefer_15 : decode cL_prefer 15 = .ok (.lconst 0, 1) := by decide +kernel
theorem dL_prefer_16 : decode cL_prefer 16 = .ok (.lastore, 1) := by decide +kernel
end
section
theorem dL_prefer_17 : decode cL_prefer 17 = .ok (.goto 11, 3) := by decide +kernel
theorem dL_prefer_20 : decode cL_prefer 20 = .ok (.astore 4, 2) := by decide +kernel
theorem dL_prefer_22 : decode cL_prefer 22 = .ok (.iconst 1, 1) := by decide +kernel
theorem dL_prefer_23 : decode cL_prefer 23 = .ok (.ireturn, 1) := by decide +kernel
theorem dL_prefer_24 : decode cL_prefer 24 = .ok (.astore 4, 2) := by decide +kernel
theorem dL_prefer_26 : decode cL_prefer 26 = .ok (.iconst 2, 1) := by decide +kernel
theorem dL_prefer_27 : decode cL_prefer 27 = .ok (.ireturn, 1) := by decide +kernel
theorem dL_prefer_28 : decode cL_prefer 28 = .ok (.iconst 0, 1) := by decide +kernel
theorem dL_prefer_29 : decode cL_prefer 29 = .ok (.ireturn, 1) := by decide +kernel
set_option maxRecDepth 20000 in
theorem ggL_isBefore_X1_isBefore : GoodIn wsL_isBefore wsX1_isBefore := goodIn_ca (goodIn_r _ [6, 7, 8, 9, 10, 5, 11, 12, 13, 14, 15, 16, 17, 18, 19, 20, 21, 22, 23, 24, 25, 26, 27, 28, 29, 30, 31, 32, 33, 34, 35, 36, 37, 38, 39, 40, 41, 42, 43] (by decide +kernel) (by decide +kernel)) (goodIn_sub (fun _ h => List.mem_cons_of_mem _ (List.mem_append_right _ h)) (by decide +kernel))
set_option maxRecDepth 20000 in
theorem gL_isBefore_X1_isBefore : GoodIn wsL_isBefore (wsV RL 38 RX1 yX1_isBefore wsX1_isBefore) := goodIn_app (goodIn_of _ (by decide +kernel)) ggL_isBefore_X1_isBefore
theorem dL_isBefore_0 : decode cL_isBefore 0 = .ok (.aload_n 3, 1) := by decide +kernel
theorem dL_isBefore_1 : decode cL_isBefore 1 = .ok (.iconst 0, 1) := by decide +kernel
theorem dL_isBefore_2 : decode cL_isBefore 2 = .ok (.aload_n 0, 1) := by decide +kernel
theorem dL_isBefore_3 : decode cL_isBefore 3 = .ok (.iload_n 1, 1) := by decide +kernel
theorem dL_isBefore_4 : decode cL_isBefore 4 = .ok (.iload_n 2, 1) := by decide +kernel
theorem dL_isBefore_5 : decode cL_isBefore 5 = .ok (.invokevirtual 38, 3) := by decide +kernel
theorem dL_isBefore_8 : decode cL_isBefore 8 = .ok (.ifCond .eq 7, 3) := by decide +kernel
theorem dL_isBefore_11 : decode cL_isBefore 11 = .ok (.lconst 1, 1) := by decide +kernel
theorem dL_isBefore_12 : decode cL_isBefore 12 = .ok (.goto 4, 3) := by decide +kernel
theorem dL_isBefore_15 : decode cL_isBefore 15 = .ok (.lconst 0, 1) := by decide +kernel
theorem dL_isBefore_16 : decode cL_isBefore 16 = .ok (.lastore, 1) := by decide +kernel
theorem dL_isBefore_17 : decode cL_isBefore 17 = .ok (.goto 7, 3) := by decide +kernel
theorem dL_isBefore_20 : decode cL_isBefore 20 = .ok (.astore 4, 2) := by decide +kernel
theorem dL_isBefore_22 : decode cL_isBefore 22 = .ok (.iconst 1, 1) := by decide +kernel
theorem dL_isBefore_23 : decode cL_isBefore 23 = .ok (.ireturn, 1) := by decide +kernel
theorem dL_isBefore_24 : decode cL_isBefore 24 = .ok (.iconst 0, 1) := by decide +kernel
theorem dL_isBefore_25 : decode cL_isBefore 25 = .ok (.ireturn, 1) := by decide +kernel
set_option maxRecDepth 20000 in
theorem ggL_closure_X1_closure : GoodIn wsL_closure wsX1_closure := goodIn_ca (goodIn_r _ [6, 7, 8, 5, 9, 10, 11, 12, 13, 14, 15, 16, 17, 18, 19, 20, 21, 22, 23, 24, 25, 26, 27, 28, 29, 30, 31, 32, 33, 34, 35, 36, 37, 38, 39, 40, 41, 42, 43, 44, 45] (by decide +kernel) (by decide +kernel)) (goodIn_sub (fun _ h => List.mem_cons_of_mem _ (List.mem_append_right _ h)) (by decide +kernel))
set_option maxRecDepth 20000 in
theorem gL_closure_X1_closure : GoodIn wsL_closure (wsV RL 41 RX1 yX1_closure wsX1_closure) := goodIn_app (goodIn_of _ (by decide +kernel)) ggL_closure_X1_closure
theorem dL_closure_0 : decode cL_closure 0 = .ok (.aload_n 2, 1) := by decide +kernel
theorem dL_closure_1 : decode cL_closure 1 = .ok (.iconst 0, 1) := by decide +kernel
theorem dL_closure_2 : decode cL_closure 2 = .ok (.aload_n 0, 1) := by decide +kernel
theorem dL_closure_3 : decode cL_closure 3 = .ok (.iload_n 1, 1) := by decide +kernel
theorem dL_closure_4 : decode cL_closure 4 = .ok (.invokevirtual 41, 3) := by decide +kernel
theorem dL_closure_7 : decode cL_closure 7 = .ok (.i2l, 1) := by decide +kernel
theorem dL_closure_8 : decode cL_closure 8 = .ok (.lastore, 1) := by decide +kernel
theorem dL_closure_9 : decode cL_closure 9 = .ok (.goto 6, 3) := by decide +kernel
theorem dL_closure_12 : decode cL_closure 12 = .ok (.astore_n 3, 1) := by decide +kernel
theorem dL_closure_13 : decode cL_closure 13 = .ok (.iconst 1, 1) := by decide +kernel
theorem dL_closure_14 : decode cL_closure 14 = .ok (.ireturn, 1) := by decide +kernel
theorem dL_closure_15 : decode cL_closure 15 = .ok (.iconst 0, 1) := by decide +kernel
theorem dL_closure_16 : decode cL_closure 16 = .ok (.ireturn, 1) := by decide +kernel
set_option maxRecDepth 20000 in
theorem ggL_isOpen_X1_isOpen : GoodIn wsL_isOpen wsX1_isOpen := goodIn_ca (goodIn_ca (goodIn_r _ [7, 8, 9, 10, 6, 11, 12, 13, 14, 15, 16, 17, 18, 19, 20, 21, 22, 23, 24, 25, 26, 27, 28, 29, 30, 31, 32, 33, 34, 35, 36, 37, 38, 39, 40, 41, 42, 43, 44, 45, 46, 47, 48] (by decide +kernel) (by decide +kernel)) (goodIn_sub (fun _ h => List.mem_cons_of_mem _ (List.mem_append_left _ (List.mem_append_right _ h))) (by decide +kernel))) (goodIn_sub (fun _ h => List.mem_cons_of_mem _ (List.mem_append_right _ h)) (by decide +kernel))
set_option maxRecDepth 20000 in
theorem gL_isOpen_X1_isOpen : GoodIn wsL_isOpen (wsV RL 45 RX1 yX1_isOpen wsX1_isOpen) := goodIn_app (goodIn_of _ (by decide +kernel)) ggL_isOpen_X1_isOpen
theorem dL_isOpen_0 : decode cL_isOpen 0 = .ok (.aload_n 3, 1) := by decide +kernel
theorem dL_isOpen_1 : decode cL_isOpen 1 = .ok (.iconst 0, 1) := by decide +kernel
theorem dL_isOpen_2 : decode cL_isOpen 2 = .ok (.aload_n 0, 1) := by decide +kernel
theorem dL_isOpen_3 : decode cL_isOpen 3 = .ok (.iload_n 1, 1) := by decide +kernel
theorem dL_isOpen_4 : decode cL_isOpen 4 = .ok (.iload_n 2, 1) := by decide +kernel
theorem dL_isOpen_5 : decode cL_isOpen 5 = .ok (.invokevirtual 45, 3) := by decide +kernel
theorem dL_isOpen_8 : decode cL_isOpen 8 = .ok (.ifCond .eq 7, 3) := by decide +kernel
theorem dL_isOpen_11 : decode cL_isOpen 11 = .ok (.lconst 1, 1) := by decide +kernel
theorem dL_isOpen_12 : decode cL_isOpen 12 = .ok (.goto 4, 3) := by decide +kernel
theorem dL_isOpen_15 : decode cL_isOpen 15 = .ok (.lconst 0, 1) := by decide +kernel
theorem dL_isOpen_16 : decode cL_isOpen 16 = .ok (.lastore, 1) := by decide +kernel
theorem dL_isOpen_17 : decode cL_isOpen 17 = .ok (.goto 11, 3) := by decide +kernel
theorem dL_isOpen_20 : decode cL_isOpen 20 = .ok (.astore 4, 2) := by decide +kernel
theorem dL_isOpen_22 : decode cL_isOpen 22 = .ok (.iconst 1, 1) := by decide +kernel
theorem dL_isOpen_23 : decode cL_isOpen 23 = .ok (.ireturn, 1) := by decide +kernel
theorem dL_isOpen_24 : decode cL_isOpen 24 = .ok (.astore 4, 2) := by decide +kernel
theorem dL_isOpen_26 : decode cL_isOpen 26 = .ok (.iconst 2, 1) := by decide +kernel
theorem dL_isOpen_27 : decode cL_isOpen 27 = .ok (.ireturn, 1) := by decide +kernel
theorem dL_isOpen_28 : decode cL_isOpen 28 = .ok (.iconst 0, 1) := by decide +kernel
theorem dL_isOpen_29 : decode cL_isOpen 29 = .ok (.ireturn, 1) := by decide +kernel
set_option maxRecDepth 20000 in
theorem ggL_generatorsOf_X1_generatorsOf : GoodIn wsL_generatorsOf wsX1_generatorsOf := goodIn_ca (goodIn_r _ [6, 7, 8, 5, 9, 10, 11, 12, 13, 14, 15, 16, 17, 18, 19, 20, 21, 22, 23, 24, 25, 26, 27, 28, 29, 30, 31, 32, 33, 34, 35, 36, 37, 38, 39, 40, 41, 42, 43, 44, 45, 46, 47, 48, 49, 50, 51, 52, 53, 54, 55, 56, 57, 58, 59, 60, 61, 62, 63, 64, 65, 66, 67, 68, 69, 70, 71, 72, 73, 74, 75, 76, 77, 78, 79, 80, 81, 82] (by decide +kernel) (by decide +kernel)) (goodIn_sub (fun _ h => List.mem_cons_of_mem _ (List.mem_append_right _ h)) (by decide +kernel))
set_option maxRecDepth 20000 in
theorem gL_generatorsOf_X1_generatorsOf : GoodIn wsL_generatorsOf (wsV RL 48 RX1 yX1_generatorsOf wsX1_generatorsOf) := goodIn_app (goodIn_of _ (by decide +kernel)) ggL_generatorsOf_X1_generatorsOf
theorem dL_generatorsOf_0 : decode cL_generatorsOf 0 = .ok (.aload_n 2, 1) := by decide +kernel
theorem dL_generatorsOf_1 : decode cL_generatorsOf 1 = .ok (.iconst 0, 1) := by decide +kernel
theorem dL_generatorsOf_2 : decode cL_generatorsOf 2 = .ok (.aload_n 0, 1) := by decide +kernel
theorem dL_generatorsOf_3 : decode cL_generatorsOf 3 = .ok (.iload_n 1, 1) := by decide +kernel
theorem dL_generatorsOf_4 : decode cL_generatorsOf 4 = .ok (.invokevirtual 48, 3) := by decide +kernel
theorem dL_generatorsOf_7 : decode cL_generatorsOf 7 = .ok (.i2l, 1) := by decide +kernel
theorem dL_generatorsOf_8 : decode cL_generatorsOf 8 = .ok (.lastore, 1) := by decide +kernel
theorem dL_generatorsOf_9 : decode cL_generatorsOf 9 = .ok (.goto 6, 3) := by decide +kernel
theorem dL_generatorsOf_12 : decode cL_generatorsOf 12 = .ok (.astore_n 3, 1) := by decide +kernel
theorem dL_generatorsOf_13 : decode cL_generatorsOf 13 = .ok (.iconst 1, 1) := by decide +kernel
theorem dL_generatorsOf_14 : decode cL_generatorsOf 14 = .ok (.ireturn, 1) := by decide +kernel
theorem dL_generatorsOf_15 : decode cL_generatorsOf 15 = .ok (.iconst 0, 1) := by decide +kernel
theorem dL_generatorsOf_16 : decode cL_generatorsOf 16 = .ok (.ireturn, 1) := by decide +kernel
set_option maxRecDepth 20000 in
theorem ggL_isExtension_X1_isExtension : GoodIn wsL_isExtension wsX1_isExtension := goodIn_ca (goodIn_r _ [6, 7, 8, 9, 5, 10, 11, 12, 13, 14, 15, 16, 17, 18, 19, 20, 21, 22, 23, 24, 25, 26, 27, 28, 29, 30, 31, 32, 33, 34, 35, 36, 37, 38, 39, 40, 41, 42, 43, 44, 45, 46, 47, 48, 49, 50, 51, 52, 53, 54, 55, 56, 57, 58, 59, 60, 61, 62, 63, 64, 65, 66, 67, 68, 69, 70, 71, 72, 73, 74, 75, 76, 77, 78, 79, 80, 81, 82] (by decide +kernel) (by decide +kernel)) (goodIn_sub (fun _ h => List.mem_cons_of_mem _ (List.mem_append_right _ h)) (by decide +kernel))
set_option maxRecDepth 20000 in
theorem gL_isExtension_X1_isExtension : GoodIn wsL_isExtension (wsV RL 51 RX1 yX1_isExtension wsX1_isExtension) := goodIn_app (goodIn_of _ (by decide +kernel)) ggL_isExtension_X1_isExtension
theorem dL_isExtension_0 : decode cL_isExtension 0 = .ok (.aload_n 2, 1) := by decide +kernel
theorem dL_isExtension_1 : decode cL_isExtension 1 = .ok (.iconst 0, 1) := by decide +kernel
theorem dL_isExtension_2 : decode cL_isExtension 2 = .ok (.aload_n 0, 1) := by decide +kernel
theorem dL_isExtension_3 : decode cL_isExtension 3 = .ok (.iload_n 1, 1) := by decide +kernel
theorem dL_isExtension_4 : decode cL_isExtension 4 = .ok (.invokevirtual 51, 3) := by decide +kernel
theorem dL_isExtension_7 : decode cL_isExtension 7 = .ok (.ifCond .eq 7, 3) := by decide +kernel
theorem dL_isExtension_10 : decode cL_isExtension 10 = .ok (.lconst 1, 1) := by decide +kernel
theorem dL_isExtension_11 : decode cL_isExtension 11 = .ok (.goto 4, 3) := by decide +kernel
theorem dL_isExtension_14 : decode cL_isExtension 14 = .ok (.lconst 0, 1) := by decide +kernel
theorem dL_isExtension_15 : decode cL_isExtension 15 = .ok (.lastore, 1) := by decide +kernel
theorem dL_isExtension_16 : decode cL_isExtension 16 = .ok (.goto 6, 3) := by decide +kernel
theorem dL_isExtension_19 : decode cL_isExtension 19 = .ok (.astore_n 3, 1) := by decide +kernel
theorem dL_isExtension_20 : decode cL_isExtension 20 = .ok (.iconst 1, 1) := by decide +kernel
theorem dL_isExtension_21 : decode cL_isExtension 21 = .ok (.ireturn, 1) := by decide +kernel
theorem dL_isExtension_22 : decode cL_isExtension 22 = .ok (.iconst 0, 1) := by decide +kernel
theorem dL_isExtension_23 : decode cL_isExtension 23 = .ok (.ireturn, 1) := by decide +kernel
set_option maxRecDepth 20000 in
theorem ggL_extension_X1_extension : GoodIn wsL_extension wsX1_extension := goodIn_ca (goodIn_r _ [6, 7, 8, 9, 10, 5, 11, 12, 13, 14, 15, 16, 17, 18, 19, 20, 21, 22, 23, 24, 25, 26, 27, 28, 29, 30, 31, 32, 33, 34, 35, 36, 37, 38, 39, 40, 41, 42, 43, 44, 45, 46, 47, 48, 49, 50, 51, 52, 53, 54, 55, 56, 57, 58, 59, 60, 61, 62, 63, 64, 65, 66, 67, 68, 69, 70, 71, 72, 73, 74, 75, 76, 77, 78, 79, 80, 81, 82, 83] (by decide +kernel) (by decide +kernel)) (goodIn_sub (fun _ h => List.mem_cons_of_mem _ (List.mem_append_right _ h)) (by decide +kernel))
set_option maxRecDepth 20000 in
theorem gL_extension_X1_extension : GoodIn wsL_extension (wsV RL 55 RX1 yX1_extension wsX1_extension) := goodIn_app (goodIn_of _ (by decide +kernel)) ggL_extension_X1_extension
theorem dL_extension_0 : decode cL_extension 0 = .ok (.aload_n 2, 1) := by decide +kernel
theorem dL_extension_1 : decode cL_extension 1 = .ok (.iconst 0, 1) := by decide +kernel
theorem dL_extension_2 : decode cL_extension 2 = .ok (.aload_n 0, 1) := by decide +kernel
theorem dL_extension_3 : decode cL_extension 3 = .ok (.iload_n 1, 1) := by decide +kernel
theorem dL_extension_4 : decode cL_extension 4 = .ok (.invokevirtual 55, 3) := by decide +kernel
theorem dL_extension_7 : decode cL_extension 7 = .ok (.i2l, 1) := by decide +kernel
theorem dL_extension_8 : decode cL_extension 8 = .ok (.lastore, 1) := by decide +kernel
theorem dL_extension_9 : decode cL_extension 9 = .ok (.goto 6, 3) := by decide +kernel
theorem dL_extension_12 : decode cL_extension 12 = .ok (.astore_n 3, 1) := by decide +kernel
theorem dL_extension_13 : decode cL_extension 13 = .ok (.iconst 1, 1) := by decide +kernel
theorem dL_extension_14 : decode cL_extension 14 = .ok (.ireturn, 1) := by decide +kernel
theorem dL_extension_15 : decode cL_extension 15 = .ok (.iconst 0, 1) := by decide +kernel
theorem dL_extension_16 : decode cL_extension 16 = .ok (.ireturn, 1) := by decide +kernel
set_option maxRecDepth 20000 in
theorem ggL_isPreferred_X1_isPreferred : GoodIn wsL_isPreferred wsX1_isPreferred := goodIn_ca (goodIn_r _ [6, 7, 8, 9, 10, 5, 11, 12, 13, 14, 15, 16, 17, 18, 19, 20, 21, 22, 23, 24, 25, 26, 27, 28, 29, 30, 31, 32, 33, 34, 35, 36, 37, 38, 39, 40, 41, 42, 43, 44, 45, 46, 47, 48, 49, 50, 51, 52, 53, 54, 55, 56, 57, 58, 59, 60, 61, 62, 63, 64, 65, 66, 67, 68, 69, 70, 71, 72, 73, 74, 75, 76, 77, 78, 79, 80, 81, 82, 83, 84, 85, 86, 87, 88, 89, 90, 91, 92, 93, 94, 95, 96, 97, 98, 99, 100, 101, 102, 103, 104, 105, 106, 107, 108, 109, 110, 111, 112, 113, 114, 115, 116, 117, 118, 119, 120] (by decide +kernel) (by decide +kernel)) (goodIn_sub (fun _ h => List.mem_cons_of_mem _ (List.mem_append_right _ h)) (by decide +kernel))
set_option maxRecDepth 20000 in
theorem gL_isPreferred_X1_isPreferred : GoodIn wsL_isPreferred (wsV RL 58 RX1 yX1_isPreferred wsX1_isPreferred) := goodIn_app (goodIn_of _ (by decide +kernel)) ggL_isPreferred_X1_isPreferred
theorem dL_isPreferred_0 : decode cL_isPreferred 0 = .ok (.aload_n 2, 1) := by decide +kernel
theorem dL_isPreferred_1 : decode cL_isPreferred 1 = .ok (.iconst 0, 1) := by decide +kernel
theorem dL_isPreferred_2 : decode cL_isPreferred 2 = .ok (.aload_n 0, 1) := by decide +kernel
theorem dL_isPreferred_3 : decode cL_isPreferred 3 = .ok (.iload_n 1, 1) := by decide +kernel
theorem dL_isPreferred_4 : decode cL_isPreferred 4 = .ok (.invokevirtual 58, 3) := by decide +kernel
theorem dL_isPreferred_7 : decode cL_isPreferred 7 = .ok (.ifCond .eq 7, 3) := by decide +kernel
theorem dL_isPreferred_10 : decode cL_isPreferred 10 = .ok (.lconst 1, 1) := by decide +kernel
theorem dL_isPreferred_11 : decode cL_isPreferred 11 = .ok (.goto 4, 3) := by decide +kernel
theorem dL_isPreferred_14 : decode cL_isPreferred 14 = .ok (.lconst 0, 1) := by decide +kernel
theorem dL_isPreferred_15 : decode cL_isPreferred 15 = .ok (.lastore, 1) := by decide +kernel
theorem dL_isPreferred_16 : decode cL_isPreferred 16 = .ok (.goto 6, 3) := by decide +kernel
theorem dL_isPreferred_19 : decode cL_isPreferred 19 = .ok (.astore_n 3, 1) := by decide +kernel
theorem dL_isPreferred_20 : decode cL_isPreferred 20 = .ok (.iconst 1, 1) := by decide +kernel
theorem dL_isPreferred_21 : decode cL_isPreferred 21 = .ok (.ireturn, 1) := by decide +kernel
theorem dL_isPreferred_22 : decode cL_isPreferred 22 = .ok (.iconst 0, 1) := by decide +kernel
theorem dL_isPreferred_23 : decode cL_isPreferred 23 = .ok (.ireturn, 1) := by decide +kernel
set_option maxRecDepth 20000 in
theorem ggL_supports_X1_supports : GoodIn wsL_supports wsX1_supports := goodIn_ca (goodIn_r _ [6, 7, 8, 9, 10, 5, 11, 12, 13, 14, 15, 16, 17, 18, 19, 20, 21, 22, 23, 24, 25, 26, 27, 28, 29, 30, 31, 32, 33, 34, 35, 36, 37, 38, 39, 40, 41, 42, 43, 44, 45, 46, 47, 48, 49, 50, 51, 52, 53, 54, 55, 56, 57, 58, 59, 60, 61, 62, 63, 64, 65, 66, 67, 68, 69, 70, 71, 72, 73, 74, 75, 76, 77, 78, 79, 80, 81, 82] (by decide +kernel) (by decide +kernel)) (goodIn_sub (fun _ h => List.mem_cons_of_mem _ (List.mem_append_right _ h)) (by decide +kernel))
set_option maxRecDepth 20000 in
theorem gL_supports_X1_supports : GoodIn wsL_supports (wsV RL 61 RX1 yX1_supports wsX1_supports) := goodIn_app (goodIn_of _ (by decide +kernel)) ggL_supports_X1_supports
theorem dL_supports_0 : decode cL_supports 0 = .ok (.aload_n 2, 1) := by decide +kernel
theorem dL_supports_1 : decode cL_supports 1 = .ok (.iconst 0, 1) := by decide +kernel
theorem dL_supports_2 : decode cL_supports 2 = .ok (.aload_n 0, 1) := by decide +kernel
theorem dL_supports_3 : decode cL_supports 3 = .ok (.iload_n 1, 1) := by decide +kernel
theorem dL_supports_4 : decode cL_supports 4 = .ok (.invokevirtual 61, 3) := by decide +kernel
theorem dL_supports_7 : decode cL_supports 7 = .ok (.i2l, 1) := by decide +kernel
theorem dL_supports_8 : decode cL_supports 8 = .ok (.lastore, 1) := by decide +kernel
theorem dL_supports_9 : decode cL_supports 9 = .ok (.goto 6, 3) := by decide +kernel
theorem dL_supports_12 : decode cL_supports 12 = .ok (.astore_n 3, 1) := by decide +kernel
theorem dL_supports_13 : decode cL_supports 13 = .ok (.iconst 1, 1) := by decide +kernel
theorem dL_supports_14 : decode cL_supports 14 = .ok (.ireturn, 1) := by decide +kernel
theorem dL_supports_15 : decode cL_supports 15 = .ok (.iconst 0, 1) := by decide +kernel
theorem dL_supports_16 : decode cL_supports 16 = .ok (.ireturn, 1) := by decide +kernel
set_option maxRecDepth 20000 in
theorem ggL_share_X1_share : GoodIn wsL_share wsX1_share := goodIn_ca (goodIn_r _ [6, 7, 8, 9, 10, 11, 12, 5, 13, 14, 15, 16, 17, 18, 19, 20, 21, 22, 23, 24, 25, 26, 27, 28, 29, 30, 31, 32, 33, 34, 35, 36, 37, 38, 39, 40, 41, 42, 43, 44, 45, 46, 47, 48, 49, 50, 51, 52, 53, 54, 55, 56, 57, 58, 59, 60, 61, 62, 63, 64, 65, 66, 67, 68, 69, 70, 71, 72, 73, 74, 75, 76, 77, 78, 79, 80, 81, 82, 83, 84, 85, 86, 87, 88, 89, 90, 91, 92, 93, 94, 95, 96, 97, 98, 99, 100, 101, 102, 103, 104, 105, 106, 107, 108, 109, 110, 111, 112, 113, 114, 115, 116, 117, 118, 119] (by decide +kernel) (by decide +kernel)) (goodIn_sub (fun _ h => List.mem_cons_of_mem _ (List.mem_append_right _ h)) (by decide +kernel))
set_option maxRecDepth 20000 in
theorem gL_share_X1_share : GoodIn wsL_share (wsV RL 64 RX1 yX1_share wsX1_share) := goodIn_app (goodIn_of _ (by decide +kernel)) ggL_share_X1_share
theorem dL_share_0 : decode cL_share 0 = .ok (.aload_n 2, 1) := by decide +kernel
theorem dL_share_1 : decode cL_share 1 = .ok (.iconst 0, 1) := by decide +kernel
theorem dL_share_2 : decode cL_share 2 = .ok (.aload_n 0, 1) := by decide +kernel
theorem dL_share_3 : decode cL_share 3 = .ok (.iload_n 1, 1) := by decide +kernel
theorem dL_share_4 : decode cL_share 4 = .ok (.invokevirtual 64, 3) := by decide +kernel
theorem dL_share_7 : decode cL_share 7 = .ok (.dastore, 1) := by decide +kernel
theorem dL_share_8 : decode cL_share 8 = .ok (.goto 6, 3) := by decide +kernel
theorem dL_share_11 : decode cL_share 11 = .ok (.astore_n 3, 1) := by decide +kernel
theorem dL_share_12 : decode cL_share 12 = .ok (.iconst 1, 1) := by decide +kernel
theorem dL_share_13 : decode cL_share 13 = .ok (.ireturn, 1) := by decide +kernel
theorem dL_share_14 : decode cL_share 14 = .ok (.iconst 0, 1) := by decide +kernel
theorem dL_share_15 : decode cL_share 15 = .ok (.ireturn, 1) := by decide +kernel
set_option maxRecDepth 20000 in
theorem ggL_walk_X1_walk : GoodIn wsL_walk wsX1_walk := goodIn_ca (goodIn_r _ [6, 7, 8, 9, 10, 11, 12, 13, 5, 14, 15, 16, 17, 18, 19, 20, 21, 22, 23, 24, 25, 26, 27, 28, 29, 30, 31, 32, 33, 34, 35, 36, 37, 38, 39, 40, 41, 42, 43, 44, 45, 46, 47, 48, 49, 50, 51, 52, 53, 54, 55, 56, 57, 58, 59, 60, 61, 62, 63, 64, 65, 66, 67, 68, 69, 70, 71, 72, 73, 74, 75, 76, 77, 78, 79, 80, 81, 82, 83, 84, 85, 86, 87, 88, 89, 90, 91, 92, 93, 94, 95] (by decide +kernel) (by decide +kernel)) (goodIn_sub (fun _ h => List.mem_cons_of_mem _ (List.mem_append_right _ h)) (by decide +kernel))
set_option maxRecDepth 20000 in
theorem gL_walk_X1_walk : GoodIn wsL_walk (wsV RL 68 RX1 yX1_walk wsX1_walk) := goodIn_app (goodIn_of _ (by decide +kernel)) ggL_walk_X1_walk
theorem dL_walk_0 : decode cL_walk 0 = .ok (.aload_n 2, 1) := by decide +kernel
theorem dL_walk_1 : decode cL_walk 1 = .ok (.iconst 0, 1) := by decide +kernel
theorem dL_walk_2 : decode cL_walk 2 = .ok (.aload_n 0, 1) := by decide +kernel
theorem dL_walk_3 : decode cL_walk 3 = .ok (.iload_n 1, 1) := by decide +kernel
theorem dL_walk_4 : decode cL_walk 4 = .ok (.invokevirtual 68, 3) := by decide +kernel
theorem dL_walk_7 : decode cL_walk 7 = .ok (.i2l, 1) := by decide +kernel
theorem dL_walk_8 : decode cL_walk 8 = .ok (.lastore, 1) := by decide +kernel
theorem dL_walk_9 : decode cL_walk 9 = .ok (.goto 6, 3) := by decide +kernel
theorem dL_walk_12 : decode cL_walk 12 = .ok (.astore_n 3, 1) := by decide +kernel
theorem dL_walk_13 : decode cL_walk 13 = .ok (.iconst 1, 1) := by decide +kernel
theorem dL_walk_14 : decode cL_walk 14 = .ok (.ireturn, 1) := by decide +kernel
theorem dL_walk_15 : decode cL_walk 15 = .ok (.iconst 0, 1) := by decide +kernel
theorem dL_walk_16 : decode cL_walk 16 = .ok (.ireturn, 1) := by decide +kernel
set_option maxRecDepth 20000 in
theorem ggL_applied_X1_applied : GoodIn wsL_applied wsX1_applied := goodIn_ca (goodIn_r _ [6, 7, 8, 9, 10, 11, 12, 13, 14, 15, 16, 17, 18, 19, 20, 21, 22, 23, 24, 25, 26, 27, 28, 29, 30] (by decide +kernel) (by decide +kernel)) (goodIn_sub (fun _ h => List.mem_cons_of_mem _ (List.mem_append_right _ h)) (by decide +kernel))
set_option maxRecDepth 20000 in
theorem gL_applied_X1_applied : GoodIn wsL_applied (wsV RL 71 RX1 yX1_applied wsX1_applied) := goodIn_app (goodIn_of _ (by decide +kernel)) ggL_applied_X1_applied
theorem dL_applied_0 : decode cL_applied 0 = .ok (.aload_n 2, 1) := by decide +kernel
theorem dL_applied_1 : decode cL_applied 1 = .ok (.iconst 0, 1) := by decide +kernel
theorem dL_applied_2 : decode cL_applied 2 = .ok (.aload_n 0, 1) := by decide +kernel
theorem dL_applied_3 : decode cL_applied 3 = .ok (.iload_n 1, 1) := by decide +kernel
theorem dL_applied_4 : decode cL_applied 4 = .ok (.invokevirtual 71, 3) := by decide +kernel
theorem dL_applied_7 : decode cL_applied 7 = .ok (.i2l, 1) := by decide +kernel
theorem dL_applied_8 : decode cL_applied 8 = .ok (.lastore, 1) := by decide +kernel
theorem dL_applied_9 : decode cL_applied 9 = .ok (.goto 6, 3) := by decide +kernel
theorem dL_applied_12 : decode cL_applied 12 = .ok (.astore_n 3, 1) := by decide +kernel
theorem dL_applied_13 : decode cL_applied 13 = .ok (.iconst 1, 1) := by decide +kernel
theorem dL_applied_14 : decode cL_applied 14 = .ok (.ireturn, 1) := by decide +kernel
theorem dL_applied_15 : decode cL_applied 15 = .ok (.iconst 0, 1) := by decide +kernel
theorem dL_applied_16 : decode cL_applied 16 = .ok (.ireturn, 1) := by decide +kernel
set_option maxRecDepth 20000 in
theorem ggL_respects_X1_respects : GoodIn wsL_respects wsX1_respects := goodIn_ca (goodIn_r _ [6, 7, 8, 9, 5, 10, 11, 12, 13, 14, 15, 16, 17, 18, 19, 20, 21, 22, 23, 24, 25, 26, 27, 28, 29, 30, 31, 32, 33, 34, 35, 36, 37, 38, 39, 40, 41, 42, 43, 44, 45, 46, 47, 48, 49, 50, 51, 52, 53, 54] (by decide +kernel) (by decide +kernel)) (goodIn_sub (fun _ h => List.mem_cons_of_mem _ (List.mem_append_right _ h)) (by decide +kernel))
set_option maxRecDepth 20000 in
theorem gL_respects_X1_respects : GoodIn wsL_respects (wsV RL 74 RX1 yX1_respects wsX1_respects) := goodIn_app (goodIn_of _ (by decide +kernel)) ggL_respects_X1_respects
theorem dL_respects_0 : decode cL_respects 0 = .ok (.aload_n 2, 1) := by decide +kernel
theorem dL_respects_1 : decode cL_respects 1 = .ok (.iconst 0, 1) := by decide +kernel
theorem dL_respects_2 : decode cL_respects 2 = .ok (.aload_n 0, 1) := by decide +kernel
theorem dL_respects_3 : decode cL_respects 3 = .ok (.iload_n 1, 1) := by decide +kernel
theorem dL_respects_4 : decode cL_respects 4 = .ok (.invokevirtual 74, 3) := by decide +kernel
theorem dL_respects_7 : decode cL_respects 7 = .ok (.ifCond .eq 7, 3) := by decide +kernel
theorem dL_respects_10 : decode cL_respects 10 = .ok (.lconst 1, 1) := by decide +kernel
theorem dL_respects_11 : decode cL_respects 11 = .ok (.goto 4, 3) := by decide +kernel
theorem dL_respects_14 : decode cL_respects 14 = .ok (.lconst 0, 1) := by decide +kernel
theorem dL_respects_15 : decode cL_respects 15 = .ok (.lastore, 1) := by decide +kernel
theorem dL_respects_16 : decode cL_respects 16 = .ok (.goto 6, 3) := by decide +kernel
theorem dL_respects_19 : decode cL_respects 19 = .ok (.astore_n 3, 1) := by decide +kernel
theorem dL_respects_20 : decode cL_respects 20 = .ok (.iconst 1, 1) := by decide +kernel
theorem dL_respects_21 : decode cL_respects 21 = .ok (.ireturn, 1) := by decide +kernel
theorem dL_respects_22 : decode cL_respects 22 = .ok (.iconst 0, 1) := by decide +kernel
theorem dL_respects_23 : decode cL_respects 23 = .ok (.ireturn, 1) := by decide +kernel
set_option maxRecDepth 20000 in
theorem ggL_law_X1_init : GoodIn wsL_law wsX1_init := goodIn_r _ [10, 11, 12, 13, 14, 15, 16, 17, 18, 19, 20, 21, 22, 23, 24, 25, 26, 27, 28, 29, 30, 31, 32, 33, 34, 35, 546, 547, 548, 549, 550, 551, 552, 553, 554, 555, 556, 557, 558, 559, 560, 561, 562, 563, 564, 565, 581, 582] (by decide +kernel) (by decide +kernel)
set_option maxRecDepth 20000 in
theorem gL_law_X1_init : GoodIn wsL_law (wsX1_init) := ggL_law_X1_init
set_option maxRecDepth 20000 in
theorem ggL_law_X2_init : GoodIn wsL_law wsX2_init := goodIn_r _ [38, 39, 12, 13, 14, 40, 41, 42, 43, 44, 29, 45, 46, 47, 48, 566, 567, 568, 569, 570, 571, 572, 573, 574, 575, 576, 577, 578, 579, 580] (by decide +kernel) (by decide +kernel)
set_option maxRecDepth 20000 in
theorem gL_law_X2_init : GoodIn wsL_law (wsX2_init) := ggL_law_X2_init
set_option maxRecDepth 20000 in
theorem ggL_law_L_setFact : GoodIn wsL_law wsL_setFact := goodIn_ca (goodIn_r _ [52, 53, 54, 55, 56, 2, 57, 58, 59, 60, 61, 62, 63, 64, 65, 66, 67, 68, 69, 70, 71, 72, 546, 547, 548, 549, 550, 551, 552, 553, 554, 555, 556, 557, 558, 559, 560, 561, 562, 563, 564, 565] (by decide +kernel) (by decide +kernel)) (goodIn_sub (fun _ h => List.mem_append_left _ (List.mem_append_left _ (List.mem_append_right _ h))) (by decide +kernel))
set_option maxRecDepth 20000 in
theorem gL_law_L_setFact : GoodIn wsL_law (va_wsS RL 81 yL_setFact wsL_setFact) := goodIn_app (goodIn_of _ (by decide +kernel)) ggL_law_L_setFact
set_option maxRecDepth 20000 in
theorem ggL_law_X2_setFact : GoodIn wsL_law wsX2_setFact := goodIn_r _ [76, 77, 78, 79, 80, 5, 81, 566, 567, 568, 569, 570, 571, 572, 573, 574, 575, 576, 577, 578, 579, 580] (by decide +kernel) (by decide +kernel)
set_option maxRecDepth 20000 in
theorem gL_law_X2_setFact : GoodIn wsL_law (wsV RL 86 RX2 yX2_setFact wsX2_setFact) := goodIn_app (goodIn_of _ (by decide +kernel)) ggL_law_X2_setFact
set_option maxRecDepth 20000 in
theorem ggL_law_X2_thrown : GoodIn wsL_law wsX2_thrown := goodIn_r _ [85, 77, 566, 567, 568, 569, 570, 571, 572, 573, 574, 575, 576, 577, 578, 579, 580] (by decide +kernel) (by decide +kernel)
set_option maxRecDepth 20000 in
theorem gL_law_X2_thrown : GoodIn wsL_law (wsV RL 87 RX2 yX2_thrown wsX2_thrown) := goodIn_app (goodIn_of _ (by decide +kernel)) ggL_law_X2_thrown
set_option maxRecDepth 20000 in
theorem ggL_law_L_addRule : GoodIn wsL_law wsL_addRule := goodIn_ca (goodIn_ca (goodIn_ca (goodIn_r _ [88, 53, 89, 90, 91, 92, 93, 2, 94, 95, 96, 97, 15, 16, 59, 60, 61, 62, 63, 98, 99, 100, 101, 102, 103, 67, 68, 69, 70, 71, 72, 546, 547, 548, 549, 550, 551, 552, 553, 554, 555, 556, 557, 558, 559, 560, 561, 562, 563, 564, 565] (by decide +kernel) (by decide +kernel)) (goodIn_sub (fun _ h => List.mem_append_left _ (List.mem_append_right _ h)) (by decide +kernel))) (goodIn_sub (fun _ h => List.mem_append_left _ (List.mem_append_left _ (List.mem_append_right _ h))) (by decide +kernel))) (goodIn_sub (fun _ h => List.mem_append_right _ h) (by decide +kernel))
set_option maxRecDepth 20000 in
theorem gL_law_L_addRule : GoodIn wsL_law (va_wsS RL 90 yL_addRule wsL_addRule) := goodIn_app (goodIn_of _ (by decide +kernel)) ggL_law_L_addRule
set_option maxRecDepth 20000 in
theorem ggL_law_X2_addRule : GoodIn wsL_law wsX2_addRule := goodIn_r _ [107, 77, 108, 40, 41, 79, 80, 5, 81, 109, 110, 111, 112, 113, 114, 115, 116, 566, 567, 568, 569, 570, 571, 572, 573, 574, 575, 576, 577, 578, 579, 580] (by decide +kernel) (by decide +kernel)
set_option maxRecDepth 20000 in
theorem gL_law_X2_addRule : GoodIn wsL_law (wsV RL 93 RX2 yX2_addRule wsX2_addRule) := goodIn_app (goodIn_of _ (by decide +kernel)) ggL_law_X2_addRule
set_option maxRecDepth 20000 in
theorem ggL_law_L_addDefault : GoodIn wsL_law wsL_addDefault := goodIn_ca (goodIn_ca (goodIn_ca (goodIn_r _ [119, 53, 89, 90, 120, 121, 122, 2, 123, 95, 96, 124, 17, 18, 19, 59, 60, 61, 62, 63, 98, 99, 100, 101, 102, 103, 67, 68, 69, 70, 71, 72, 546, 547, 548, 549, 550, 551, 552, 553, 554, 555, 556, 557, 558, 559, 560, 561, 562, 563, 564, 565] (by decide +kernel) (by decide +kernel)) (goodIn_sub (fun _ h => List.mem_append_left _ (List.mem_append_right _ h)) (by decide +kernel))) (goodIn_sub (fun _ h => List.mem_append_left _ (List.mem_append_left _ (List.mem_append_right _ h))) (by decide +kernel))) (goodIn_sub (fun _ h => List.mem_append_right _ h) (by decide +kernel))
set_option maxRecDepth 20000 in
theorem gL_law_L_addDefault : GoodIn wsL_law (va_wsS RL 94 yL_addDefault wsL_addDefault) := goodIn_app (goodIn_of _ (by decide +kernel)) ggL_law_L_addDefault
set_option maxRecDepth 20000 in
theorem ggL_law_X2_addDefault : GoodIn wsL_law wsX2_addDefault := goodIn_r _ [128, 77, 129, 42, 43, 44, 79, 80, 5, 81, 109, 110, 111, 112, 113, 114, 115, 116, 566, 567, 568, 569, 570, 571, 572, 573, 574, 575, 576, 577, 578, 579, 580] (by decide +kernel) (by decide +kernel)
set_option maxRecDepth 20000 in
theorem gL_law_X2_addDefault : GoodIn wsL_law (wsV RL 97 RX2 yX2_addDefault wsX2_addDefault) := goodIn_app (goodIn_of _ (by decide +kernel)) ggL_law_X2_addDefault
set_option maxRecDepth 20000 in
theorem ggL_law_L_dropRule : GoodIn wsL_law wsL_dropRule := goodIn_ca (goodIn_r _ [132, 90, 133, 134, 135, 2, 136, 95, 96, 97, 67, 68, 69, 70, 71, 72, 546, 547, 548, 549, 550, 551, 552, 553, 554, 555, 556, 557, 558, 559, 560, 561, 562, 563, 564, 565] (by decide +kernel) (by decide +kernel)) (goodIn_sub (fun _ h => List.mem_append_left _ (List.mem_append_right _ h)) (by decide +kernel))
set_option maxRecDepth 20000 in
theorem gL_law_L_dropRule : GoodIn wsL_law (va_wsS RL 98 yL_dropRule wsL_dropRule) := goodIn_app (goodIn_of _ (by decide +kernel)) ggL_law_L_dropRule
set_option maxRecDepth 20000 in
theorem ggL_law_X2_dropRule : GoodIn wsL_law wsX2_dropRule := goodIn_r _ [140, 77, 108, 109, 110, 111, 5, 112, 566, 567, 568, 569, 570, 571, 572, 573, 574, 575, 576, 577, 578, 579, 580] (by decide +kernel) (by decide +kernel)
set_option maxRecDepth 20000 in
theorem gL_law_X2_dropRule : GoodIn wsL_law (wsV RL 101 RX2 yX2_dropRule wsX2_dropRule) := goodIn_app (goodIn_of _ (by decide +kernel)) ggL_law_X2_dropRule
set_option maxRecDepth 20000 in
theorem ggL_law_L_dropDefault : GoodIn wsL_law wsL_dropDefault := goodIn_ca (goodIn_r _ [143, 90, 144, 145, 146, 2, 147, 95, 96, 124, 23, 148, 22, 149, 150, 34, 151, 152, 153, 154, 35, 65, 66, 67, 68, 69, 70, 71, 72, 546, 547, 548, 549, 550, 551, 552, 553, 554, 555, 556, 557, 558, 559, 560, 561, 562, 563, 564, 565, 581, 582] (by decide +kernel) (by decide +kernel)) (goodIn_sub (fun _ h => List.mem_append_left _ (List.mem_append_right _ h)) (by decide +kernel))
set_option maxRecDepth 20000 in
theorem gL_law_L_dropDefault : GoodIn wsL_law (va_wsS RL 102 yL_dropDefault wsL_dropDefault) := goodIn_app (goodIn_of _ (by decide +kernel)) ggL_law_L_dropDefault
set_option maxRecDepth 20000 in
theorem ggL_law_X2_dropDefault : GoodIn wsL_law wsX2_dropDefault := goodIn_r _ [158, 77, 129, 45, 109, 110, 111, 5, 112, 566, 567, 568, 569, 570, 571, 572, 573, 574, 575, 576, 577, 578, 579, 580] (by decide +kernel) (by decide +kernel)
set_option maxRecDepth 20000 in
theorem gL_law_X2_dropDefault : GoodIn wsL_law (wsV RL 104 RX2 yX2_dropDefault wsX2_dropDefault) := goodIn_app (goodIn_of _ (by decide +kernel)) ggL_law_X2_dropDefault
set_option maxRecDepth 20000 in
theorem ggL_law_L_prefer : GoodIn wsL_law wsL_prefer := goodIn_ca (goodIn_ca (goodIn_r _ [161, 53, 89, 162, 163, 164, 2, 165, 101, 102, 23, 72, 166, 167, 168, 169, 62, 63, 124, 170, 22, 171, 172, 35, 65, 66, 173, 174, 175, 34, 151, 152, 153, 154, 546, 547, 548, 549, 550, 551, 552, 553, 554, 555, 556, 557, 558, 559, 560, 561, 562, 563, 564, 565, 581, 582] (by decide +kernel) (by decide +kernel)) (goodIn_sub (fun _ h => List.mem_append_right _ h) (by decide +kernel))) (goodIn_sub (fun _ h => List.mem_append_left _ (List.mem_append_left _ (List.mem_append_right _ h))) (by decide +kernel))
set_option maxRecDepth 20000 in
theorem gL_law_L_prefer : GoodIn wsL_law (va_wsS RL 105 yL_prefer wsL_prefer) := goodIn_app (goodIn_of _ (by decide +kernel)) ggL_law_L_prefer
set_option maxRecDepth 20000 in
theorem ggL_law_X2_prefer : GoodIn wsL_law wsX2_prefer := goodIn_r _ [179, 77, 45, 180, 181, 182, 5, 183, 129, 184, 185, 186, 187, 188, 189, 190, 191, 566, 567, 568, 569, 570, 571, 572, 573, 574, 575, 576, 577, 578, 579, 580] (by decide +kernel) (by decide +kernel)
set_option maxRecDepth 20000 in
theorem gL_law_X2_prefer : GoodIn wsL_law (wsV RL 107 RX2 yX2_prefer wsX2_prefer) := goodIn_app (goodIn_of _ (by decide +kernel)) ggL_law_X2_prefer
set_option maxRecDepth 20000 in
theorem ggL_law_X1_forgetPriorities : GoodIn wsL_law wsX1_forgetPriorities := goodIn_r _ [195, 23, 72, 196, 22, 197, 198, 35, 199, 200, 201, 202, 203, 204, 205, 206, 207, 208, 34, 546, 547, 548, 549, 550, 551, 552, 553, 554, 555, 556, 557, 558, 559, 560, 561, 562, 563, 564, 565, 581, 582] (by decide +kernel) (by decide +kernel)
set_option maxRecDepth 20000 in
theorem gL_law_X1_forgetPriorities : GoodIn wsL_law (wsV RL 108 RX1 yX1_forgetPriorities wsX1_forgetPriorities) := goodIn_app (goodIn_of _ (by decide +kernel)) ggL_law_X1_forgetPriorities
set_option maxRecDepth 20000 in
theorem ggL_law_X2_forgetPriorities : GoodIn wsL_law wsX2_forgetPriorities := goodIn_r _ [212, 77, 129, 45, 184, 185, 186, 5, 187, 188, 189, 190, 191, 566, 567, 568, 569, 570, 571, 572, 573, 574, 575, 576, 577, 578, 579, 580] (by decide +kernel) (by decide +kernel)
set_option maxRecDepth 20000 in
theorem gL_law_X2_forgetPriorities : GoodIn wsL_law (wsV RL 111 RX2 yX2_forgetPriorities wsX2_forgetPriorities) := goodIn_app (goodIn_of _ (by decide +kernel)) ggL_law_X2_forgetPriorities
set_option maxRecDepth 20000 in
theorem ggL_law_L_isBefore : GoodIn wsL_law wsL_isBefore := goodIn_ca (goodIn_r _ [215, 53, 216, 217, 218, 2, 219, 23, 166, 167, 168, 169, 62, 63, 124, 170, 22, 171, 172, 35, 65, 66, 546, 547, 548, 549, 550, 551, 552, 553, 554, 555, 556, 557, 558, 559, 560, 561, 562, 563, 564, 565, 581, 582] (by decide +kernel) (by decide +kernel)) (goodIn_sub (fun _ h => List.mem_append_left _ (List.mem_append_left _ (List.mem_append_right _ h))) (by decide +kernel))
set_option maxRecDepth 20000 in
theorem gL_law_L_isBefore : GoodIn wsL_law (va_wsS RL 112 yL_isBefore wsL_isBefore) := goodIn_app (goodIn_of _ (by decide +kernel)) ggL_law_L_isBefore
set_option maxRecDepth 20000 in
theorem ggL_law_X2_isBefore : GoodIn wsL_law wsX2_isBefore := goodIn_r _ [223, 77, 180, 181, 182, 5, 183, 129, 184, 185, 186, 187, 188, 189, 190, 191, 45, 566, 567, 568, 569, 570, 571, 572, 573, 574, 575, 576, 577, 578, 579, 580] (by decide +kernel) (by decide +kernel)
set_option maxRecDepth 20000 in
theorem gL_law_X2_isBefore : GoodIn wsL_law (wsV RL 114 RX2 yX2_isBefore wsX2_isBefore) := goodIn_app (goodIn_of _ (by decide +kernel)) ggL_law_X2_isBefore
set_option maxRecDepth 20000 in
theorem ggL_law_X1_facts : GoodIn wsL_law wsX1_facts := goodIn_r _ [227, 58, 546, 547, 548, 549, 550, 551, 552, 553, 554, 555, 556, 557, 558, 559, 560, 561, 562, 563, 564, 565] (by decide +kernel) (by decide +kernel)
set_option maxRecDepth 20000 in
theorem gL_law_X1_facts : GoodIn wsL_law (wsV RL 115 RX1 yX1_facts wsX1_facts) := goodIn_app (goodIn_of _ (by decide +kernel)) ggL_law_X1_facts
set_option maxRecDepth 20000 in
theorem ggL_law_X2_facts : GoodIn wsL_law wsX2_facts := goodIn_r _ [231, 77, 78, 566, 567, 568, 569, 570, 571, 572, 573, 574, 575, 576, 577, 578, 579, 580] (by decide +kernel) (by decide +kernel)
set_option maxRecDepth 20000 in
theorem gL_law_X2_facts : GoodIn wsL_law (wsV RL 118 RX2 yX2_facts wsX2_facts) := goodIn_app (goodIn_of _ (by decide +kernel)) ggL_law_X2_facts
set_option maxRecDepth 20000 in
theorem ggL_law_X1_defaultCount : GoodIn wsL_law wsX1_defaultCount := goodIn_r _ [235, 124, 546, 547, 548, 549, 550, 551, 552, 553, 554, 555, 556, 557, 558, 559, 560, 561, 562, 563, 564, 565] (by decide +kernel) (by decide +kernel)
set_option maxRecDepth 20000 in
theorem gL_law_X1_defaultCount : GoodIn wsL_law (wsV RL 119 RX1 yX1_defaultCount wsX1_defaultCount) := goodIn_app (goodIn_of _ (by decide +kernel)) ggL_law_X1_defaultCount
set_option maxRecDepth 20000 in
theorem ggL_law_X2_defaultCount : GoodIn wsL_law wsX2_defaultCount := goodIn_r _ [239, 77, 129, 566, 567, 568, 569, 570, 571, 572, 573, 574, 575, 576, 577, 578, 579, 580] (by decide +kernel) (by decide +kernel)
set_option maxRecDepth 20000 in
theorem gL_law_X2_defaultCount : GoodIn wsL_law (wsV RL 122 RX2 yX2_defaultCount wsX2_defaultCount) := goodIn_app (goodIn_of _ (by decide +kernel)) ggL_law_X2_defaultCount
set_option maxRecDepth 20000 in
theorem ggL_law_L_closure : GoodIn wsL_law wsL_closure := goodIn_ca (goodIn_r _ [242, 89, 243, 244, 245, 2, 246, 98, 99, 100, 101, 102, 103, 247, 248, 249, 250, 97, 15, 16, 251, 252, 253, 254, 255, 256, 546, 547, 548, 549, 550, 551, 552, 553, 554, 555, 556, 557, 558, 559, 560, 561, 562, 563, 564, 565] (by decide +kernel) (by decide +kernel)) (goodIn_sub (fun _ h => List.mem_append_right _ h) (by decide +kernel))
set_option maxRecDepth 20000 in
theorem gL_law_L_closure : GoodIn wsL_law (va_wsS RL 123 yL_closure wsL_closure) := goodIn_app (goodIn_of _ (by decide +kernel)) ggL_law_L_closure
set_option maxRecDepth 20000 in
theorem ggL_law_X2_closure : GoodIn wsL_law wsX2_closure := goodIn_r _ [260, 77, 113, 114, 5, 115, 116, 261, 262, 263, 264, 108, 40, 41, 265, 266, 267, 109, 110, 111, 112, 566, 567, 568, 569, 570, 571, 572, 573, 574, 575, 576, 577, 578, 579, 580] (by decide +kernel) (by decide +kernel)
set_option maxRecDepth 20000 in
theorem gL_law_X2_closure : GoodIn wsL_law (wsV RL 126 RX2 yX2_closure wsX2_closure) := goodIn_app (goodIn_of _ (by decide +kernel)) ggL_law_X2_closure
set_option maxRecDepth 20000 in
theorem ggL_law_L_isOpen : GoodIn wsL_law wsL_isOpen := goodIn_ca (goodIn_ca (goodIn_r _ [270, 53, 89, 271, 272, 273, 2, 274, 166, 167, 168, 169, 62, 63, 124, 98, 99, 100, 101, 102, 103, 275, 276, 277, 278, 18, 254, 255, 256, 546, 547, 548, 549, 550, 551, 552, 553, 554, 555, 556, 557, 558, 559, 560, 561, 562, 563, 564, 565] (by decide +kernel) (by decide +kernel)) (goodIn_sub (fun _ h => List.mem_append_left _ (List.mem_append_left _ (List.mem_append_right _ h))) (by decide +kernel))) (goodIn_sub (fun _ h => List.mem_append_right _ h) (by decide +kernel))
set_option maxRecDepth 20000 in
theorem gL_law_L_isOpen : GoodIn wsL_law (va_wsS RL 127 yL_isOpen wsL_isOpen) := goodIn_app (goodIn_of _ (by decide +kernel)) ggL_law_L_isOpen
set_option maxRecDepth 20000 in
theorem ggL_law_X2_isOpen : GoodIn wsL_law wsX2_isOpen := goodIn_r _ [282, 77, 180, 181, 182, 5, 183, 129, 113, 114, 115, 116, 283, 284, 285, 286, 43, 265, 266, 267, 566, 567, 568, 569, 570, 571, 572, 573, 574, 575, 576, 577, 578, 579, 580] (by decide +kernel) (by decide +kernel)
set_option maxRecDepth 20000 in
theorem gL_law_X2_isOpen : GoodIn wsL_law (wsV RL 129 RX2 yX2_isOpen wsX2_isOpen) := goodIn_app (goodIn_of _ (by decide +kernel)) ggL_law_X2_isOpen
set_option maxRecDepth 20000 in
theorem ggL_law_L_generatorsOf : GoodIn wsL_law wsL_generatorsOf := goodIn_ca (goodIn_r _ [289, 89, 290, 291, 292, 2, 293, 98, 99, 100, 101, 102, 103, 294, 295, 296, 297, 71, 124, 26, 58, 27, 298, 299, 300, 301, 302, 19, 64, 65, 66, 247, 248, 249, 250, 97, 15, 16, 251, 252, 253, 254, 255, 256, 303, 304, 305, 306, 17, 275, 276, 277, 278, 18, 307, 308, 309, 310, 311, 312, 313, 314, 28, 546, 547, 548, 549, 550, 551, 552, 553, 554, 555, 556, 557, 558, 559, 560, 561, 562, 563, 564, 565] (by decide +kernel) (by decide +kernel)) (goodIn_sub (fun _ h => List.mem_append_right _ h) (by decide +kernel))
set_option maxRecDepth 20000 in
theorem gL_law_L_generatorsOf : GoodIn wsL_law (va_wsS RL 130 yL_generatorsOf wsL_generatorsOf) := goodIn_app (goodIn_of _ (by decide +kernel)) ggL_law_L_generatorsOf
set_option maxRecDepth 20000 in
theorem ggL_law_X2_generatorsOf : GoodIn wsL_law wsX2_generatorsOf := goodIn_r _ [318, 77, 113, 114, 5, 115, 116, 319, 320, 321, 322, 129, 42, 323, 324, 325, 326, 78, 44, 261, 262, 263, 264, 108, 40, 41, 265, 266, 267, 283, 284, 285, 286, 43, 109, 110, 111, 112, 566, 567, 568, 569, 570, 571, 572, 573, 574, 575, 576, 577, 578, 579, 580] (by decide +kernel) (by decide +kernel)
set_option maxRecDepth 20000 in
theorem gL_law_X2_generatorsOf : GoodIn wsL_law (wsV RL 132 RX2 yX2_generatorsOf wsX2_generatorsOf) := goodIn_app (goodIn_of _ (by decide +kernel)) ggL_law_X2_generatorsOf
set_option maxRecDepth 20000 in
theorem ggL_law_L_isExtension : GoodIn wsL_law wsL_isExtension := goodIn_ca (goodIn_r _ [329, 89, 330, 331, 332, 2, 333, 26, 98, 99, 100, 101, 102, 103, 294, 295, 296, 297, 71, 124, 58, 27, 298, 299, 300, 301, 302, 19, 64, 65, 66, 247, 248, 249, 250, 97, 15, 16, 251, 252, 253, 254, 255, 256, 303, 304, 305, 306, 17, 275, 276, 277, 278, 18, 307, 308, 309, 310, 311, 312, 313, 314, 28, 546, 547, 548, 549, 550, 551, 552, 553, 554, 555, 556, 557, 558, 559, 560, 561, 562, 563, 564, 565] (by decide +kernel) (by decide +kernel)) (goodIn_sub (fun _ h => List.mem_append_right _ h) (by decide +kernel))
set_option maxRecDepth 20000 in
theorem gL_law_L_isExtension : GoodIn wsL_law (va_wsS RL 133 yL_isExtension wsL_isExtension) := goodIn_app (goodIn_of _ (by decide +kernel)) ggL_law_L_isExtension
set_option maxRecDepth 20000 in
theorem ggL_law_X2_isExtension : GoodIn wsL_law wsX2_isExtension := goodIn_r _ [337, 77, 113, 114, 5, 115, 116, 338, 339, 340, 341, 319, 320, 321, 322, 129, 42, 323, 324, 325, 326, 78, 44, 261, 262, 263, 264, 108, 40, 41, 265, 266, 267, 283, 284, 285, 286, 43, 566, 567, 568, 569, 570, 571, 572, 573, 574, 575, 576, 577, 578, 579, 580] (by decide +kernel) (by decide +kernel)
set_option maxRecDepth 20000 in
theorem gL_law_X2_isExtension : GoodIn wsL_law (wsV RL 135 RX2 yX2_isExtension wsX2_isExtension) := goodIn_app (goodIn_of _ (by decide +kernel)) ggL_law_X2_isExtension
set_option maxRecDepth 20000 in
theorem ggL_law_X1_extensionCount : GoodIn wsL_law wsX1_extensionCount := goodIn_r _ [345, 298, 294, 295, 296, 2, 297, 71, 124, 26, 58, 27, 299, 300, 301, 302, 19, 64, 65, 66, 247, 248, 249, 250, 97, 15, 16, 103, 251, 252, 253, 254, 255, 256, 303, 304, 305, 306, 17, 275, 276, 277, 278, 18, 307, 308, 309, 310, 311, 312, 313, 314, 28, 546, 547, 548, 549, 550, 551, 552, 553, 554, 555, 556, 557, 558, 559, 560, 561, 562, 563, 564, 565] (by decide +kernel) (by decide +kernel)
set_option maxRecDepth 20000 in
theorem gL_law_X1_extensionCount : GoodIn wsL_law (wsV RL 136 RX1 yX1_extensionCount wsX1_extensionCount) := goodIn_app (goodIn_of _ (by decide +kernel)) ggL_law_X1_extensionCount
set_option maxRecDepth 20000 in
theorem ggL_law_X2_extensionCount : GoodIn wsL_law wsX2_extensionCount := goodIn_r _ [349, 77, 350, 351, 352, 353, 5, 354, 129, 47, 323, 324, 325, 326, 78, 44, 261, 262, 263, 264, 108, 40, 41, 116, 265, 266, 267, 319, 320, 321, 322, 42, 283, 284, 285, 286, 43, 566, 567, 568, 569, 570, 571, 572, 573, 574, 575, 576, 577, 578, 579, 580] (by decide +kernel) (by decide +kernel)
set_option maxRecDepth 20000 in
theorem gL_law_X2_extensionCount : GoodIn wsL_law (wsV RL 139 RX2 yX2_extensionCount wsX2_extensionCount) := goodIn_app (goodIn_of _ (by decide +kernel)) ggL_law_X2_extensionCount
set_option maxRecDepth 20000 in
theorem ggL_law_L_extension : GoodIn wsL_law wsL_extension := goodIn_ca (goodIn_r _ [357, 53, 358, 359, 360, 2, 361, 28, 294, 295, 296, 297, 71, 124, 26, 58, 27, 298, 299, 300, 301, 302, 19, 64, 65, 66, 247, 248, 249, 250, 97, 15, 16, 103, 251, 252, 253, 254, 255, 256, 303, 304, 305, 306, 17, 275, 276, 277, 278, 18, 307, 308, 309, 310, 311, 312, 313, 314, 362, 363, 364, 365, 62, 63, 546, 547, 548, 549, 550, 551, 552, 553, 554, 555, 556, 557, 558, 559, 560, 561, 562, 563, 564, 565] (by decide +kernel) (by decide +kernel)) (goodIn_sub (fun _ h => List.mem_append_left _ (List.mem_append_left _ (List.mem_append_right _ h))) (by decide +kernel))
set_option maxRecDepth 20000 in
theorem gL_law_L_extension : GoodIn wsL_law (va_wsS RL 140 yL_extension wsL_extension) := goodIn_app (goodIn_of _ (by decide +kernel)) ggL_law_L_extension
set_option maxRecDepth 20000 in
theorem ggL_law_X2_extension : GoodIn wsL_law wsX2_extension := goodIn_r _ [369, 47, 370, 371, 372, 5, 373, 350, 77, 351, 352, 353, 354, 129, 323, 324, 325, 326, 78, 44, 261, 262, 263, 264, 108, 40, 41, 116, 265, 266, 267, 319, 320, 321, 322, 42, 283, 284, 285, 286, 43, 566, 567, 568, 569, 570, 571, 572, 573, 574, 575, 576, 577, 578, 579, 580] (by decide +kernel) (by decide +kernel)
set_option maxRecDepth 20000 in
theorem gL_law_X2_extension : GoodIn wsL_law (wsV RL 142 RX2 yX2_extension wsX2_extension) := goodIn_app (goodIn_of _ (by decide +kernel)) ggL_law_X2_extension
set_option maxRecDepth 20000 in
theorem ggL_law_L_isPreferred : GoodIn wsL_law wsL_isPreferred := goodIn_ca (goodIn_r _ [376, 53, 377, 378, 379, 2, 380, 30, 381, 382, 383, 384, 72, 298, 385, 386, 124, 294, 295, 296, 297, 71, 26, 58, 27, 299, 300, 301, 302, 19, 64, 65, 66, 247, 248, 249, 250, 97, 15, 16, 103, 251, 252, 253, 254, 255, 256, 303, 304, 305, 306, 17, 275, 276, 277, 278, 18, 307, 308, 309, 310, 311, 312, 313, 314, 28, 387, 388, 389, 390, 25, 391, 392, 393, 394, 23, 395, 22, 396, 397, 35, 398, 399, 400, 401, 402, 403, 404, 405, 406, 407, 408, 409, 362, 363, 364, 365, 62, 63, 546, 547, 548, 549, 550, 551, 552, 553, 554, 555, 556, 557, 558, 559, 560, 561, 562, 563, 564, 565, 581, 582] (by decide +kernel) (by decide +kernel)) (goodIn_sub (fun _ h => List.mem_append_left _ (List.mem_append_left _ (List.mem_append_right _ h))) (by decide +kernel))
set_option maxRecDepth 20000 in
theorem gL_law_L_isPreferred : GoodIn wsL_law (va_wsS RL 143 yL_isPreferred wsL_isPreferred) := goodIn_app (goodIn_of _ (by decide +kernel)) ggL_law_L_isPreferred
set_option maxRecDepth 20000 in
theorem ggL_law_X2_isPreferred : GoodIn wsL_law wsX2_isPreferred := goodIn_r _ [413, 48, 370, 371, 372, 5, 373, 350, 77, 351, 352, 353, 354, 129, 47, 323, 324, 325, 326, 78, 44, 261, 262, 263, 264, 108, 40, 41, 116, 265, 266, 267, 319, 320, 321, 322, 42, 283, 284, 285, 286, 43, 414, 415, 416, 417, 14, 418, 419, 420, 421, 422, 423, 424, 425, 29, 426, 427, 428, 429, 184, 185, 186, 187, 188, 189, 190, 191, 45, 430, 431, 432, 433, 434, 435, 436, 437, 566, 567, 568, 569, 570, 571, 572, 573, 574, 575, 576, 577, 578, 579, 580] (by decide +kernel) (by decide +kernel)
set_option maxRecDepth 20000 in
theorem gL_law_X2_isPreferred : GoodIn wsL_law (wsV RL 145 RX2 yX2_isPreferred wsX2_isPreferred) := goodIn_app (goodIn_of _ (by decide +kernel)) ggL_law_X2_isPreferred
set_option maxRecDepth 20000 in
theorem ggL_law_X1_preferredCount : GoodIn wsL_law wsX1_preferredCount := goodIn_r _ [441, 385, 381, 382, 383, 2, 384, 72, 298, 30, 386, 124, 294, 295, 296, 297, 71, 26, 58, 27, 299, 300, 301, 302, 19, 64, 65, 66, 247, 248, 249, 250, 97, 15, 16, 103, 251, 252, 253, 254, 255, 256, 303, 304, 305, 306, 17, 275, 276, 277, 278, 18, 307, 308, 309, 310, 311, 312, 313, 314, 28, 387, 388, 389, 390, 25, 391, 392, 393, 394, 23, 395, 22, 396, 397, 35, 398, 399, 400, 401, 402, 403, 404, 405, 406, 407, 408, 409, 546, 547, 548, 549, 550, 551, 552, 553, 554, 555, 556, 557, 558, 559, 560, 561, 562, 563, 564, 565, 581, 582] (by decide +kernel) (by decide +kernel)
set_option maxRecDepth 20000 in
theorem gL_law_X1_preferredCount : GoodIn wsL_law (wsV RL 146 RX1 yX1_preferredCount wsX1_preferredCount) := goodIn_app (goodIn_of _ (by decide +kernel)) ggL_law_X1_preferredCount
set_option maxRecDepth 20000 in
theorem ggL_law_X2_preferredCount : GoodIn wsL_law wsX2_preferredCount := goodIn_r _ [445, 77, 446, 447, 448, 5, 449, 350, 48, 414, 415, 416, 417, 14, 47, 351, 352, 353, 354, 129, 323, 324, 325, 326, 78, 44, 261, 262, 263, 264, 108, 40, 41, 116, 265, 266, 267, 319, 320, 321, 322, 42, 283, 284, 285, 286, 43, 418, 419, 420, 421, 422, 423, 424, 425, 29, 426, 427, 428, 429, 184, 185, 186, 187, 188, 189, 190, 191, 45, 430, 431, 432, 433, 434, 435, 436, 437, 566, 567, 568, 569, 570, 571, 572, 573, 574, 575, 576, 577, 578, 579, 580] (by decide +kernel) (by decide +kernel)
set_option maxRecDepth 20000 in
theorem gL_law_X2_preferredCount : GoodIn wsL_law (wsV RL 149 RX2 yX2_preferredCount wsX2_preferredCount) := goodIn_app (goodIn_of _ (by decide +kernel)) ggL_law_X2_preferredCount
set_option maxRecDepth 20000 in
theorem ggL_law_L_supports : GoodIn wsL_law wsL_supports := goodIn_ca (goodIn_r _ [452, 53, 453, 454, 455, 2, 456, 298, 28, 59, 60, 61, 62, 63, 294, 295, 296, 297, 71, 124, 26, 58, 27, 299, 300, 301, 302, 19, 64, 65, 66, 247, 248, 249, 250, 97, 15, 16, 103, 251, 252, 253, 254, 255, 256, 303, 304, 305, 306, 17, 275, 276, 277, 278, 18, 307, 308, 309, 310, 311, 312, 313, 314, 546, 547, 548, 549, 550, 551, 552, 553, 554, 555, 556, 557, 558, 559, 560, 561, 562, 563, 564, 565] (by decide +kernel) (by decide +kernel)) (goodIn_sub (fun _ h => List.mem_append_left _ (List.mem_append_left _ (List.mem_append_right _ h))) (by decide +kernel))
set_option maxRecDepth 20000 in
theorem gL_law_L_supports : GoodIn wsL_law (va_wsS RL 150 yL_supports wsL_supports) := goodIn_app (goodIn_of _ (by decide +kernel)) ggL_law_L_supports
set_option maxRecDepth 20000 in
theorem ggL_law_X2_supports : GoodIn wsL_law wsX2_supports := goodIn_r _ [460, 77, 350, 47, 79, 80, 5, 81, 109, 110, 111, 112, 351, 352, 353, 354, 129, 323, 324, 325, 326, 78, 44, 261, 262, 263, 264, 108, 40, 41, 116, 265, 266, 267, 319, 320, 321, 322, 42, 283, 284, 285, 286, 43, 566, 567, 568, 569, 570, 571, 572, 573, 574, 575, 576, 577, 578, 579, 580] (by decide +kernel) (by decide +kernel)
set_option maxRecDepth 20000 in
theorem gL_law_X2_supports : GoodIn wsL_law (wsV RL 152 RX2 yX2_supports wsX2_supports) := goodIn_app (goodIn_of _ (by decide +kernel)) ggL_law_X2_supports
set_option maxRecDepth 20000 in
theorem ggL_law_X1_common : GoodIn wsL_law wsX1_common := goodIn_r _ [464, 103, 298, 30, 28, 381, 382, 383, 2, 384, 72, 385, 386, 124, 294, 295, 296, 297, 71, 26, 58, 27, 299, 300, 301, 302, 19, 64, 65, 66, 247, 248, 249, 250, 97, 15, 16, 251, 252, 253, 254, 255, 256, 303, 304, 305, 306, 17, 275, 276, 277, 278, 18, 307, 308, 309, 310, 311, 312, 313, 314, 387, 388, 389, 390, 25, 391, 392, 393, 394, 23, 395, 22, 396, 397, 35, 398, 399, 400, 401, 402, 403, 404, 405, 406, 407, 408, 409, 546, 547, 548, 549, 550, 551, 552, 553, 554, 555, 556, 557, 558, 559, 560, 561, 562, 563, 564, 565, 581, 582] (by decide +kernel) (by decide +kernel)
set_option maxRecDepth 20000 in
theorem gL_law_X1_common : GoodIn wsL_law (wsV RL 153 RX1 yX1_common wsX1_common) := goodIn_app (goodIn_of _ (by decide +kernel)) ggL_law_X1_common
set_option maxRecDepth 20000 in
theorem ggL_law_X2_common : GoodIn wsL_law wsX2_common := goodIn_r _ [468, 77, 116, 350, 48, 47, 414, 415, 416, 5, 417, 14, 351, 352, 353, 354, 129, 323, 324, 325, 326, 78, 44, 261, 262, 263, 264, 108, 40, 41, 265, 266, 267, 319, 320, 321, 322, 42, 283, 284, 285, 286, 43, 418, 419, 420, 421, 422, 423, 424, 425, 29, 426, 427, 428, 429, 184, 185, 186, 187, 188, 189, 190, 191, 45, 430, 431, 432, 433, 434, 435, 436, 437, 566, 567, 568, 569, 570, 571, 572, 573, 574, 575, 576, 577, 578, 579, 580] (by decide +kernel) (by decide +kernel)
set_option maxRecDepth 20000 in
theorem gL_law_X2_common : GoodIn wsL_law (wsV RL 157 RX2 yX2_common wsX2_common) := goodIn_app (goodIn_of _ (by decide +kernel)) ggL_law_X2_common
set_option maxRecDepth 20000 in
theorem ggL_law_L_share : GoodIn wsL_law wsL_share := goodIn_ca (goodIn_r _ [471, 53, 472, 473, 474, 2, 475, 385, 298, 30, 28, 59, 60, 61, 62, 63, 381, 382, 383, 384, 72, 386, 124, 294, 295, 296, 297, 71, 26, 58, 27, 299, 300, 301, 302, 19, 64, 65, 66, 247, 248, 249, 250, 97, 15, 16, 103, 251, 252, 253, 254, 255, 256, 303, 304, 305, 306, 17, 275, 276, 277, 278, 18, 307, 308, 309, 310, 311, 312, 313, 314, 387, 388, 389, 390, 25, 391, 392, 393, 394, 23, 395, 22, 396, 397, 35, 398, 399, 400, 401, 402, 403, 404, 405, 406, 407, 408, 409, 546, 547, 548, 549, 550, 551, 552, 553, 554, 555, 556, 557, 558, 559, 560, 561, 562, 563, 564, 565, 581, 582] (by decide +kernel) (by decide +kernel)) (goodIn_sub (fun _ h => List.mem_append_left _ (List.mem_append_left _ (List.mem_append_right _ h))) (by decide +kernel))
set_option maxRecDepth 20000 in
theorem gL_law_L_share : GoodIn wsL_law (va_wsS RL 158 yL_share wsL_share) := goodIn_app (goodIn_of _ (by decide +kernel)) ggL_law_L_share
set_option maxRecDepth 20000 in
theorem ggL_law_X2_share : GoodIn wsL_law wsX2_share := goodIn_r _ [479, 77, 350, 48, 47, 79, 80, 5, 81, 446, 447, 448, 449, 414, 415, 416, 417, 14, 351, 352, 353, 354, 129, 323, 324, 325, 326, 78, 44, 261, 262, 263, 264, 108, 40, 41, 116, 265, 266, 267, 319, 320, 321, 322, 42, 283, 284, 285, 286, 43, 418, 419, 420, 421, 422, 423, 424, 425, 29, 426, 427, 428, 429, 184, 185, 186, 187, 188, 189, 190, 191, 45, 430, 431, 432, 433, 434, 435, 436, 437, 566, 567, 568, 569, 570, 571, 572, 573, 574, 575, 576, 577, 578, 579, 580] (by decide +kernel) (by decide +kernel)
set_option maxRecDepth 20000 in
theorem gL_law_X2_share : GoodIn wsL_law (wsV RL 161 RX2 yX2_share wsX2_share) := goodIn_app (goodIn_of _ (by decide +kernel)) ggL_law_X2_share
set_option maxRecDepth 20000 in
theorem ggL_law_L_walk : GoodIn wsL_law wsL_walk := goodIn_ca (goodIn_r _ [482, 89, 483, 484, 485, 2, 486, 487, 124, 24, 26, 488, 489, 490, 491, 101, 102, 386, 294, 295, 296, 297, 71, 58, 27, 298, 299, 300, 301, 302, 19, 64, 65, 66, 247, 248, 249, 250, 97, 15, 16, 103, 251, 252, 253, 254, 255, 256, 303, 304, 305, 306, 17, 275, 276, 277, 278, 18, 307, 308, 309, 310, 311, 312, 313, 314, 28, 387, 388, 389, 390, 25, 402, 403, 404, 405, 546, 547, 548, 549, 550, 551, 552, 553, 554, 555, 556, 557, 558, 559, 560, 561, 562, 563, 564, 565] (by decide +kernel) (by decide +kernel)) (goodIn_sub (fun _ h => List.mem_append_right _ h) (by decide +kernel))
set_option maxRecDepth 20000 in
theorem gL_law_L_walk : GoodIn wsL_law (va_wsS RL 162 yL_walk wsL_walk) := goodIn_app (goodIn_of _ (by decide +kernel)) ggL_law_L_walk
set_option maxRecDepth 20000 in
theorem ggL_law_X2_walk_ : GoodIn wsL_law wsX2_walk_ := goodIn_r _ [495, 14, 496, 46, 497, 498, 499, 5, 500, 77, 418, 419, 420, 421, 129, 422, 423, 424, 425, 29, 430, 431, 432, 433, 78, 44, 261, 262, 263, 264, 108, 40, 41, 116, 265, 266, 267, 434, 435, 436, 437, 42, 283, 284, 285, 286, 43, 566, 567, 568, 569, 570, 571, 572, 573, 574, 575, 576, 577, 578, 579, 580] (by decide +kernel) (by decide +kernel)
set_option maxRecDepth 20000 in
theorem gL_law_X2_walk_ : GoodIn wsL_law (wsV RL 164 RX2 yX2_walk_ wsX2_walk_) := goodIn_app (goodIn_of _ (by decide +kernel)) ggL_law_X2_walk_
set_option maxRecDepth 20000 in
theorem ggL_law_X1_appliedCount : GoodIn wsL_law wsX1_appliedCount := goodIn_r _ [504, 487, 546, 547, 548, 549, 550, 551, 552, 553, 554, 555, 556, 557, 558, 559, 560, 561, 562, 563, 564, 565] (by decide +kernel) (by decide +kernel)
set_option maxRecDepth 20000 in
theorem gL_law_X1_appliedCount : GoodIn wsL_law (wsV RL 165 RX1 yX1_appliedCount wsX1_appliedCount) := goodIn_app (goodIn_of _ (by decide +kernel)) ggL_law_X1_appliedCount
set_option maxRecDepth 20000 in
theorem ggL_law_X2_appliedCount : GoodIn wsL_law wsX2_appliedCount := goodIn_r _ [508, 77, 496, 566, 567, 568, 569, 570, 571, 572, 573, 574, 575, 576, 577, 578, 579, 580] (by decide +kernel) (by decide +kernel)
set_option maxRecDepth 20000 in
theorem gL_law_X2_appliedCount : GoodIn wsL_law (wsV RL 168 RX2 yX2_appliedCount wsX2_appliedCount) := goodIn_app (goodIn_of _ (by decide +kernel)) ggL_law_X2_appliedCount
set_option maxRecDepth 20000 in
theorem ggL_law_L_applied : GoodIn wsL_law wsL_applied := goodIn_ca (goodIn_r _ [511, 53, 512, 513, 514, 2, 515, 62, 63, 487, 24, 546, 547, 548, 549, 550, 551, 552, 553, 554, 555, 556, 557, 558, 559, 560, 561, 562, 563, 564, 565] (by decide +kernel) (by decide +kernel)) (goodIn_sub (fun _ h => List.mem_append_left _ (List.mem_append_left _ (List.mem_append_right _ h))) (by decide +kernel))
set_option maxRecDepth 20000 in
theorem gL_law_L_applied : GoodIn wsL_law (va_wsS RL 169 yL_applied wsL_applied) := goodIn_app (goodIn_of _ (by decide +kernel)) ggL_law_L_applied
set_option maxRecDepth 20000 in
theorem ggL_law_X2_applied : GoodIn wsL_law wsX2_applied := goodIn_r _ [519, 77, 496, 46, 109, 110, 111, 5, 112, 566, 567, 568, 569, 570, 571, 572, 573, 574, 575, 576, 577, 578, 579, 580] (by decide +kernel) (by decide +kernel)
set_option maxRecDepth 20000 in
theorem gL_law_X2_applied : GoodIn wsL_law (wsV RL 171 RX2 yX2_applied wsX2_applied) := goodIn_app (goodIn_of _ (by decide +kernel)) ggL_law_X2_applied
set_option maxRecDepth 20000 in
theorem ggL_law_L_respects : GoodIn wsL_law wsL_respects := goodIn_ca (goodIn_r _ [522, 89, 523, 524, 525, 2, 526, 488, 489, 490, 491, 101, 102, 386, 124, 387, 388, 389, 390, 25, 64, 65, 66, 391, 392, 393, 394, 23, 395, 22, 396, 397, 35, 546, 547, 548, 549, 550, 551, 552, 553, 554, 555, 556, 557, 558, 559, 560, 561, 562, 563, 564, 565, 581, 582] (by decide +kernel) (by decide +kernel)) (goodIn_sub (fun _ h => List.mem_append_right _ h) (by decide +kernel))
set_option maxRecDepth 20000 in
theorem gL_law_L_respects : GoodIn wsL_law (va_wsS RL 172 yL_respects wsL_respects) := goodIn_app (goodIn_of _ (by decide +kernel)) ggL_law_L_respects
set_option maxRecDepth 20000 in
theorem ggL_law_X2_respects_ : GoodIn wsL_law wsX2_respects_ := goodIn_r _ [530, 14, 497, 498, 499, 5, 500, 77, 418, 419, 420, 421, 129, 422, 423, 424, 425, 29, 426, 427, 428, 429, 184, 185, 186, 187, 188, 189, 190, 191, 45, 566, 567, 568, 569, 570, 571, 572, 573, 574, 575, 576, 577, 578, 579, 580] (by decide +kernel) (by decide +kernel)
set_option maxRecDepth 20000 in
theorem gL_law_X2_respects_ : GoodIn wsL_law (wsV RL 174 RX2 yX2_respects_ wsX2_respects_) := goodIn_app (goodIn_of _ (by decide +kernel)) ggL_law_X2_respects_
set_option maxRecDepth 20000 in
theorem ggL_law_X1_digest : GoodIn wsL_law wsX1_digest := goodIn_r _ [534, 535, 58, 97, 15, 16, 124, 17, 18, 19, 23, 487, 24, 536, 537, 2, 538, 539, 170, 22, 171, 172, 35, 65, 66, 546, 547, 548, 549, 550, 551, 552, 553, 554, 555, 556, 557, 558, 559, 560, 561, 562, 563, 564, 565, 581, 582] (by decide +kernel) (by decide +kernel)
set_option maxRecDepth 20000 in
theorem gL_law_X1_digest : GoodIn wsL_law (wsV RL 175 RX1 yX1_digest wsX1_digest) := goodIn_app (goodIn_of _ (by decide +kernel)) ggL_law_X1_digest
set_option maxRecDepth 20000 in
theorem ggL_law_X2_digest : GoodIn wsL_law wsX2_digest := goodIn_r _ [543, 77, 544, 78, 545, 108, 40, 41, 129, 42, 43, 44, 496, 46, 184, 185, 186, 5, 187, 188, 189, 190, 191, 45, 566, 567, 568, 569, 570, 571, 572, 573, 574, 575, 576, 577, 578, 579, 580] (by decide +kernel) (by decide +kernel)
set_option maxRecDepth 20000 in
theorem gL_law_X2_digest : GoodIn wsL_law (wsV RL 179 RX2 yX2_digest wsX2_digest) := goodIn_app (goodIn_of _ (by decide +kernel)) ggL_law_X2_digest
theorem dL_law_0 : decode cL_law 0 = .ok (.new 8, 3) := by decide +kernel
theorem dL_law_3 : decode cL_law 3 = .ok (.dup, 1) := by decide +kernel
theorem dL_law_4 : decode cL_law 4 = .ok (.invokespecial 77, 3) := by decide +kernel
theorem dL_law_7 : decode cL_law 7 = .ok (.astore_n 1, 1) := by decide +kernel
theorem dL_law_8 : decode cL_law 8 = .ok (.new 78, 3) := by decide +kernel
theorem dL_law_11 : decode cL_law 11 = .ok (.dup, 1) := by decide +kernel
theorem dL_law_12 : decode cL_law 12 = .ok (.invokespecial 80, 3) := by decide +kernel
theorem dL_law_15 : decode cL_law 15 = .ok (.astore_n 2, 1) := by decide +kernel
theorem dL_law_16 : decode cL_law 16 = .ok (.iconst 1, 1) := by decide +kernel
theorem dL_law_17 : decode cL_law 17 = .ok (.newarray .long, 2) := by decide +kernel
theorem dL_law_19 : decode cL_law 19 = .ok (.astore_n 3, 1) := by decide +kernel
theorem dL_law_20 : decode cL_law 20 = .ok (.iconst 1, 1) := by decide +kernel
theorem dL_law_21 : decode cL_law 21 = .ok (.newarray .double, 2) := by decide +kernel
theorem dL_law_23 : decode cL_law 23 = .ok (.astore 4, 2) := by decide +kernel
theorem dL_law_25 : decode cL_law 25 = .ok (.iconst 0, 1) := by decide +kernel
theorem dL_law_26 : decode cL_law 26 = .ok (.istore 5, 2) := by decide +kernel
theorem dL_law_28 : decode cL_law 28 = .ok (.iload 5, 2) := by decide +kernel
theorem dL_law_30 : decode cL_law 30 = .ok (.aload_n 0, 1) := by decide +kernel
theorem dL_law_31 : decode cL_law 31 = .ok (.arraylength, 1) := by decide +kernel
theorem dL_law_32 : decode cL_law 32 = .ok (.iconst 4, 1) := by decide +kernel
theorem dL_law_33 : decode cL_law 33 = .ok (.isub, 1) := by decide +kernel
theorem dL_law_34 : decode cL_law 34 = .ok (.if_icmp .gt 1423, 3) := by decide +kernel
theorem dL_law_37 : decode cL_law 37 = .ok (.aload_n 0, 1) := by decide +kernel
theorem dL_law_38 : decode cL_law 38 = .ok (.iload 5, 2) := by decide +kernel
theorem dL_law_40 : decode cL_law 40 = .ok (.iaload, 1) := by decide +kernel
theorem dL_law_41 : decode cL_law 41 = .ok (.bipush 31, 2) := by decide +kernel
theorem dL_law_43 : decode cL_law 43 = .ok (.iand, 1) := by decide +kernel
theorem dL_law_44 : decode cL_law 44 = .ok (.tableswitch 1407 0 25 #[120, 211, 279, 359, 403, 447, 522, 535, 610, 623, 636, 692, 767, 823, 886, 899, 955, 1018, 1031, 1087, 1128, 1205, 1261, 1274, 1330, 1393], 120) := by decide +kernel
theorem dL_law_164 : decode cL_law 164 = .ok (.aload_n 1, 1) := by decide +kernel
theorem dL_law_165 : decode cL_law 165 = .ok (.aload_n 0, 1) := by decide +kernel
theorem dL_law_166 : decode cL_law 166 = .ok (.iload 5, 2) := by decide +kernel
theorem dL_law_168 : decode cL_law 168 = .ok (.iconst 1, 1) := by decide +kernel
theorem dL_law_169 : decode cL_law 169 = .ok (.iadd, 1) := by decide +kernel
theorem dL_law_170 : decode cL_law 170 = .ok (.iaload, 1) := by decide +kernel
theorem dL_law_171 : decode cL_law 171 = .ok (.aload_n 0, 1) := by decide +kernel
theorem dL_law_172 : decode cL_law 172 = .ok (.iload 5, 2) := by decide +kernel
theorem dL_law_174 : decode cL_law 174 = .ok (.iconst 2, 1) := by decide +kernel
theorem dL_law_175 : decode cL_law 175 = .ok (.iadd, 1) := by decide +kernel
theorem dL_law_176 : decode cL_law 176 = .ok (.iaload, 1) := by decide +kernel
theorem dL_law_177 : decode cL_law 177 = .ok (.ifCond .eq 7, 3) := by decide +kernel
theorem dL_law_180 : decode cL_law 180 = .ok (.iconst 1, 1) := by decide +kernel
theorem dL_law_181 : decode cL_law 181 = .ok (.goto 4, 3) := by decide +kernel
theorem dL_law_184 : decode cL_law 184 = .ok (.iconst 0, 1) := by decide +kernel
theorem dL_law_185 : decode cL_law 185 = .ok (.aload_n 3, 1) := by decide +kernel
theorem dL_law_186 : decode cL_law 186 = .ok (.invokestatic 81, 3) := by decide +kernel
theorem dL_law_189 : decode cL_law 189 = .ok (.istore 6, 2) := by decide +kernel
theorem dL_law_191 : decode cL_law 191 = .ok (.aload_n 2, 1) := by decide +kernel
theorem dL_law_192 : decode cL_law 192 = .ok (.aload_n 0, 1) := by decide +kernel
theorem dL_law_193 : decode cL_law 193 = .ok (.iload 5, 2) := by decide +kernel
theorem dL_law_195 : decode cL_law 195 = .ok (.iconst 1, 1) := by decide +kernel
theorem dL_law_196 : decode cL_law 196 = .ok (.iadd, 1) := by decide +kernel
theorem dL_law_197 : decode cL_law 197 = .ok (.iaload, 1) := by decide +kernel
theorem dL_law_198 : decode cL_law 198 = .ok (.aload_n 0, 1) := by decide +kernel
theorem dL_law_199 : decode cL_law 199 = .ok (.iload 5, 2) := by decide +kernel
theorem dL_law_201 : decode cL_law 201 = .ok (.iconst 2, 1) := by decide +kernel
theorem dL_law_202 : decode cL_law 202 = .ok (.iadd, 1) := by decide +kernel
theorem dL_law_203 : decode cL_law 203 = .ok (.iaload, 1) := by decide +kernel
theorem dL_law_204 : decode cL_law 204 = .ok (.ifCond .eq 7, 3) := by decide +kernel
theorem dL_law_207 : decode cL_law 207 = .ok (.iconst 1, 1) := by decide +kernel
theorem dL_law_208 : decode cL_law 208 = .ok (.goto 4, 3) := by decide +kernel
theorem dL_law_211 : decode cL_law 211 = .ok (.iconst 0, 1) := by decide +kernel
theorem dL_law_212 : decode cL_law 212 = .ok (.invokevirtual 86, 3) := by decide +kernel
theorem dL_law_215 : decode cL_law 215 = .ok (.istore 7, 2) := by decide +kernel
theorem dL_law_217 : decode cL_law 217 = .ok (.aload_n 2, 1) := by decide +kernel
theorem dL_law_218 : decode cL_law 218 = .ok (.invokevirtual 87, 3) := by decide +kernel
theorem dL_law_221 : decode cL_law 221 = .ok (.iload 6, 2) := by decide +kernel
theorem dL_law_223 : decode cL_law 223 = .ok (.if_icmp .eq 5, 3) := by decide +kernel
theorem dL_law_226 : decode cL_law 226 = .ok (.iconst 0, 1) := by decide +kernel
theorem dL_law_227 : decode cL_law 227 = .ok (.ireturn, 1) := by decide +kernel
theorem dL_law_228 : decode cL_law 228 = .ok (.iload 6, 2) := by decide +kernel
theorem dL_law_230 : decode cL_law 230 = .ok (.ifCond .ne 22, 3) := by decide +kernel
theorem dL_law_233 : decode cL_law 233 = .ok (.aload_n 3, 1) := by decide +kernel
theorem dL_law_234 : decode cL_law 234 = .ok (.iconst 0, 1) := by decide +kernel
theorem dL_law_235 : decode cL_law 235 = .ok (.laload, 1) := by decide +kernel
theorem dL_law_236 : decode cL_law 236 = .ok (.iload 7, 2) := by decide +kernel
theorem dL_law_238 : decode cL_law 238 = .ok (.ifCond .eq 7, 3) := by decide +kernel
theorem dL_law_241 : decode cL_law 241 = .ok (.lconst 1, 1) := by decide +kernel
theorem dL_law_242 : decode cL_law 242 = .ok (.goto 4, 3) := by decide +kernel
theorem dL_law_245 : decode cL_law 245 = .ok (.lconst 0, 1) := by decide +kernel
theorem dL_law_246 : decode cL_law 246 = .ok (.lcmp, 1) := by decide +kernel
theorem dL_law_247 : decode cL_law 247 = .ok (.ifCond .eq 5, 3) := by decide +kernel
theorem dL_law_250 : decode cL_law 250 = .ok (.iconst 0, 1) := by decide +kernel
theorem dL_law_251 : decode cL_law 251 = .ok (.ireturn, 1) := by decide +kernel
theorem dL_law_252 : decode cL_law 252 = .ok (.goto 1199, 3) := by decide +kernel
theorem dL_law_255 : decode cL_law 255 = .ok (.aload_n 1, 1) := by decide +kernel
theorem dL_law_256 : decode cL_law 256 = .ok (.aload_n 0, 1) := by decide +kernel
theorem dL_law_257 : decode cL_law 257 = .ok (.iload 5, 2) := by decide +kernel
theorem dL_law_259 : decode cL_law 259 = .ok (.iconst 1, 1) := by decide +kernel
theorem dL_law_260 : decode cL_law 260 = .ok (.iadd, 1) := by decide +kernel
theorem dL_law_261 : decode cL_law 261 = .ok (.iaload, 1) := by decide +kernel
theorem dL_law_262 : decode cL_law 262 = .ok (.aload_n 0, 1) := by decide +kernel
theorem dL_law_263 : decode cL_law 263 = .ok (.iload 5, 2) := by decide +kernel
theorem dL_law_265 : decode cL_law 265 = .ok (.iconst 2, 1) := by decide +kernel
theorem dL_law_266 : decode cL_law 266 = .ok (.iadd, 1) := by decide +kernel
theorem dL_law_267 : decode cL_law 267 = .ok (.iaload, 1) := by decide +kernel
theorem dL_law_268 : decode cL_law 268 = .ok (.aload_n 3, 1) := by decide +kernel
theorem dL_law_269 : decode cL_law 269 = .ok (.invokestatic 90, 3) := by decide +kernel
theorem dL_law_272 : decode cL_law 272 = .ok (.istore 6, 2) := by decide +kernel
theorem dL_law_274 : decode cL_law 274 = .ok (.aload_n 2, 1) := by decide +kernel
theorem dL_law_275 : decode cL_law 275 = .ok (.aload_n 0, 1) := by decide +kernel
theorem dL_law_276 : decode cL_law 276 = .ok (.iload 5, 2) := by decide +kernel
theorem dL_law_278 : decode cL_law 278 = .ok (.iconst 1, 1) := by decide +kernel
theorem dL_law_279 : decode cL_law 279 = .ok (.iadd, 1) := by decide +kernel
theorem dL_law_280 : decode cL_law 280 = .ok (.iaload, 1) := by decide +kernel
theorem dL_law_281 : decode cL_law 281 = .ok (.aload_n 0, 1) := by decide +kernel
theorem dL_law_282 : decode cL_law 282 = .ok (.iload 5, 2) := by decide +kernel
theorem dL_law_284 : decode cL_law 284 = .ok (.iconst 2, 1) := by decide +kernel
theorem dL_law_285 : decode cL_law 285 = .ok (.iadd, 1) := by decide +kernel
theorem dL_law_286 : decode cL_law 286 = .ok (.iaload, 1) := by decide +kernel
theorem dL_law_287 : decode cL_law 287 = .ok (.invokevirtual 93, 3) := by decide +kernel
theorem dL_law_290 : decode cL_law 290 = .ok (.istore 7, 2) := by decide +kernel
theorem dL_law_292 : decode cL_law 292 = .ok (.aload_n 2, 1) := by decide +kernel
theorem dL_law_293 : decode cL_law 293 = .ok (.invokevirtual 87, 3) := by decide +kernel
theorem dL_law_296 : decode cL_law 296 = .ok (.iload 6, 2) := by decide +kernel
theorem dL_law_298 : decode cL_law 298 = .ok (.if_icmp .eq 5, 3) := by decide +kernel
theorem dL_law_301 : decode cL_law 301 = .ok (.iconst 0, 1) := by decide +kernel
theorem dL_law_302 : decode cL_law 302 = .ok (.ireturn, 1) := by decide +kernel
theorem dL_law_303 : decode cL_law 303 = .ok (.iload 6, 2) := by decide +kernel
theorem dL_law_305 : decode cL_law 305 = .ok (.ifCond .ne 15, 3) := by decide +kernel
theorem dL_law_308 : decode cL_law 308 = .ok (.aload_n 3, 1) := by decide +kernel
theorem dL_law_309 : decode cL_law 309 = .ok (.iconst 0, 1) := by decide +kernel
theorem dL_law_310 : decode cL_law 310 = .ok (.laload, 1) := by decide +kernel
theorem dL_law_311 : decode cL_law 311 = .ok (.iload 7, 2) := by decide +kernel
theorem dL_law_313 : decode cL_law 313 = .ok (.i2l, 1) := by decide +kernel
theorem dL_law_314 : decode cL_law 314 = .ok (.lcmp, 1) := by decide +kernel
theorem dL_law_315 : decode cL_law 315 = .ok (.ifCond .eq 5, 3) := by decide +kernel
theorem dL_law_318 : decode cL_law 318 = .ok (.iconst 0, 1) := by decide +kernel
theorem dL_law_319 : decode cL_law 319 = .ok (.ireturn, 1) := by decide +kernel
theorem dL_law_320 : decode cL_law 320 = .ok (.goto 1131, 3) := by decide +kernel
theorem dL_law_323 : decode cL_law 323 = .ok (.aload_n 1, 1) := by decide +kernel
theorem dL_law_324 : decode cL_law 324 = .ok (.aload_n 0, 1) := by decide +kernel
theorem dL_law_325 : decode cL_law 325 = .ok (.iload 5, 2) := by decide +kernel
theorem dL_law_327 : decode cL_law 327 = .ok (.iconst 1, 1) := by decide +kernel
theorem dL_law_328 : decode cL_law 328 = .ok (.iadd, 1) := by decide +kernel
theorem dL_law_329 : decode cL_law 329 = .ok (.iaload, 1) := by decide +kernel
theorem dL_law_330 : decode cL_law 330 = .ok (.aload_n 0, 1) := by decide +kernel
theorem dL_law_331 : decode cL_law 331 = .ok (.iload 5, 2) := by decide +kernel
theorem dL_law_333 : decode cL_law 333 = .ok (.iconst 2, 1) := by decide +kernel
theorem dL_law_334 : decode cL_law 334 = .ok (.iadd, 1) := by decide +kernel
theorem dL_law_335 : decode cL_law 335 = .ok (.iaload, 1) := by decide +kernel
theorem dL_law_336 : decode cL_law 336 = .ok (.aload_n 0, 1) := by decide +kernel
theorem dL_law_337 : decode cL_law 337 = .ok (.iload 5, 2) := by decide +kernel
theorem dL_law_339 : decode cL_law 339 = .ok (.iconst 3, 1) := by decide +kernel
theorem dL_law_340 : decode cL_law 340 = .ok (.iadd, 1) := by decide +kernel
theorem dL_law_341 : decode cL_law 341 = .ok (.iaload, 1) := by decide +kernel
theorem dL_law_342 : decode cL_law 342 = .ok (.aload_n 3, 1) := by decide +kernel
theorem dL_law_343 : decode cL_law 343 = .ok (.invokestatic 94, 3) := by decide +kernel
theorem dL_law_346 : decode cL_law 346 = .ok (.istore 6, 2) := by decide +kernel
theorem dL_law_348 : decode cL_law 348 = .ok (.aload_n 2, 1) := by decide +kernel
theorem dL_law_349 : decode cL_law 349 = .ok (.aload_n 0, 1) := by decide +kernel
theorem dL_law_350 : decode cL_law 350 = .ok (.iload 5, 2) := by decide +kernel
theorem dL_law_352 : decode cL_law 352 = .ok (.iconst 1, 1) := by decide +kernel
theorem dL_law_353 : decode cL_law 353 = .ok (.iadd, 1) := by decide +kernel
theorem dL_law_354 : decode cL_law 354 = .ok (.iaload, 1) := by decide +kernel
theorem dL_law_355 : decode cL_law 355 = .ok (.aload_n 0, 1) := by decide +kernel
theorem dL_law_356 : decode cL_law 356 = .ok (.iload 5, 2) := by decide +kernel
theorem dL_law_358 : decode cL_law 358 = .ok (.iconst 2, 1) := by decide +kernel
theorem dL_law_359 : decode cL_law 359 = .ok (.iadd, 1) := by decide +kernel
theorem dL_law_360 : decode cL_law 360 = .ok (.iaload, 1) := by decide +kernel
theorem dL_law_361 : decode cL_law 361 = .ok (.aload_n 0, 1) := by decide +kernel
theorem dL_law_362 : decode cL_law 362 = .ok (.iload 5, 2) := by decide +kernel
theorem dL_law_364 : decode cL_law 364 = .ok (.iconst 3, 1) := by decide +kernel
theorem dL_law_365 : decode cL_law 365 = .ok (.iadd, 1) := by decide +kernel
theorem dL_law_366 : decode cL_law 366 = .ok (.iaload, 1) := by decide +kernel
theorem dL_law_367 : decode cL_law 367 = .ok (.invokevirtual 97, 3) := by decide +kernel
theorem dL_law_370 : decode cL_law 370 = .ok (.istore 7, 2) := by decide +kernel
theorem dL_law_372 : decode cL_law 372 = .ok (.aload_n 2, 1) := by decide +kernel
theorem dL_law_373 : decode cL_law 373 = .ok (.invokevirtual 87, 3) := by decide +kernel
theorem dL_law_376 : decode cL_law 376 = .ok (.iload 6, 2) := by decide +kernel
theorem dL_law_378 : decode cL_law 378 = .ok (.if_icmp .eq 5, 3) := by decide +kernel
theorem dL_law_381 : decode cL_law 381 = .ok (.iconst 0, 1) := by decide +kernel
theorem dL_law_382 : decode cL_law 382 = .ok (.ireturn, 1) := by decide +kernel
theorem dL_law_383 : decode cL_law 383 = .ok (.iload 6, 2) := by decide +kernel
theorem dL_law_385 : decode cL_law 385 = .ok (.ifCond .ne 15, 3) := by decide +kernel
theorem dL_law_388 : decode cL_law 388 = .ok (.aload_n 3, 1) := by decide +kernel
theorem dL_law_389 : decode cL_law 389 = .ok (.iconst 0, 1) := by decide +kernel
theorem dL_law_390 : decode cL_law 390 = .ok (.laload, 1) := by decide +kernel
theorem dL_law_391 : decode cL_law 391 = .ok (.iload 7, 2) := by decide +kernel
theorem dL_law_393 : decode cL_law 393 = .ok (.i2l, 1) := by decide +kernel
theorem dL_law_394 : decode cL_law 394 = .ok (.lcmp, 1) := by decide +kernel
theorem dL_law_395 : decode cL_law 395 = .ok (.ifCond .eq 5, 3) := by decide +kernel
theorem dL_law_398 : decode cL_law 398 = .ok (.iconst 0, 1) := by decide +kernel
theorem dL_law_399 : decode cL_law 399 = .ok (.ireturn, 1) := by decide +kernel
theorem dL_law_400 : decode cL_law 400 = .ok (.goto 1051, 3) := by decide +kernel
theorem dL_law_403 : decode cL_law 403 = .ok (.aload_n 1, 1) := by decide +kernel
theorem dL_law_404 : decode cL_law 404 = .ok (.aload_n 3, 1) := by decide +kernel
theorem dL_law_405 : decode cL_law 405 = .ok (.invokestatic 98, 3) := by decide +kernel
theorem dL_law_408 : decode cL_law 408 = .ok (.istore 6, 2) := by decide +kernel
theorem dL_law_410 : decode cL_law 410 = .ok (.aload_n 2, 1) := by decide +kernel
theorem dL_law_411 : decode cL_law 411 = .ok (.invokevirtual 101, 3) := by decide +kernel
theorem dL_law_414 : decode cL_law 414 = .ok (.istore 7, 2) := by decide +kernel
theorem dL_law_416 : decode cL_law 416 = .ok (.aload_n 2, 1) := by decide +kernel
theorem dL_law_417 : decode cL_law 417 = .ok (.invokevirtual 87, 3) := by decide +kernel
theorem dL_law_420 : decode cL_law 420 = .ok (.iload 6, 2) := by decide +kernel
theorem dL_law_422 : decode cL_law 422 = .ok (.if_icmp .eq 5, 3) := by decide +kernel
theorem dL_law_425 : decode cL_law 425 = .ok (.iconst 0, 1) := by decide +kernel
theorem dL_law_426 : decode cL_law 426 = .ok (.ireturn, 1) := by decide +kernel
theorem dL_law_427 : decode cL_law 427 = .ok (.iload 6, 2) := by decide +kernel
theorem dL_law_429 : decode cL_law 429 = .ok (.ifCond .ne 15, 3) := by decide +kernel
theorem dL_law_432 : decode cL_law 432 = .ok (.aload_n 3, 1) := by decide +kernel
theorem dL_law_433 : decode cL_law 433 = .ok (.iconst 0, 1) := by decide +kernel
theorem dL_law_434 : decode cL_law 434 = .ok (.laload, 1) := by decide +kernel
theorem dL_law_435 : decode cL_law 435 = .ok (.iload 7, 2) := by decide +kernel
theorem dL_law_437 : decode cL_law 437 = .ok (.i2l, 1) := by decide +kernel
theorem dL_law_438 : decode cL_law 438 = .ok (.lcmp, 1) := by decide +kernel
theorem dL_law_439 : decode cL_law 439 = .ok (.ifCond .eq 5, 3) := by decide +kernel
theorem dL_law_442 : decode cL_law 442 = .ok (.iconst 0, 1) := by decide +kernel
theorem dL_law_443 : decode cL_law 443 = .ok (.ireturn, 1) := by decide +kernel
theorem dL_law_444 : decode cL_law 444 = .ok (.goto 1007, 3) := by decide +kernel
theorem dL_law_447 : decode cL_law 447 = .ok (.aload_n 1, 1) := by decide +kernel
theorem dL_law_448 : decode cL_law 448 = .ok (.aload_n 3, 1) := by decide +kernel
theorem dL_law_449 : decode cL_law 449 = .ok (.invokestatic 102, 3) := by decide +kernel
theorem dL_law_452 : decode cL_law 452 = .ok (.istore 6, 2) := by decide +kernel
theorem dL_law_454 : decode cL_law 454 = .ok (.aload_n 2, 1) := by decide +kernel
theorem dL_law_455 : decode cL_law 455 = .ok (.invokevirtual 104, 3) := by decide +kernel
theorem dL_law_458 : decode cL_law 458 = .ok (.istore 7, 2) := by decide +kernel
theorem dL_law_460 : decode cL_law 460 = .ok (.aload_n 2, 1) := by decide +kernel
theorem dL_law_461 : decode cL_law 461 = .ok (.invokevirtual 87, 3) := by decide +kernel
theorem dL_law_464 : decode cL_law 464 = .ok (.iload 6, 2) := by decide +kernel
theorem dL_law_466 : decode cL_law 466 = .ok (.if_icmp .eq 5, 3) := by decide +kernel
theorem dL_law_469 : decode cL_law 469 = .ok (.iconst 0, 1) := by decide +kernel
theorem dL_law_470 : decode cL_law 470 = .ok (.ireturn, 1) := by decide +kernel
theorem dL_law_471 : decode cL_law 471 = .ok (.iload 6, 2) := by decide +kernel
theorem dL_law_473 : decode cL_law 473 = .ok (.ifCond .ne 15, 3) := by decide +kernel
theorem dL_law_476 : decode cL_law 476 = .ok (.aload_n 3, 1) := by decide +kernel
theorem dL_law_477 : decode cL_law 477 = .ok (.iconst 0, 1) := by decide +kernel
theorem dL_law_478 : decode cL_law 478 = .ok (.laload, 1) := by decide +kernel
theorem dL_law_479 : decode cL_law 479 = .ok (.iload 7, 2) := by decide +kernel
theorem dL_law_481 : decode cL_law 481 = .ok (.i2l, 1) := by decide +kernel
theorem dL_law_482 : decode cL_law 482 = .ok (.lcmp, 1) := by decide +kernel
theorem dL_law_483 : decode cL_law 483 = .ok (.ifCond .eq 5, 3) := by decide +kernel
theorem dL_law_486 : decode cL_law 486 = .ok (.iconst 0, 1) := by decide +kernel
theorem dL_law_487 : decode cL_law 487 = .ok (.ireturn, 1) := by decide +kernel
theorem dL_law_488 : decode cL_law 488 = .ok (.goto 963, 3) := by decide +kernel
theorem dL_law_491 : decode cL_law 491 = .ok (.aload_n 1, 1) := by decide +kernel
theorem dL_law_492 : decode cL_law 492 = .ok (.aload_n 0, 1) := by decide +kernel
theorem dL_law_493 : decode cL_law 493 = .ok (.iload 5, 2) := by decide +kernel
theorem dL_law_495 : decode cL_law 495 = .ok (.iconst 1, 1) := by decide +kernel
theorem dL_law_496 : decode cL_law 496 = .ok (.iadd, 1) := by decide +kernel
theorem dL_law_497 : decode cL_law 497 = .ok (.iaload, 1) := by decide +kernel
theorem dL_law_498 : decode cL_law 498 = .ok (.aload_n 0, 1) := by decide +kernel
theorem dL_law_499 : decode cL_law 499 = .ok (.iload 5, 2) := by decide +kernel
theorem dL_law_501 : decode cL_law 501 = .ok (.iconst 2, 1) := by decide +kernel
theorem dL_law_502 : decode cL_law 502 = .ok (.iadd, 1) := by decide +kernel
theorem dL_law_503 : decode cL_law 503 = .ok (.iaload, 1) := by decide +kernel
theorem dL_law_504 : decode cL_law 504 = .ok (.aload_n 3, 1) := by decide +kernel
theorem dL_law_505 : decode cL_law 505 = .ok (.invokestatic 105, 3) := by decide +kernel
theorem dL_law_508 : decode cL_law 508 = .ok (.istore 6, 2) := by decide +kernel
theorem dL_law_510 : decode cL_law 510 = .ok (.aload_n 2, 1) := by decide +kernel
theorem dL_law_511 : decode cL_law 511 = .ok (.aload_n 0, 1) := by decide +kernel
theorem dL_law_512 : decode cL_law 512 = .ok (.iload 5, 2) := by decide +kernel
theorem dL_law_514 : decode cL_law 514 = .ok (.iconst 1, 1) := by decide +kernel
theorem dL_law_515 : decode cL_law 515 = .ok (.iadd, 1) := by decide +kernel
theorem dL_law_516 : decode cL_law 516 = .ok (.iaload, 1) := by decide +kernel
theorem dL_law_517 : decode cL_law 517 = .ok (.aload_n 0, 1) := by decide +kernel
theorem dL_law_518 : decode cL_law 518 = .ok (.iload 5, 2) := by decide +kernel
theorem dL_law_520 : decode cL_law 520 = .ok (.iconst 2, 1) := by decide +kernel
theorem dL_law_521 : decode cL_law 521 = .ok (.iadd, 1) := by decide +kernel
theorem dL_law_522 : decode cL_law 522 = .ok (.iaload, 1) := by decide +kernel
theorem dL_law_523 : decode cL_law 523 = .ok (.invokevirtual 107, 3) := by decide +kernel
theorem dL_law_526 : decode cL_law 526 = .ok (.istore 7, 2) := by decide +kernel
theorem dL_law_528 : decode cL_law 528 = .ok (.aload_n 2, 1) := by decide +kernel
theorem dL_law_529 : decode cL_law 529 = .ok (.invokevirtual 87, 3) := by decide +kernel
theorem dL_law_532 : decode cL_law 532 = .ok (.iload 6, 2) := by decide +kernel
theorem dL_law_534 : decode cL_law 534 = .ok (.if_icmp .eq 5, 3) := by decide +kernel
theorem dL_law_537 : decode cL_law 537 = .ok (.iconst 0, 1) := by decide +kernel
theorem dL_law_538 : decode cL_law 538 = .ok (.ireturn, 1) := by decide +kernel
theorem dL_law_539 : decode cL_law 539 = .ok (.iload 6, 2) := by decide +kernel
theorem dL_law_541 : decode cL_law 541 = .ok (.ifCond .ne 22, 3) := by decide +kernel
theorem dL_law_544 : decode cL_law 544 = .ok (.aload_n 3, 1) := by decide +kernel
theorem dL_law_545 : decode cL_law 545 = .ok (.iconst 0, 1) := by decide +kernel
theorem dL_law_546 : decode cL_law 546 = .ok (.laload, 1) := by decide +kernel
theorem dL_law_547 : decode cL_law 547 = .ok (.iload 7, 2) := by decide +kernel
theorem dL_law_549 : decode cL_law 549 = .ok (.ifCond .eq 7, 3) := by decide +kernel
theorem dL_law_552 : decode cL_law 552 = .ok (.lconst 1, 1) := by decide +kernel
theorem dL_law_553 : decode cL_law 553 = .ok (.goto 4, 3) := by decide +kernel
theorem dL_law_556 : decode cL_law 556 = .ok (.lconst 0, 1) := by decide +kernel
theorem dL_law_557 : decode cL_law 557 = .ok (.lcmp, 1) := by decide +kernel
theorem dL_law_558 : decode cL_law 558 = .ok (.ifCond .eq 5, 3) := by decide +kernel
theorem dL_law_561 : decode cL_law 561 = .ok (.iconst 0, 1) := by decide +kernel
theorem dL_law_562 : decode cL_law 562 = .ok (.ireturn, 1) := by decide +kernel
theorem dL_law_563 : decode cL_law 563 = .ok (.goto 888, 3) := by decide +kernel
theorem dL_law_566 : decode cL_law 566 = .ok (.aload_n 1, 1) := by decide +kernel
theorem dL_law_567 : decode cL_law 567 = .ok (.invokevirtual 108, 3) := by decide +kernel
theorem dL_law_570 : decode cL_law 570 = .ok (.aload_n 2, 1) := by decide +kernel
theorem dL_law_571 : decode cL_law 571 = .ok (.invokevirtual 111, 3) := by decide +kernel
theorem dL_law_574 : decode cL_law 574 = .ok (.if_icmp .eq 877, 3) := by decide +kernel
theorem dL_law_577 : decode cL_law 577 = .ok (.iconst 0, 1) := by decide +kernel
theorem dL_law_578 : decode cL_law 578 = .ok (.ireturn, 1) := by decide +kernel
theorem dL_law_579 : decode cL_law 579 = .ok (.aload_n 1, 1) := by decide +kernel
theorem dL_law_580 : decode cL_law 580 = .ok (.aload_n 0, 1) := by decide +kernel
theorem dL_law_581 : decode cL_law 581 = .ok (.iload 5, 2) := by decide +kernel
theorem dL_law_583 : decode cL_law 583 = .ok (.iconst 1, 1) := by decide +kernel
theorem dL_law_584 : decode cL_law 584 = .ok (.iadd, 1) := by decide +kernel
theorem dL_law_585 : decode cL_law 585 = .ok (.iaload, 1) := by decide +kernel
theorem dL_law_586 : decode cL_law 586 = .ok (.aload_n 0, 1) := by decide +kernel
theorem dL_law_587 : decode cL_law 587 = .ok (.iload 5, 2) := by decide +kernel
theorem dL_law_589 : decode cL_law 589 = .ok (.iconst 2, 1) := by decide +kernel
theorem dL_law_590 : decode cL_law 590 = .ok (.iadd, 1) := by decide +kernel
theorem dL_law_591 : decode cL_law 591 = .ok (.iaload, 1) := by decide +kernel
theorem dL_law_592 : decode cL_law 592 = .ok (.aload_n 3, 1) := by decide +kernel
theorem dL_law_593 : decode cL_law 593 = .ok (.invokestatic 112, 3) := by decide +kernel
theorem dL_law_596 : decode cL_law 596 = .ok (.istore 6, 2) := by decide +kernel
theorem dL_law_598 : decode cL_law 598 = .ok (.aload_n 2, 1) := by decide +kernel
theorem dL_law_599 : decode cL_law 599 = .ok (.aload_n 0, 1) := by decide +kernel
theorem dL_law_600 : decode cL_law 600 = .ok (.iload 5, 2) := by decide +kernel
theorem dL_law_602 : decode cL_law 602 = .ok (.iconst 1, 1) := by decide +kernel
theorem dL_law_603 : decode cL_law 603 = .ok (.iadd, 1) := by decide +kernel
theorem dL_law_604 : decode cL_law 604 = .ok (.iaload, 1) := by decide +kernel
theorem dL_law_605 : decode cL_law 605 = .ok (.aload_n 0, 1) := by decide +kernel
theorem dL_law_606 : decode cL_law 606 = .ok (.iload 5, 2) := by decide +kernel
theorem dL_law_608 : decode cL_law 608 = .ok (.iconst 2, 1) := by decide +kernel
theorem dL_law_609 : decode cL_law 609 = .ok (.iadd, 1) := by decide +kernel
theorem dL_law_610 : decode cL_law 610 = .ok (.iaload, 1) := by decide +kernel
theorem dL_law_611 : decode cL_law 611 = .ok (.invokevirtual 114, 3) := by decide +kernel
theorem dL_law_614 : decode cL_law 614 = .ok (.istore 7, 2) := by decide +kernel
theorem dL_law_616 : decode cL_law 616 = .ok (.aload_n 2, 1) := by decide +kernel
theorem dL_law_617 : decode cL_law 617 = .ok (.invokevirtual 87, 3) := by decide +kernel
theorem dL_law_620 : decode cL_law 620 = .ok (.iload 6, 2) := by decide +kernel
theorem dL_law_622 : decode cL_law 622 = .ok (.if_icmp .eq 5, 3) := by decide +kernel
theorem dL_law_625 : decode cL_law 625 = .ok (.iconst 0, 1) := by decide +kernel
theorem dL_law_626 : decode cL_law 626 = .ok (.ireturn, 1) := by decide +kernel
theorem dL_law_627 : decode cL_law 627 = .ok (.iload 6, 2) := by decide +kernel
theorem dL_law_629 : decode cL_law 629 = .ok (.ifCond .ne 22, 3) := by decide +kernel
theorem dL_law_632 : decode cL_law 632 = .ok (.aload_n 3, 1) := by decide +kernel
theorem dL_law_633 : decode cL_law 633 = .ok (.iconst 0, 1) := by decide +kernel
theorem dL_law_634 : decode cL_law 634 = .ok (.laload, 1) := by decide +kernel
theorem dL_law_635 : decode cL_law 635 = .ok (.iload 7, 2) := by decide +kernel
theorem dL_law_637 : decode cL_law 637 = .ok (.ifCond .eq 7, 3) := by decide +kernel
theorem dL_law_640 : decode cL_law 640 = .ok (.lconst 1, 1) := by decide +kernel
theorem dL_law_641 : decode cL_law 641 = .ok (.goto 4, 3) := by decide +kernel
theorem dL_law_644 : decode cL_law 644 = .ok (.lconst 0, 1) := by decide +kernel
theorem dL_law_645 : decode cL_law 645 = .ok (.lcmp, 1) := by decide +kernel
theorem dL_law_646 : decode cL_law 646 = .ok (.ifCond .eq 5, 3) := by decide +kernel
theorem dL_law_649 : decode cL_law 649 = .ok (.iconst 0, 1) := by decide +kernel
theorem dL_law_650 : decode cL_law 650 = .ok (.ireturn, 1) := by decide +kernel
theorem dL_law_651 : decode cL_law 651 = .ok (.goto 800, 3) := by decide +kernel
theorem dL_law_654 : decode cL_law 654 = .ok (.aload_n 1, 1) := by decide +kernel
theorem dL_law_655 : decode cL_law 655 = .ok (.invokevirtual 115, 3) := by decide +kernel
theorem dL_law_658 : decode cL_law 658 = .ok (.aload_n 2, 1) := by decide +kernel
theorem dL_law_659 : decode cL_law 659 = .ok (.invokevirtual 118, 3) := by decide +kernel
theorem dL_law_662 : decode cL_law 662 = .ok (.if_icmp .eq 789, 3) := by decide +kernel
theorem dL_law_665 : decode cL_law 665 = .ok (.iconst 0, 1) := by decide +kernel
theorem dL_law_666 : decode cL_law 666 = .ok (.ireturn, 1) := by decide +kernel
theorem dL_law_667 : decode cL_law 667 = .ok (.aload_n 1, 1) := by decide +kernel
theorem dL_law_668 : decode cL_law 668 = .ok (.invokevirtual 119, 3) := by decide +kernel
theorem dL_law_671 : decode cL_law 671 = .ok (.aload_n 2, 1) := by decide +kernel
theorem dL_law_672 : decode cL_law 672 = .ok (.invokevirtual 122, 3) := by decide +kernel
theorem dL_law_675 : decode cL_law 675 = .ok (.if_icmp .eq 776, 3) := by decide +kernel
theorem dL_law_678 : decode cL_law 678 = .ok (.iconst 0, 1) := by decide +kernel
theorem dL_law_679 : decode cL_law 679 = .ok (.ireturn, 1) := by decide +kernel
theorem dL_law_680 : decode cL_law 680 = .ok (.aload_n 1, 1) := by decide +kernel
theorem dL_law_681 : decode cL_law 681 = .ok (.aload_n 0, 1) := by decide +kernel
theorem dL_law_682 : decode cL_law 682 = .ok (.iload 5, 2) := by decide +kernel
theorem dL_law_684 : decode cL_law 684 = .ok (.iconst 1, 1) := by decide +kernel
theorem dL_law_685 : decode cL_law 685 = .ok (.iadd, 1) := by decide +kernel
theorem dL_law_686 : decode cL_law 686 = .ok (.iaload, 1) := by decide +kernel
theorem dL_law_687 : decode cL_law 687 = .ok (.aload_n 3, 1) := by decide +kernel
theorem dL_law_688 : decode cL_law 688 = .ok (.invokestatic 123, 3) := by decide +kernel
theorem dL_law_691 : decode cL_law 691 = .ok (.istore 6, 2) := by decide +kernel
theorem dL_law_693 : decode cL_law 693 = .ok (.aload_n 2, 1) := by decide +kernel
theorem dL_law_694 : decode cL_law 694 = .ok (.aload_n 0, 1) := by decide +kernel
theorem dL_law_695 : decode cL_law 695 = .ok (.iload 5, 2) := by decide +kernel
theorem dL_law_697 : decode cL_law 697 = .ok (.iconst 1, 1) := by decide +kernel
theorem dL_law_698 : decode cL_law 698 = .ok (.iadd, 1) := by decide +kernel
theorem dL_law_699 : decode cL_law 699 = .ok (.iaload, 1) := by decide +kernel
theorem dL_law_700 : decode cL_law 700 = .ok (.invokevirtual 126, 3) := by decide +kernel
theorem dL_law_703 : decode cL_law 703 = .ok (.istore 7, 2) := by decide +kernel
theorem dL_law_705 : decode cL_law 705 = .ok (.aload_n 2, 1) := by decide +kernel
theorem dL_law_706 : decode cL_law 706 = .ok (.invokevirtual 87, 3) := by decide +kernel
theorem dL_law_709 : decode cL_law 709 = .ok (.iload 6, 2) := by decide +kernel
theorem dL_law_711 : decode cL_law 711 = .ok (.if_icmp .eq 5, 3) := by decide +kernel
theorem dL_law_714 : decode cL_law 714 = .ok (.iconst 0, 1) := by decide +kernel
theorem dL_law_715 : decode cL_law 715 = .ok (.ireturn, 1) := by decide +kernel
theorem dL_law_716 : decode cL_law 716 = .ok (.iload 6, 2) := by decide +kernel
theorem dL_law_718 : decode cL_law 718 = .ok (.ifCond .ne 15, 3) := by decide +kernel
theorem dL_law_721 : decode cL_law 721 = .ok (.aload_n 3, 1) := by decide +kernel
theorem dL_law_722 : decode cL_law 722 = .ok (.iconst 0, 1) := by decide +kernel
theorem dL_law_723 : decode cL_law 723 = .ok (.laload, 1) := by decide +kernel
theorem dL_law_724 : decode cL_law 724 = .ok (.iload 7, 2) := by decide +kernel
theorem dL_law_726 : decode cL_law 726 = .ok (.i2l, 1) := by decide +kernel
theorem dL_law_727 : decode cL_law 727 = .ok (.lcmp, 1) := by decide +kernel
theorem dL_law_728 : decode cL_law 728 = .ok (.ifCond .eq 5, 3) := by decide +kernel
theorem dL_law_731 : decode cL_law 731 = .ok (.iconst 0, 1) := by decide +kernel
theorem dL_law_732 : decode cL_law 732 = .ok (.ireturn, 1) := by decide +kernel
theorem dL_law_733 : decode cL_law 733 = .ok (.goto 718, 3) := by decide +kernel
theorem dL_law_736 : decode cL_law 736 = .ok (.aload_n 1, 1) := by decide +kernel
theorem dL_law_737 : decode cL_law 737 = .ok (.aload_n 0, 1) := by decide +kernel
theorem dL_law_738 : decode cL_law 738 = .ok (.iload 5, 2) := by decide +kernel
theorem dL_law_740 : decode cL_law 740 = .ok (.iconst 1, 1) := by decide +kernel
theorem dL_law_741 : decode cL_law 741 = .ok (.iadd, 1) := by decide +kernel
theorem dL_law_742 : decode cL_law 742 = .ok (.iaload, 1) := by decide +kernel
theorem dL_law_743 : decode cL_law 743 = .ok (.aload_n 0, 1) := by decide +kernel
theorem dL_law_744 : decode cL_law 744 = .ok (.iload 5, 2) := by decide +kernel
theorem dL_law_746 : decode cL_law 746 = .ok (.iconst 2, 1) := by decide +kernel
theorem dL_law_747 : decode cL_law 747 = .ok (.iadd, 1) := by decide +kernel
theorem dL_law_748 : decode cL_law 748 = .ok (.iaload, 1) := by decide +kernel
theorem dL_law_749 : decode cL_law 749 = .ok (.aload_n 3, 1) := by decide +kernel
theorem dL_law_750 : decode cL_law 750 = .ok (.invokestatic 127, 3) := by decide +kernel
theorem dL_law_753 : decode cL_law 753 = .ok (.istore 6, 2) := by decide +kernel
theorem dL_law_755 : decode cL_law 755 = .ok (.aload_n 2, 1) := by decide +kernel
theorem dL_law_756 : decode cL_law 756 = .ok (.aload_n 0, 1) := by decide +kernel
theorem dL_law_757 : decode cL_law 757 = .ok (.iload 5, 2) := by decide +kernel
theorem dL_law_759 : decode cL_law 759 = .ok (.iconst 1, 1) := by decide +kernel
theorem dL_law_760 : decode cL_law 760 = .ok (.iadd, 1) := by decide +kernel
theorem dL_law_761 : decode cL_law 761 = .ok (.iaload, 1) := by decide +kernel
theorem dL_law_762 : decode cL_law 762 = .ok (.aload_n 0, 1) := by decide +kernel
theorem dL_law_763 : decode cL_law 763 = .ok (.iload 5, 2) := by decide +kernel
theorem dL_law_765 : decode cL_law 765 = .ok (.iconst 2, 1) := by decide +kernel
theorem dL_law_766 : decode cL_law 766 = .ok (.iadd, 1) := by decide +kernel
theorem dL_law_767 : decode cL_law 767 = .ok (.iaload, 1) := by decide +kernel
theorem dL_law_768 : decode cL_law 768 = .ok (.invokevirtual 129, 3) := by decide +kernel
theorem dL_law_771 : decode cL_law 771 = .ok (.istore 7, 2) := by decide +kernel
theorem dL_law_773 : decode cL_law 773 = .ok (.aload_n 2, 1) := by decide +kernel
theorem dL_law_774 : decode cL_law 774 = .ok (.invokevirtual 87, 3) := by decide +kernel
theorem dL_law_777 : decode cL_law 777 = .ok (.iload 6, 2) := by decide +kernel
theorem dL_law_779 : decode cL_law 779 = .ok (.if_icmp .eq 5, 3) := by decide +kernel
theorem dL_law_782 : decode cL_law 782 = .ok (.iconst 0, 1) := by decide +kernel
theorem dL_law_783 : decode cL_law 783 = .ok (.ireturn, 1) := by decide +kernel
theorem dL_law_784 : decode cL_law 784 = .ok (.iload 6, 2) := by decide +kernel
theorem dL_law_786 : decode cL_law 786 = .ok (.ifCond .ne 22, 3) := by decide +kernel
theorem dL_law_789 : decode cL_law 789 = .ok (.aload_n 3, 1) := by decide +kernel
theorem dL_law_790 : decode cL_law 790 = .ok (.iconst 0, 1) := by decide +kernel
theorem dL_law_791 : decode cL_law 791 = .ok (.laload, 1) := by decide +kernel
theorem dL_law_792 : decode cL_law 792 = .ok (.iload 7, 2) := by decide +kernel
theorem dL_law_794 : decode cL_law 794 = .ok (.ifCond .eq 7, 3) := by decide +kernel
theorem dL_law_797 : decode cL_law 797 = .ok (.lconst 1, 1) := by decide +kernel
theorem dL_law_798 : decode cL_law 798 = .ok (.goto 4, 3) := by decide +kernel
theorem dL_law_801 : decode cL_law 801 = .ok (.lconst 0, 1) := by decide +kernel
theorem dL_law_802 : decode cL_law 802 = .ok (.lcmp, 1) := by decide +kernel
theorem dL_law_803 : decode cL_law 803 = .ok (.ifCond .eq 5, 3) := by decide +kernel
theorem dL_law_806 : decode cL_law 806 = .ok (.iconst 0, 1) := by decide +kernel
theorem dL_law_807 : decode cL_law 807 = .ok (.ireturn, 1) := by decide +kernel
theorem dL_law_808 : decode cL_law 808 = .ok (.goto 643, 3) := by decide +kernel
theorem dL_law_811 : decode cL_law 811 = .ok (.aload_n 1, 1) := by decide +kernel
theorem dL_law_812 : decode cL_law 812 = .ok (.aload_n 0, 1) := by decide +kernel
theorem dL_law_813 : decode cL_law 813 = .ok (.iload 5, 2) := by decide +kernel
theorem dL_law_815 : decode cL_law 815 = .ok (.iconst 1, 1) := by decide +kernel
theorem dL_law_816 : decode cL_law 816 = .ok (.iadd, 1) := by decide +kernel
theorem dL_law_817 : decode cL_law 817 = .ok (.iaload, 1) := by decide +kernel
theorem dL_law_818 : decode cL_law 818 = .ok (.aload_n 3, 1) := by decide +kernel
theorem dL_law_819 : decode cL_law 819 = .ok (.invokestatic 130, 3) := by decide +kernel
theorem dL_law_822 : decode cL_law 822 = .ok (.istore 6, 2) := by decide +kernel
theorem dL_law_824 : decode cL_law 824 = .ok (.aload_n 2, 1) := by decide +kernel
theorem dL_law_825 : decode cL_law 825 = .ok (.aload_n 0, 1) := by decide +kernel
theorem dL_law_826 : decode cL_law 826 = .ok (.iload 5, 2) := by decide +kernel
theorem dL_law_828 : decode cL_law 828 = .ok (.iconst 1, 1) := by decide +kernel
theorem dL_law_829 : decode cL_law 829 = .ok (.iadd, 1) := by decide +kernel
end
section
theorem dL_law_830 : decode cL_law 830 = .ok (.iaload, 1) := by decide +kernel
theorem dL_law_831 : decode cL_law 831 = .ok (.invokevirtual 132, 3) := by decide +kernel
theorem dL_law_834 : decode cL_law 834 = .ok (.istore 7, 2) := by decide +kernel
theorem dL_law_836 : decode cL_law 836 = .ok (.aload_n 2, 1) := by decide +kernel
theorem dL_law_837 : decode cL_law 837 = .ok (.invokevirtual 87, 3) := by decide +kernel
theorem dL_law_840 : decode cL_law 840 = .ok (.iload 6, 2) := by decide +kernel
theorem dL_law_842 : decode cL_law 842 = .ok (.if_icmp .eq 5, 3) := by decide +kernel
theorem dL_law_845 : decode cL_law 845 = .ok (.iconst 0, 1) := by decide +kernel
theorem dL_law_846 : decode cL_law 846 = .ok (.ireturn, 1) := by decide +kernel
theorem dL_law_847 : decode cL_law 847 = .ok (.iload 6, 2) := by decide +kernel
theorem dL_law_849 : decode cL_law 849 = .ok (.ifCond .ne 15, 3) := by decide +kernel
theorem dL_law_852 : decode cL_law 852 = .ok (.aload_n 3, 1) := by decide +kernel
theorem dL_law_853 : decode cL_law 853 = .ok (.iconst 0, 1) := by decide +kernel
theorem dL_law_854 : decode cL_law 854 = .ok (.laload, 1) := by decide +kernel
theorem dL_law_855 : decode cL_law 855 = .ok (.iload 7, 2) := by decide +kernel
theorem dL_law_857 : decode cL_law 857 = .ok (.i2l, 1) := by decide +kernel
theorem dL_law_858 : decode cL_law 858 = .ok (.lcmp, 1) := by decide +kernel
theorem dL_law_859 : decode cL_law 859 = .ok (.ifCond .eq 5, 3) := by decide +kernel
theorem dL_law_862 : decode cL_law 862 = .ok (.iconst 0, 1) := by decide +kernel
theorem dL_law_863 : decode cL_law 863 = .ok (.ireturn, 1) := by decide +kernel
theorem dL_law_864 : decode cL_law 864 = .ok (.goto 587, 3) := by decide +kernel
theorem dL_law_867 : decode cL_law 867 = .ok (.aload_n 1, 1) := by decide +kernel
theorem dL_law_868 : decode cL_law 868 = .ok (.aload_n 0, 1) := by decide +kernel
theorem dL_law_869 : decode cL_law 869 = .ok (.iload 5, 2) := by decide +kernel
theorem dL_law_871 : decode cL_law 871 = .ok (.iconst 1, 1) := by decide +kernel
theorem dL_law_872 : decode cL_law 872 = .ok (.iadd, 1) := by decide +kernel
theorem dL_law_873 : decode cL_law 873 = .ok (.iaload, 1) := by decide +kernel
theorem dL_law_874 : decode cL_law 874 = .ok (.aload_n 3, 1) := by decide +kernel
theorem dL_law_875 : decode cL_law 875 = .ok (.invokestatic 133, 3) := by decide +kernel
theorem dL_law_878 : decode cL_law 878 = .ok (.istore 6, 2) := by decide +kernel
theorem dL_law_880 : decode cL_law 880 = .ok (.aload_n 2, 1) := by decide +kernel
theorem dL_law_881 : decode cL_law 881 = .ok (.aload_n 0, 1) := by decide +kernel
theorem dL_law_882 : decode cL_law 882 = .ok (.iload 5, 2) := by decide +kernel
theorem dL_law_884 : decode cL_law 884 = .ok (.iconst 1, 1) := by decide +kernel
theorem dL_law_885 : decode cL_law 885 = .ok (.iadd, 1) := by decide +kernel
theorem dL_law_886 : decode cL_law 886 = .ok (.iaload, 1) := by decide +kernel
theorem dL_law_887 : decode cL_law 887 = .ok (.invokevirtual 135, 3) := by decide +kernel
theorem dL_law_890 : decode cL_law 890 = .ok (.istore 7, 2) := by decide +kernel
theorem dL_law_892 : decode cL_law 892 = .ok (.aload_n 2, 1) := by decide +kernel
theorem dL_law_893 : decode cL_law 893 = .ok (.invokevirtual 87, 3) := by decide +kernel
theorem dL_law_896 : decode cL_law 896 = .ok (.iload 6, 2) := by decide +kernel
theorem dL_law_898 : decode cL_law 898 = .ok (.if_icmp .eq 5, 3) := by decide +kernel
theorem dL_law_901 : decode cL_law 901 = .ok (.iconst 0, 1) := by decide +kernel
theorem dL_law_902 : decode cL_law 902 = .ok (.ireturn, 1) := by decide +kernel
theorem dL_law_903 : decode cL_law 903 = .ok (.iload 6, 2) := by decide +kernel
theorem dL_law_905 : decode cL_law 905 = .ok (.ifCond .ne 22, 3) := by decide +kernel
theorem dL_law_908 : decode cL_law 908 = .ok (.aload_n 3, 1) := by decide +kernel
theorem dL_law_909 : decode cL_law 909 = .ok (.iconst 0, 1) := by decide +kernel
theorem dL_law_910 : decode cL_law 910 = .ok (.laload, 1) := by decide +kernel
theorem dL_law_911 : decode cL_law 911 = .ok (.iload 7, 2) := by decide +kernel
theorem dL_law_913 : decode cL_law 913 = .ok (.ifCond .eq 7, 3) := by decide +kernel
theorem dL_law_916 : decode cL_law 916 = .ok (.lconst 1, 1) := by decide +kernel
theorem dL_law_917 : decode cL_law 917 = .ok (.goto 4, 3) := by decide +kernel
theorem dL_law_920 : decode cL_law 920 = .ok (.lconst 0, 1) := by decide +kernel
theorem dL_law_921 : decode cL_law 921 = .ok (.lcmp, 1) := by decide +kernel
theorem dL_law_922 : decode cL_law 922 = .ok (.ifCond .eq 5, 3) := by decide +kernel
theorem dL_law_925 : decode cL_law 925 = .ok (.iconst 0, 1) := by decide +kernel
theorem dL_law_926 : decode cL_law 926 = .ok (.ireturn, 1) := by decide +kernel
theorem dL_law_927 : decode cL_law 927 = .ok (.goto 524, 3) := by decide +kernel
theorem dL_law_930 : decode cL_law 930 = .ok (.aload_n 1, 1) := by decide +kernel
theorem dL_law_931 : decode cL_law 931 = .ok (.invokevirtual 136, 3) := by decide +kernel
theorem dL_law_934 : decode cL_law 934 = .ok (.aload_n 2, 1) := by decide +kernel
theorem dL_law_935 : decode cL_law 935 = .ok (.invokevirtual 139, 3) := by decide +kernel
theorem dL_law_938 : decode cL_law 938 = .ok (.if_icmp .eq 513, 3) := by decide +kernel
theorem dL_law_941 : decode cL_law 941 = .ok (.iconst 0, 1) := by decide +kernel
theorem dL_law_942 : decode cL_law 942 = .ok (.ireturn, 1) := by decide +kernel
theorem dL_law_943 : decode cL_law 943 = .ok (.aload_n 1, 1) := by decide +kernel
theorem dL_law_944 : decode cL_law 944 = .ok (.aload_n 0, 1) := by decide +kernel
theorem dL_law_945 : decode cL_law 945 = .ok (.iload 5, 2) := by decide +kernel
theorem dL_law_947 : decode cL_law 947 = .ok (.iconst 1, 1) := by decide +kernel
theorem dL_law_948 : decode cL_law 948 = .ok (.iadd, 1) := by decide +kernel
theorem dL_law_949 : decode cL_law 949 = .ok (.iaload, 1) := by decide +kernel
theorem dL_law_950 : decode cL_law 950 = .ok (.aload_n 3, 1) := by decide +kernel
theorem dL_law_951 : decode cL_law 951 = .ok (.invokestatic 140, 3) := by decide +kernel
theorem dL_law_954 : decode cL_law 954 = .ok (.istore 6, 2) := by decide +kernel
theorem dL_law_956 : decode cL_law 956 = .ok (.aload_n 2, 1) := by decide +kernel
theorem dL_law_957 : decode cL_law 957 = .ok (.aload_n 0, 1) := by decide +kernel
theorem dL_law_958 : decode cL_law 958 = .ok (.iload 5, 2) := by decide +kernel
theorem dL_law_960 : decode cL_law 960 = .ok (.iconst 1, 1) := by decide +kernel
theorem dL_law_961 : decode cL_law 961 = .ok (.iadd, 1) := by decide +kernel
theorem dL_law_962 : decode cL_law 962 = .ok (.iaload, 1) := by decide +kernel
theorem dL_law_963 : decode cL_law 963 = .ok (.invokevirtual 142, 3) := by decide +kernel
theorem dL_law_966 : decode cL_law 966 = .ok (.istore 7, 2) := by decide +kernel
theorem dL_law_968 : decode cL_law 968 = .ok (.aload_n 2, 1) := by decide +kernel
theorem dL_law_969 : decode cL_law 969 = .ok (.invokevirtual 87, 3) := by decide +kernel
theorem dL_law_972 : decode cL_law 972 = .ok (.iload 6, 2) := by decide +kernel
theorem dL_law_974 : decode cL_law 974 = .ok (.if_icmp .eq 5, 3) := by decide +kernel
theorem dL_law_977 : decode cL_law 977 = .ok (.iconst 0, 1) := by decide +kernel
theorem dL_law_978 : decode cL_law 978 = .ok (.ireturn, 1) := by decide +kernel
theorem dL_law_979 : decode cL_law 979 = .ok (.iload 6, 2) := by decide +kernel
theorem dL_law_981 : decode cL_law 981 = .ok (.ifCond .ne 15, 3) := by decide +kernel
theorem dL_law_984 : decode cL_law 984 = .ok (.aload_n 3, 1) := by decide +kernel
theorem dL_law_985 : decode cL_law 985 = .ok (.iconst 0, 1) := by decide +kernel
theorem dL_law_986 : decode cL_law 986 = .ok (.laload, 1) := by decide +kernel
theorem dL_law_987 : decode cL_law 987 = .ok (.iload 7, 2) := by decide +kernel
theorem dL_law_989 : decode cL_law 989 = .ok (.i2l, 1) := by decide +kernel
theorem dL_law_990 : decode cL_law 990 = .ok (.lcmp, 1) := by decide +kernel
theorem dL_law_991 : decode cL_law 991 = .ok (.ifCond .eq 5, 3) := by decide +kernel
theorem dL_law_994 : decode cL_law 994 = .ok (.iconst 0, 1) := by decide +kernel
theorem dL_law_995 : decode cL_law 995 = .ok (.ireturn, 1) := by decide +kernel
theorem dL_law_996 : decode cL_law 996 = .ok (.goto 455, 3) := by decide +kernel
theorem dL_law_999 : decode cL_law 999 = .ok (.aload_n 1, 1) := by decide +kernel
theorem dL_law_1000 : decode cL_law 1000 = .ok (.aload_n 0, 1) := by decide +kernel
theorem dL_law_1001 : decode cL_law 1001 = .ok (.iload 5, 2) := by decide +kernel
theorem dL_law_1003 : decode cL_law 1003 = .ok (.iconst 1, 1) := by decide +kernel
theorem dL_law_1004 : decode cL_law 1004 = .ok (.iadd, 1) := by decide +kernel
theorem dL_law_1005 : decode cL_law 1005 = .ok (.iaload, 1) := by decide +kernel
theorem dL_law_1006 : decode cL_law 1006 = .ok (.aload_n 3, 1) := by decide +kernel
theorem dL_law_1007 : decode cL_law 1007 = .ok (.invokestatic 143, 3) := by decide +kernel
theorem dL_law_1010 : decode cL_law 1010 = .ok (.istore 6, 2) := by decide +kernel
theorem dL_law_1012 : decode cL_law 1012 = .ok (.aload_n 2, 1) := by decide +kernel
theorem dL_law_1013 : decode cL_law 1013 = .ok (.aload_n 0, 1) := by decide +kernel
theorem dL_law_1014 : decode cL_law 1014 = .ok (.iload 5, 2) := by decide +kernel
theorem dL_law_1016 : decode cL_law 1016 = .ok (.iconst 1, 1) := by decide +kernel
theorem dL_law_1017 : decode cL_law 1017 = .ok (.iadd, 1) := by decide +kernel
theorem dL_law_1018 : decode cL_law 1018 = .ok (.iaload, 1) := by decide +kernel
theorem dL_law_1019 : decode cL_law 1019 = .ok (.invokevirtual 145, 3) := by decide +kernel
theorem dL_law_1022 : decode cL_law 1022 = .ok (.istore 7, 2) := by decide +kernel
theorem dL_law_1024 : decode cL_law 1024 = .ok (.aload_n 2, 1) := by decide +kernel
theorem dL_law_1025 : decode cL_law 1025 = .ok (.invokevirtual 87, 3) := by decide +kernel
theorem dL_law_1028 : decode cL_law 1028 = .ok (.iload 6, 2) := by decide +kernel
theorem dL_law_1030 : decode cL_law 1030 = .ok (.if_icmp .eq 5, 3) := by decide +kernel
theorem dL_law_1033 : decode cL_law 1033 = .ok (.iconst 0, 1) := by decide +kernel
theorem dL_law_1034 : decode cL_law 1034 = .ok (.ireturn, 1) := by decide +kernel
theorem dL_law_1035 : decode cL_law 1035 = .ok (.iload 6, 2) := by decide +kernel
theorem dL_law_1037 : decode cL_law 1037 = .ok (.ifCond .ne 22, 3) := by decide +kernel
theorem dL_law_1040 : decode cL_law 1040 = .ok (.aload_n 3, 1) := by decide +kernel
theorem dL_law_1041 : decode cL_law 1041 = .ok (.iconst 0, 1) := by decide +kernel
theorem dL_law_1042 : decode cL_law 1042 = .ok (.laload, 1) := by decide +kernel
theorem dL_law_1043 : decode cL_law 1043 = .ok (.iload 7, 2) := by decide +kernel
theorem dL_law_1045 : decode cL_law 1045 = .ok (.ifCond .eq 7, 3) := by decide +kernel
theorem dL_law_1048 : decode cL_law 1048 = .ok (.lconst 1, 1) := by decide +kernel
theorem dL_law_1049 : decode cL_law 1049 = .ok (.goto 4, 3) := by decide +kernel
theorem dL_law_1052 : decode cL_law 1052 = .ok (.lconst 0, 1) := by decide +kernel
theorem dL_law_1053 : decode cL_law 1053 = .ok (.lcmp, 1) := by decide +kernel
theorem dL_law_1054 : decode cL_law 1054 = .ok (.ifCond .eq 5, 3) := by decide +kernel
theorem dL_law_1057 : decode cL_law 1057 = .ok (.iconst 0, 1) := by decide +kernel
theorem dL_law_1058 : decode cL_law 1058 = .ok (.ireturn, 1) := by decide +kernel
theorem dL_law_1059 : decode cL_law 1059 = .ok (.goto 392, 3) := by decide +kernel
theorem dL_law_1062 : decode cL_law 1062 = .ok (.aload_n 1, 1) := by decide +kernel
theorem dL_law_1063 : decode cL_law 1063 = .ok (.invokevirtual 146, 3) := by decide +kernel
theorem dL_law_1066 : decode cL_law 1066 = .ok (.aload_n 2, 1) := by decide +kernel
theorem dL_law_1067 : decode cL_law 1067 = .ok (.invokevirtual 149, 3) := by decide +kernel
theorem dL_law_1070 : decode cL_law 1070 = .ok (.if_icmp .eq 381, 3) := by decide +kernel
theorem dL_law_1073 : decode cL_law 1073 = .ok (.iconst 0, 1) := by decide +kernel
theorem dL_law_1074 : decode cL_law 1074 = .ok (.ireturn, 1) := by decide +kernel
theorem dL_law_1075 : decode cL_law 1075 = .ok (.aload_n 1, 1) := by decide +kernel
theorem dL_law_1076 : decode cL_law 1076 = .ok (.aload_n 0, 1) := by decide +kernel
theorem dL_law_1077 : decode cL_law 1077 = .ok (.iload 5, 2) := by decide +kernel
theorem dL_law_1079 : decode cL_law 1079 = .ok (.iconst 1, 1) := by decide +kernel
theorem dL_law_1080 : decode cL_law 1080 = .ok (.iadd, 1) := by decide +kernel
theorem dL_law_1081 : decode cL_law 1081 = .ok (.iaload, 1) := by decide +kernel
theorem dL_law_1082 : decode cL_law 1082 = .ok (.aload_n 3, 1) := by decide +kernel
theorem dL_law_1083 : decode cL_law 1083 = .ok (.invokestatic 150, 3) := by decide +kernel
theorem dL_law_1086 : decode cL_law 1086 = .ok (.istore 6, 2) := by decide +kernel
theorem dL_law_1088 : decode cL_law 1088 = .ok (.aload_n 2, 1) := by decide +kernel
theorem dL_law_1089 : decode cL_law 1089 = .ok (.aload_n 0, 1) := by decide +kernel
theorem dL_law_1090 : decode cL_law 1090 = .ok (.iload 5, 2) := by decide +kernel
theorem dL_law_1092 : decode cL_law 1092 = .ok (.iconst 1, 1) := by decide +kernel
theorem dL_law_1093 : decode cL_law 1093 = .ok (.iadd, 1) := by decide +kernel
theorem dL_law_1094 : decode cL_law 1094 = .ok (.iaload, 1) := by decide +kernel
theorem dL_law_1095 : decode cL_law 1095 = .ok (.invokevirtual 152, 3) := by decide +kernel
theorem dL_law_1098 : decode cL_law 1098 = .ok (.istore 7, 2) := by decide +kernel
theorem dL_law_1100 : decode cL_law 1100 = .ok (.aload_n 2, 1) := by decide +kernel
theorem dL_law_1101 : decode cL_law 1101 = .ok (.invokevirtual 87, 3) := by decide +kernel
theorem dL_law_1104 : decode cL_law 1104 = .ok (.iload 6, 2) := by decide +kernel
theorem dL_law_1106 : decode cL_law 1106 = .ok (.if_icmp .eq 5, 3) := by decide +kernel
theorem dL_law_1109 : decode cL_law 1109 = .ok (.iconst 0, 1) := by decide +kernel
theorem dL_law_1110 : decode cL_law 1110 = .ok (.ireturn, 1) := by decide +kernel
theorem dL_law_1111 : decode cL_law 1111 = .ok (.iload 6, 2) := by decide +kernel
theorem dL_law_1113 : decode cL_law 1113 = .ok (.ifCond .ne 15, 3) := by decide +kernel
theorem dL_law_1116 : decode cL_law 1116 = .ok (.aload_n 3, 1) := by decide +kernel
theorem dL_law_1117 : decode cL_law 1117 = .ok (.iconst 0, 1) := by decide +kernel
theorem dL_law_1118 : decode cL_law 1118 = .ok (.laload, 1) := by decide +kernel
theorem dL_law_1119 : decode cL_law 1119 = .ok (.iload 7, 2) := by decide +kernel
theorem dL_law_1121 : decode cL_law 1121 = .ok (.i2l, 1) := by decide +kernel
theorem dL_law_1122 : decode cL_law 1122 = .ok (.lcmp, 1) := by decide +kernel
theorem dL_law_1123 : decode cL_law 1123 = .ok (.ifCond .eq 5, 3) := by decide +kernel
theorem dL_law_1126 : decode cL_law 1126 = .ok (.iconst 0, 1) := by decide +kernel
theorem dL_law_1127 : decode cL_law 1127 = .ok (.ireturn, 1) := by decide +kernel
theorem dL_law_1128 : decode cL_law 1128 = .ok (.goto 323, 3) := by decide +kernel
theorem dL_law_1131 : decode cL_law 1131 = .ok (.aload_n 1, 1) := by decide +kernel
theorem dL_law_1132 : decode cL_law 1132 = .ok (.aload_n 0, 1) := by decide +kernel
theorem dL_law_1133 : decode cL_law 1133 = .ok (.iload 5, 2) := by decide +kernel
theorem dL_law_1135 : decode cL_law 1135 = .ok (.iconst 1, 1) := by decide +kernel
theorem dL_law_1136 : decode cL_law 1136 = .ok (.iadd, 1) := by decide +kernel
theorem dL_law_1137 : decode cL_law 1137 = .ok (.iaload, 1) := by decide +kernel
theorem dL_law_1138 : decode cL_law 1138 = .ok (.ifCond .eq 7, 3) := by decide +kernel
theorem dL_law_1141 : decode cL_law 1141 = .ok (.iconst 1, 1) := by decide +kernel
theorem dL_law_1142 : decode cL_law 1142 = .ok (.goto 4, 3) := by decide +kernel
theorem dL_law_1145 : decode cL_law 1145 = .ok (.iconst 0, 1) := by decide +kernel
theorem dL_law_1146 : decode cL_law 1146 = .ok (.invokevirtual 153, 3) := by decide +kernel
theorem dL_law_1149 : decode cL_law 1149 = .ok (.aload_n 2, 1) := by decide +kernel
theorem dL_law_1150 : decode cL_law 1150 = .ok (.aload_n 0, 1) := by decide +kernel
theorem dL_law_1151 : decode cL_law 1151 = .ok (.iload 5, 2) := by decide +kernel
theorem dL_law_1153 : decode cL_law 1153 = .ok (.iconst 1, 1) := by decide +kernel
theorem dL_law_1154 : decode cL_law 1154 = .ok (.iadd, 1) := by decide +kernel
theorem dL_law_1155 : decode cL_law 1155 = .ok (.iaload, 1) := by decide +kernel
theorem dL_law_1156 : decode cL_law 1156 = .ok (.ifCond .eq 7, 3) := by decide +kernel
theorem dL_law_1159 : decode cL_law 1159 = .ok (.iconst 1, 1) := by decide +kernel
theorem dL_law_1160 : decode cL_law 1160 = .ok (.goto 4, 3) := by decide +kernel
theorem dL_law_1163 : decode cL_law 1163 = .ok (.iconst 0, 1) := by decide +kernel
theorem dL_law_1164 : decode cL_law 1164 = .ok (.invokevirtual 157, 3) := by decide +kernel
theorem dL_law_1167 : decode cL_law 1167 = .ok (.if_icmp .eq 284, 3) := by decide +kernel
theorem dL_law_1170 : decode cL_law 1170 = .ok (.iconst 0, 1) := by decide +kernel
theorem dL_law_1171 : decode cL_law 1171 = .ok (.ireturn, 1) := by decide +kernel
theorem dL_law_1172 : decode cL_law 1172 = .ok (.aload_n 1, 1) := by decide +kernel
theorem dL_law_1173 : decode cL_law 1173 = .ok (.aload_n 0, 1) := by decide +kernel
theorem dL_law_1174 : decode cL_law 1174 = .ok (.iload 5, 2) := by decide +kernel
theorem dL_law_1176 : decode cL_law 1176 = .ok (.iconst 1, 1) := by decide +kernel
theorem dL_law_1177 : decode cL_law 1177 = .ok (.iadd, 1) := by decide +kernel
theorem dL_law_1178 : decode cL_law 1178 = .ok (.iaload, 1) := by decide +kernel
theorem dL_law_1179 : decode cL_law 1179 = .ok (.aload 4, 2) := by decide +kernel
theorem dL_law_1181 : decode cL_law 1181 = .ok (.invokestatic 158, 3) := by decide +kernel
theorem dL_law_1184 : decode cL_law 1184 = .ok (.istore 6, 2) := by decide +kernel
theorem dL_law_1186 : decode cL_law 1186 = .ok (.aload_n 2, 1) := by decide +kernel
theorem dL_law_1187 : decode cL_law 1187 = .ok (.aload_n 0, 1) := by decide +kernel
theorem dL_law_1188 : decode cL_law 1188 = .ok (.iload 5, 2) := by decide +kernel
theorem dL_law_1190 : decode cL_law 1190 = .ok (.iconst 1, 1) := by decide +kernel
theorem dL_law_1191 : decode cL_law 1191 = .ok (.iadd, 1) := by decide +kernel
theorem dL_law_1192 : decode cL_law 1192 = .ok (.iaload, 1) := by decide +kernel
theorem dL_law_1193 : decode cL_law 1193 = .ok (.invokevirtual 161, 3) := by decide +kernel
theorem dL_law_1196 : decode cL_law 1196 = .ok (.dstore 7, 2) := by decide +kernel
theorem dL_law_1198 : decode cL_law 1198 = .ok (.aload_n 2, 1) := by decide +kernel
theorem dL_law_1199 : decode cL_law 1199 = .ok (.invokevirtual 87, 3) := by decide +kernel
theorem dL_law_1202 : decode cL_law 1202 = .ok (.iload 6, 2) := by decide +kernel
theorem dL_law_1204 : decode cL_law 1204 = .ok (.if_icmp .eq 5, 3) := by decide +kernel
theorem dL_law_1207 : decode cL_law 1207 = .ok (.iconst 0, 1) := by decide +kernel
theorem dL_law_1208 : decode cL_law 1208 = .ok (.ireturn, 1) := by decide +kernel
theorem dL_law_1209 : decode cL_law 1209 = .ok (.iload 6, 2) := by decide +kernel
theorem dL_law_1211 : decode cL_law 1211 = .ok (.ifCond .ne 35, 3) := by decide +kernel
theorem dL_law_1214 : decode cL_law 1214 = .ok (.aload 4, 2) := by decide +kernel
theorem dL_law_1216 : decode cL_law 1216 = .ok (.iconst 0, 1) := by decide +kernel
theorem dL_law_1217 : decode cL_law 1217 = .ok (.daload, 1) := by decide +kernel
theorem dL_law_1218 : decode cL_law 1218 = .ok (.dload 7, 2) := by decide +kernel
theorem dL_law_1220 : decode cL_law 1220 = .ok (.dcmp .l, 1) := by decide +kernel
theorem dL_law_1221 : decode cL_law 1221 = .ok (.ifCond .eq 25, 3) := by decide +kernel
theorem dL_law_1224 : decode cL_law 1224 = .ok (.aload 4, 2) := by decide +kernel
theorem dL_law_1226 : decode cL_law 1226 = .ok (.iconst 0, 1) := by decide +kernel
theorem dL_law_1227 : decode cL_law 1227 = .ok (.daload, 1) := by decide +kernel
theorem dL_law_1228 : decode cL_law 1228 = .ok (.aload 4, 2) := by decide +kernel
theorem dL_law_1230 : decode cL_law 1230 = .ok (.iconst 0, 1) := by decide +kernel
theorem dL_law_1231 : decode cL_law 1231 = .ok (.daload, 1) := by decide +kernel
theorem dL_law_1232 : decode cL_law 1232 = .ok (.dcmp .l, 1) := by decide +kernel
theorem dL_law_1233 : decode cL_law 1233 = .ok (.ifCond .eq 11, 3) := by decide +kernel
theorem dL_law_1236 : decode cL_law 1236 = .ok (.dload 7, 2) := by decide +kernel
theorem dL_law_1238 : decode cL_law 1238 = .ok (.dload 7, 2) := by decide +kernel
theorem dL_law_1240 : decode cL_law 1240 = .ok (.dcmp .l, 1) := by decide +kernel
theorem dL_law_1241 : decode cL_law 1241 = .ok (.ifCond .ne 5, 3) := by decide +kernel
theorem dL_law_1244 : decode cL_law 1244 = .ok (.iconst 0, 1) := by decide +kernel
theorem dL_law_1245 : decode cL_law 1245 = .ok (.ireturn, 1) := by decide +kernel
theorem dL_law_1246 : decode cL_law 1246 = .ok (.goto 205, 3) := by decide +kernel
theorem dL_law_1249 : decode cL_law 1249 = .ok (.aload_n 1, 1) := by decide +kernel
theorem dL_law_1250 : decode cL_law 1250 = .ok (.aload_n 0, 1) := by decide +kernel
theorem dL_law_1251 : decode cL_law 1251 = .ok (.iload 5, 2) := by decide +kernel
theorem dL_law_1253 : decode cL_law 1253 = .ok (.iconst 1, 1) := by decide +kernel
theorem dL_law_1254 : decode cL_law 1254 = .ok (.iadd, 1) := by decide +kernel
theorem dL_law_1255 : decode cL_law 1255 = .ok (.iaload, 1) := by decide +kernel
theorem dL_law_1256 : decode cL_law 1256 = .ok (.aload_n 3, 1) := by decide +kernel
theorem dL_law_1257 : decode cL_law 1257 = .ok (.invokestatic 162, 3) := by decide +kernel
theorem dL_law_1260 : decode cL_law 1260 = .ok (.istore 6, 2) := by decide +kernel
theorem dL_law_1262 : decode cL_law 1262 = .ok (.aload_n 2, 1) := by decide +kernel
theorem dL_law_1263 : decode cL_law 1263 = .ok (.aload_n 0, 1) := by decide +kernel
theorem dL_law_1264 : decode cL_law 1264 = .ok (.iload 5, 2) := by decide +kernel
theorem dL_law_1266 : decode cL_law 1266 = .ok (.iconst 1, 1) := by decide +kernel
theorem dL_law_1267 : decode cL_law 1267 = .ok (.iadd, 1) := by decide +kernel
theorem dL_law_1268 : decode cL_law 1268 = .ok (.iaload, 1) := by decide +kernel
theorem dL_law_1269 : decode cL_law 1269 = .ok (.invokevirtual 164, 3) := by decide +kernel
theorem dL_law_1272 : decode cL_law 1272 = .ok (.istore 7, 2) := by decide +kernel
theorem dL_law_1274 : decode cL_law 1274 = .ok (.aload_n 2, 1) := by decide +kernel
theorem dL_law_1275 : decode cL_law 1275 = .ok (.invokevirtual 87, 3) := by decide +kernel
theorem dL_law_1278 : decode cL_law 1278 = .ok (.iload 6, 2) := by decide +kernel
theorem dL_law_1280 : decode cL_law 1280 = .ok (.if_icmp .eq 5, 3) := by decide +kernel
theorem dL_law_1283 : decode cL_law 1283 = .ok (.iconst 0, 1) := by decide +kernel
theorem dL_law_1284 : decode cL_law 1284 = .ok (.ireturn, 1) := by decide +kernel
theorem dL_law_1285 : decode cL_law 1285 = .ok (.iload 6, 2) := by decide +kernel
theorem dL_law_1287 : decode cL_law 1287 = .ok (.ifCond .ne 15, 3) := by decide +kernel
theorem dL_law_1290 : decode cL_law 1290 = .ok (.aload_n 3, 1) := by decide +kernel
theorem dL_law_1291 : decode cL_law 1291 = .ok (.iconst 0, 1) := by decide +kernel
theorem dL_law_1292 : decode cL_law 1292 = .ok (.laload, 1) := by decide +kernel
theorem dL_law_1293 : decode cL_law 1293 = .ok (.iload 7, 2) := by decide +kernel
theorem dL_law_1295 : decode cL_law 1295 = .ok (.i2l, 1) := by decide +kernel
theorem dL_law_1296 : decode cL_law 1296 = .ok (.lcmp, 1) := by decide +kernel
theorem dL_law_1297 : decode cL_law 1297 = .ok (.ifCond .eq 5, 3) := by decide +kernel
theorem dL_law_1300 : decode cL_law 1300 = .ok (.iconst 0, 1) := by decide +kernel
theorem dL_law_1301 : decode cL_law 1301 = .ok (.ireturn, 1) := by decide +kernel
theorem dL_law_1302 : decode cL_law 1302 = .ok (.goto 149, 3) := by decide +kernel
theorem dL_law_1305 : decode cL_law 1305 = .ok (.aload_n 1, 1) := by decide +kernel
theorem dL_law_1306 : decode cL_law 1306 = .ok (.invokevirtual 165, 3) := by decide +kernel
theorem dL_law_1309 : decode cL_law 1309 = .ok (.aload_n 2, 1) := by decide +kernel
theorem dL_law_1310 : decode cL_law 1310 = .ok (.invokevirtual 168, 3) := by decide +kernel
theorem dL_law_1313 : decode cL_law 1313 = .ok (.if_icmp .eq 138, 3) := by decide +kernel
theorem dL_law_1316 : decode cL_law 1316 = .ok (.iconst 0, 1) := by decide +kernel
theorem dL_law_1317 : decode cL_law 1317 = .ok (.ireturn, 1) := by decide +kernel
theorem dL_law_1318 : decode cL_law 1318 = .ok (.aload_n 1, 1) := by decide +kernel
theorem dL_law_1319 : decode cL_law 1319 = .ok (.aload_n 0, 1) := by decide +kernel
theorem dL_law_1320 : decode cL_law 1320 = .ok (.iload 5, 2) := by decide +kernel
theorem dL_law_1322 : decode cL_law 1322 = .ok (.iconst 1, 1) := by decide +kernel
theorem dL_law_1323 : decode cL_law 1323 = .ok (.iadd, 1) := by decide +kernel
theorem dL_law_1324 : decode cL_law 1324 = .ok (.iaload, 1) := by decide +kernel
theorem dL_law_1325 : decode cL_law 1325 = .ok (.aload_n 3, 1) := by decide +kernel
theorem dL_law_1326 : decode cL_law 1326 = .ok (.invokestatic 169, 3) := by decide +kernel
theorem dL_law_1329 : decode cL_law 1329 = .ok (.istore 6, 2) := by decide +kernel
theorem dL_law_1331 : decode cL_law 1331 = .ok (.aload_n 2, 1) := by decide +kernel
theorem dL_law_1332 : decode cL_law 1332 = .ok (.aload_n 0, 1) := by decide +kernel
theorem dL_law_1333 : decode cL_law 1333 = .ok (.iload 5, 2) := by decide +kernel
theorem dL_law_1335 : decode cL_law 1335 = .ok (.iconst 1, 1) := by decide +kernel
theorem dL_law_1336 : decode cL_law 1336 = .ok (.iadd, 1) := by decide +kernel
theorem dL_law_1337 : decode cL_law 1337 = .ok (.iaload, 1) := by decide +kernel
theorem dL_law_1338 : decode cL_law 1338 = .ok (.invokevirtual 171, 3) := by decide +kernel
theorem dL_law_1341 : decode cL_law 1341 = .ok (.istore 7, 2) := by decide +kernel
theorem dL_law_1343 : decode cL_law 1343 = .ok (.aload_n 2, 1) := by decide +kernel
theorem dL_law_1344 : decode cL_law 1344 = .ok (.invokevirtual 87, 3) := by decide +kernel
theorem dL_law_1347 : decode cL_law 1347 = .ok (.iload 6, 2) := by decide +kernel
theorem dL_law_1349 : decode cL_law 1349 = .ok (.if_icmp .eq 5, 3) := by decide +kernel
theorem dL_law_1352 : decode cL_law 1352 = .ok (.iconst 0, 1) := by decide +kernel
theorem dL_law_1353 : decode cL_law 1353 = .ok (.ireturn, 1) := by decide +kernel
theorem dL_law_1354 : decode cL_law 1354 = .ok (.iload 6, 2) := by decide +kernel
theorem dL_law_1356 : decode cL_law 1356 = .ok (.ifCond .ne 15, 3) := by decide +kernel
theorem dL_law_1359 : decode cL_law 1359 = .ok (.aload_n 3, 1) := by decide +kernel
theorem dL_law_1360 : decode cL_law 1360 = .ok (.iconst 0, 1) := by decide +kernel
theorem dL_law_1361 : decode cL_law 1361 = .ok (.laload, 1) := by decide +kernel
theorem dL_law_1362 : decode cL_law 1362 = .ok (.iload 7, 2) := by decide +kernel
theorem dL_law_1364 : decode cL_law 1364 = .ok (.i2l, 1) := by decide +kernel
theorem dL_law_1365 : decode cL_law 1365 = .ok (.lcmp, 1) := by decide +kernel
theorem dL_law_1366 : decode cL_law 1366 = .ok (.ifCond .eq 5, 3) := by decide +kernel
theorem dL_law_1369 : decode cL_law 1369 = .ok (.iconst 0, 1) := by decide +kernel
theorem dL_law_1370 : decode cL_law 1370 = .ok (.ireturn, 1) := by decide +kernel
theorem dL_law_1371 : decode cL_law 1371 = .ok (.goto 80, 3) := by decide +kernel
theorem dL_law_1374 : decode cL_law 1374 = .ok (.aload_n 1, 1) := by decide +kernel
theorem dL_law_1375 : decode cL_law 1375 = .ok (.aload_n 0, 1) := by decide +kernel
theorem dL_law_1376 : decode cL_law 1376 = .ok (.iload 5, 2) := by decide +kernel
theorem dL_law_1378 : decode cL_law 1378 = .ok (.iconst 1, 1) := by decide +kernel
theorem dL_law_1379 : decode cL_law 1379 = .ok (.iadd, 1) := by decide +kernel
theorem dL_law_1380 : decode cL_law 1380 = .ok (.iaload, 1) := by decide +kernel
theorem dL_law_1381 : decode cL_law 1381 = .ok (.aload_n 3, 1) := by decide +kernel
theorem dL_law_1382 : decode cL_law 1382 = .ok (.invokestatic 172, 3) := by decide +kernel
theorem dL_law_1385 : decode cL_law 1385 = .ok (.istore 6, 2) := by decide +kernel
theorem dL_law_1387 : decode cL_law 1387 = .ok (.aload_n 2, 1) := by decide +kernel
theorem dL_law_1388 : decode cL_law 1388 = .ok (.aload_n 0, 1) := by decide +kernel
theorem dL_law_1389 : decode cL_law 1389 = .ok (.iload 5, 2) := by decide +kernel
theorem dL_law_1391 : decode cL_law 1391 = .ok (.iconst 1, 1) := by decide +kernel
theorem dL_law_1392 : decode cL_law 1392 = .ok (.iadd, 1) := by decide +kernel
theorem dL_law_1393 : decode cL_law 1393 = .ok (.iaload, 1) := by decide +kernel
theorem dL_law_1394 : decode cL_law 1394 = .ok (.invokevirtual 174, 3) := by decide +kernel
theorem dL_law_1397 : decode cL_law 1397 = .ok (.istore 7, 2) := by decide +kernel
theorem dL_law_1399 : decode cL_law 1399 = .ok (.aload_n 2, 1) := by decide +kernel
theorem dL_law_1400 : decode cL_law 1400 = .ok (.invokevirtual 87, 3) := by decide +kernel
theorem dL_law_1403 : decode cL_law 1403 = .ok (.iload 6, 2) := by decide +kernel
theorem dL_law_1405 : decode cL_law 1405 = .ok (.if_icmp .eq 5, 3) := by decide +kernel
theorem dL_law_1408 : decode cL_law 1408 = .ok (.iconst 0, 1) := by decide +kernel
theorem dL_law_1409 : decode cL_law 1409 = .ok (.ireturn, 1) := by decide +kernel
theorem dL_law_1410 : decode cL_law 1410 = .ok (.iload 6, 2) := by decide +kernel
theorem dL_law_1412 : decode cL_law 1412 = .ok (.ifCond .ne 22, 3) := by decide +kernel
theorem dL_law_1415 : decode cL_law 1415 = .ok (.aload_n 3, 1) := by decide +kernel
theorem dL_law_1416 : decode cL_law 1416 = .ok (.iconst 0, 1) := by decide +kernel
theorem dL_law_1417 : decode cL_law 1417 = .ok (.laload, 1) := by decide +kernel
theorem dL_law_1418 : decode cL_law 1418 = .ok (.iload 7, 2) := by decide +kernel
theorem dL_law_1420 : decode cL_law 1420 = .ok (.ifCond .eq 7, 3) := by decide +kernel
theorem dL_law_1423 : decode cL_law 1423 = .ok (.lconst 1, 1) := by decide +kernel
theorem dL_law_1424 : decode cL_law 1424 = .ok (.goto 4, 3) := by decide +kernel
theorem dL_law_1427 : decode cL_law 1427 = .ok (.lconst 0, 1) := by decide +kernel
theorem dL_law_1428 : decode cL_law 1428 = .ok (.lcmp, 1) := by decide +kernel
theorem dL_law_1429 : decode cL_law 1429 = .ok (.ifCond .eq 5, 3) := by decide +kernel
theorem dL_law_1432 : decode cL_law 1432 = .ok (.iconst 0, 1) := by decide +kernel
theorem dL_law_1433 : decode cL_law 1433 = .ok (.ireturn, 1) := by decide +kernel
theorem dL_law_1434 : decode cL_law 1434 = .ok (.goto 17, 3) := by decide +kernel
theorem dL_law_1437 : decode cL_law 1437 = .ok (.aload_n 1, 1) := by decide +kernel
theorem dL_law_1438 : decode cL_law 1438 = .ok (.invokevirtual 175, 3) := by decide +kernel
theorem dL_law_1441 : decode cL_law 1441 = .ok (.aload_n 2, 1) := by decide +kernel
theorem dL_law_1442 : decode cL_law 1442 = .ok (.invokevirtual 179, 3) := by decide +kernel
theorem dL_law_1445 : decode cL_law 1445 = .ok (.lcmp, 1) := by decide +kernel
theorem dL_law_1446 : decode cL_law 1446 = .ok (.ifCond .eq 5, 3) := by decide +kernel
theorem dL_law_1449 : decode cL_law 1449 = .ok (.iconst 0, 1) := by decide +kernel
theorem dL_law_1450 : decode cL_law 1450 = .ok (.ireturn, 1) := by decide +kernel
theorem dL_law_1451 : decode cL_law 1451 = .ok (.iinc 5 4, 3) := by decide +kernel
theorem dL_law_1454 : decode cL_law 1454 = .ok (.goto (-1426), 3) := by decide +kernel
theorem dL_law_1457 : decode cL_law 1457 = .ok (.iconst 1, 1) := by decide +kernel
theorem dL_law_1458 : decode cL_law 1458 = .ok (.ireturn, 1) := by decide +kernel
end
section
theorem g_shr0 (y : Int32) : (0 : Int32) >>> y = 0 := by
  apply Int32.toBitVec_inj.mp
  simp [Int32.toBitVec_shiftRight]
theorem g_and0 (y : Int32) : (0 : Int32) &&& y = 0 := Int32.zero_and
theorem g_and0r (y : Int32) : y &&& (0 : Int32) = 0 := Int32.and_zero
theorem g_ushr0 (y : Int32) : ((0 : Int32).toUInt32 >>> (y.toUInt32 &&& Int32.toUInt32 31)).toInt32 = 0 := by
  have h : (0 : Int32).toUInt32 >>> (y.toUInt32 &&& Int32.toUInt32 31) = 0 := by
    apply UInt32.toBitVec_inj.mp
    simp [UInt32.toBitVec_shiftRight]
  rw [h]
  rfl
/-- a literal, a set, as arguments -/
def gLit (x : Int32) : Prop := ¬ x < 0 ∧ x < 16
def gSet (x : Int32) : Prop := ¬ x < 0 ∧ x ≤ 65535
def gNil (x : Int32) : Prop := ¬ x < 0 ∧ x < 1
/-- the complements of a set, as the class has them -/
def gComp (x : Int32) : Int32 := ((x &&& 255) <<< ((8 : Int32) &&& 31)) ||| ((x.toUInt32 >>> ((8 : Int32).toUInt32 &&& Int32.toUInt32 31)).toInt32 &&& 255)
/-- .. and as the reference has them -/
def gCompM (x : Int32) : Int32 := (x >>> ((8 : Int32) &&& 31)) ||| ((x &&& 255) <<< ((8 : Int32) &&& 31))
/-- the closure without rules -/
def gClo (x : Int32) : Int32 := if x &&& gComp x = 0 then x else 65535
def gCloM (x : Int32) : Int32 := if x &&& gCompM x = 0 then x else 65535
end
section
set_option maxHeartbeats 4000000 in
set_option maxRecDepth 100000 in
theorem c_X2_thrown (l : Launch) (g : gG) (sz : Nat) (mm : Nat) (t : Int32) (fs : List Value) : gMi l yX2_thrown wsX2_thrown ({ frames := 0, cells := 0, slots := 0, locals := 0 } : Room) g [.ref mm] [(mm, .inr (2, .int t :: fs))] sz (fun (r : Int32) (u : Unit) => r = t) (fun (u : Unit) => [(mm, .inr (2, .int t :: fs))]) 0 0 := by
  refine g_of (l := l) (y := yX2_thrown) (wy := wsX2_thrown) (rm := ({ frames := 0, cells := 0, slots := 0, locals := 0 } : Room)) (g := g) (av := [.ref mm]) (ws := [(mm, .inr (2, .int t :: fs))]) (sz := sz) (mc := 0) (ms := 0) (Qc := fun A => va_Qi (fun (r : Int32) (u : Unit) => r = t) (fun u t9 => gPost g A ((fun (u : Unit) => [(mm, .inr (2, .int t :: fs))]) u) t9) A) (cc := cX2_thrown) (maxL := 1) (ret := some .int) (by decide) rfl (Nat.le_of_ble_eq_true rfl) ?_
  intro p e s m below meth c A ls hx hb hr hml hown hts hlocks hnm hA hK hE hP hD hS hl
  have hl : lv_has ls 1 [(0, .ref mm)] := hl
  have hown : s.vm.findClass RX2 = some m.cls := hown
  have hP : va_P g.1 vwCl [(mm, .inr (2, .int t :: fs))] s.heap := hP
  have hinX2 : ∀ w ∈ u_ws RX2 TX2 15, w ∈ wsX2_thrown := by decide +kernel
  refine lv_aload_n hx hb dX2_thrown_0 rfl (lv_at hl 0 rfl) ?_
  refine va_get (D := g.1) (ci := 2) (v := .int t) (C := RX2) (T := TX2) (N := 15) hx hb hts hinX2 hown hK hP 0 rfl rfl 0 (by decide) (hts (.fieldLink RX2 38 "DefaultReasonerModel" "thrown" "I") (by decide +kernel)) (fun _ h9 => h9) rfl dX2_thrown_1 ?_
  exact g_ir hx hb hr hlocks hP hD hS () [0] rfl (by decide) rfl dX2_thrown_4 (Nat.le_of_ble_eq_true rfl) (Nat.le_of_ble_eq_true rfl) (rfl)
set_option maxHeartbeats 4000000 in
set_option maxRecDepth 100000 in
theorem c_X2_isLiteral (l : Launch) (g : gG) (sz : Nat) (x : Int32) : gMi l yX2_isLiteral wsX2_isLiteral ({ frames := 0, cells := 0, slots := 0, locals := 0 } : Room) g [.int x] [] sz (fun (r : Int32) (u : Unit) => r = 1 ∧ gLit x ∨ r = 0 ∧ ¬ gLit x) (fun (u : Unit) => []) 0 0 := by
  refine g_of (l := l) (y := yX2_isLiteral) (wy := wsX2_isLiteral) (rm := ({ frames := 0, cells := 0, slots := 0, locals := 0 } : Room)) (g := g) (av := [.int x]) (ws := []) (sz := sz) (mc := 0) (ms := 0) (Qc := fun A => va_Qi (fun (r : Int32) (u : Unit) => r = 1 ∧ gLit x ∨ r = 0 ∧ ¬ gLit x) (fun u t9 => gPost g A ((fun (u : Unit) => []) u) t9) A) (cc := cX2_isLiteral) (maxL := 1) (ret := some .boolean) (by decide) rfl (Nat.le_of_ble_eq_true rfl) ?_
  intro p e s m below meth c A ls hx hb hr hml hown hts hlocks hnm hA hK hE hP hD hS hl
  have hl : lv_has ls 1 [(0, .int x)] := hl
  have hown : s.vm.findClass RX2 = some m.cls := hown
  have hP : va_P g.1 vwCl [] s.heap := hP
  refine lv_iload_n hx hb dX2_isLiteral_0 rfl (lv_at hl 0 rfl) ?_
  refine lv_if_lt (tgt := 14) hx hb dX2_isLiteral_1 (by decide) (fun c1 => ?_) (fun c1 => ?_)
  · refine lv_iconst (v := 0) hx hb dX2_isLiteral_14 (by decide) ?_
    exact g_zr hx hb hr hlocks hP hD hS () [] rfl (by decide) rfl dX2_isLiteral_15 (Nat.le_of_ble_eq_true rfl) (Nat.le_of_ble_eq_true rfl) (Or.inl rfl) (Or.inr ⟨rfl, fun h => h.1 c1⟩)
  · refine lv_iload_n hx hb dX2_isLiteral_4 rfl (lv_at hl 0 rfl) ?_
    refine lv_bipush (v := 16) hx hb dX2_isLiteral_5 (by decide) ?_
    refine lv_icmp_ge (tgt := 14) hx hb dX2_isLiteral_7 (by decide) (fun c7 => ?_) (fun c7 => ?_)
    · refine lv_iconst (v := 0) hx hb dX2_isLiteral_14 (by decide) ?_
      exact g_zr hx hb hr hlocks hP hD hS () [] rfl (by decide) rfl dX2_isLiteral_15 (Nat.le_of_ble_eq_true rfl) (Nat.le_of_ble_eq_true rfl) (Or.inl rfl) (Or.inr ⟨rfl, fun h => Int32.not_le.mpr h.2 c7⟩)
    · refine lv_iconst (v := 1) hx hb dX2_isLiteral_10 (by decide) ?_
      refine lv_goto (tgt := 15) hx hb dX2_isLiteral_11 (by decide) ?_
      exact g_zr hx hb hr hlocks hP hD hS () [] rfl (by decide) rfl dX2_isLiteral_15 (Nat.le_of_ble_eq_true rfl) (Nat.le_of_ble_eq_true rfl) (Or.inr rfl) (Or.inl ⟨rfl, c1, Int32.not_le.mp c7⟩)
set_option maxHeartbeats 4000000 in
set_option maxRecDepth 100000 in
theorem c_X2_isSet (l : Launch) (g : gG) (sz : Nat) (x : Int32) : gMi l yX2_isSet wsX2_isSet ({ frames := 0, cells := 0, slots := 0, locals := 0 } : Room) g [.int x] [] sz (fun (r : Int32) (u : Unit) => r = 1 ∧ gSet x ∨ r = 0 ∧ ¬ gSet x) (fun (u : Unit) => []) 0 0 := by
  refine g_of (l := l) (y := yX2_isSet) (wy := wsX2_isSet) (rm := ({ frames := 0, cells := 0, slots := 0, locals := 0 } : Room)) (g := g) (av := [.int x]) (ws := []) (sz := sz) (mc := 0) (ms := 0) (Qc := fun A => va_Qi (fun (r : Int32) (u : Unit) => r = 1 ∧ gSet x ∨ r = 0 ∧ ¬ gSet x) (fun u t9 => gPost g A ((fun (u : Unit) => []) u) t9) A) (cc := cX2_isSet) (maxL := 1) (ret := some .boolean) (by decide) rfl (Nat.le_of_ble_eq_true rfl) ?_
  intro p e s m below meth c A ls hx hb hr hml hown hts hlocks hnm hA hK hE hP hD hS hl
  have hl : lv_has ls 1 [(0, .int x)] := hl
  have hown : s.vm.findClass RX2 = some m.cls := hown
  have hP : va_P g.1 vwCl [] s.heap := hP
  refine lv_iload_n hx hb dX2_isSet_0 rfl (lv_at hl 0 rfl) ?_
  refine lv_if_lt (tgt := 14) hx hb dX2_isSet_1 (by decide) (fun c1 => ?_) (fun c1 => ?_)
  · refine lv_iconst (v := 0) hx hb dX2_isSet_14 (by decide) ?_
    exact g_zr hx hb hr hlocks hP hD hS () [] rfl (by decide) rfl dX2_isSet_15 (Nat.le_of_ble_eq_true rfl) (Nat.le_of_ble_eq_true rfl) (Or.inl rfl) (Or.inr ⟨rfl, fun h => h.1 c1⟩)
  · refine lv_iload_n hx hb dX2_isSet_4 rfl (lv_at hl 0 rfl) ?_
    refine lv_ldc (v := 65535) hx hb hown (hts (.constant RX2 42 (65535)) (by decide +kernel)) dX2_isSet_5 ?_
    refine lv_icmp_gt (tgt := 14) hx hb dX2_isSet_7 (by decide) (fun c7 => ?_) (fun c7 => ?_)
    · refine lv_iconst (v := 0) hx hb dX2_isSet_14 (by decide) ?_
      exact g_zr hx hb hr hlocks hP hD hS () [] rfl (by decide) rfl dX2_isSet_15 (Nat.le_of_ble_eq_true rfl) (Nat.le_of_ble_eq_true rfl) (Or.inl rfl) (Or.inr ⟨rfl, fun h => Int32.not_lt.mpr h.2 c7⟩)
    · refine lv_iconst (v := 1) hx hb dX2_isSet_10 (by decide) ?_
      refine lv_goto (tgt := 15) hx hb dX2_isSet_11 (by decide) ?_
      exact g_zr hx hb hr hlocks hP hD hS () [] rfl (by decide) rfl dX2_isSet_15 (Nat.le_of_ble_eq_true rfl) (Nat.le_of_ble_eq_true rfl) (Or.inr rfl) (Or.inl ⟨rfl, c1, Int32.not_lt.mp c7⟩)
set_option maxHeartbeats 4000000 in
set_option maxRecDepth 100000 in
theorem c_X2_complements (l : Launch) (g : gG) (sz : Nat) (x : Int32) : gMi l yX2_complements wsX2_complements ({ frames := 0, cells := 0, slots := 0, locals := 0 } : Room) g [.int x] [] sz (fun (r : Int32) (u : Unit) => r = gCompM x) (fun (u : Unit) => []) 0 0 := by
  refine g_of (l := l) (y := yX2_complements) (wy := wsX2_complements) (rm := ({ frames := 0, cells := 0, slots := 0, locals := 0 } : Room)) (g := g) (av := [.int x]) (ws := []) (sz := sz) (mc := 0) (ms := 0) (Qc := fun A => va_Qi (fun (r : Int32) (u : Unit) => r = gCompM x) (fun u t9 => gPost g A ((fun (u : Unit) => []) u) t9) A) (cc := cX2_complements) (maxL := 1) (ret := some .int) (by decide) rfl (Nat.le_of_ble_eq_true rfl) ?_
  intro p e s m below meth c A ls hx hb hr hml hown hts hlocks hnm hA hK hE hP hD hS hl
  have hl : lv_has ls 1 [(0, .int x)] := hl
  have hown : s.vm.findClass RX2 = some m.cls := hown
  have hP : va_P g.1 vwCl [] s.heap := hP
  refine lv_iload_n hx hb dX2_complements_0 rfl (lv_at hl 0 rfl) ?_
  refine lv_bipush (v := 8) hx hb dX2_complements_1 (by decide) ?_
  refine lv_ishr hx hb dX2_complements_3 ?_
  refine lv_topi (fun v1 ev1 => ?_)
  refine lv_iload_n hx hb dX2_complements_4 rfl (lv_at hl 0 rfl) ?_
  refine lv_sipush (v := 255) hx hb dX2_complements_5 (by decide) ?_
  refine lv_iand hx hb dX2_complements_8 ?_
  refine lv_topi (fun v2 ev2 => ?_)
  refine lv_bipush (v := 8) hx hb dX2_complements_9 (by decide) ?_
  refine lv_ishl hx hb dX2_complements_11 ?_
  refine lv_topi (fun v3 ev3 => ?_)
  refine lv_ior hx hb dX2_complements_12 ?_
  refine lv_topi (fun v4 ev4 => ?_)
  exact g_ir hx hb hr hlocks hP hD hS () [] rfl (by decide) rfl dX2_complements_13 (Nat.le_of_ble_eq_true rfl) (Nat.le_of_ble_eq_true rfl) (by subst ev1; subst ev2; subst ev3; subst ev4; rfl)
set_option maxHeartbeats 4000000 in
set_option maxRecDepth 100000 in
theorem c_X2_fail (l : Launch) (g : gG) (sz : Nat) (mm : Nat) (b : Nat → Nat) (t n : Int32) (x : Int32) : gMi l yX2_fail wsX2_fail ({ frames := 0, cells := 0, slots := 0, locals := 0 } : Room) g [.ref mm, .int x] [(mm, .inr (2, [.int t, .int 0, .int 0, .ref (b 3), .ref (b 4), .int 0, .ref (b 6), .ref (b 7), .ref (b 8), .ref (b 9), .int 0, .ref (b 11), .int n, .ref (b 13), .ref (b 14)]))] sz (fun (r : Int32) (u : Unit) => r = 0) (fun (u : Unit) => [(mm, .inr (2, [.int x, .int 0, .int 0, .ref (b 3), .ref (b 4), .int 0, .ref (b 6), .ref (b 7), .ref (b 8), .ref (b 9), .int 0, .ref (b 11), .int n, .ref (b 13), .ref (b 14)]))]) 0 0 := by
  refine g_of (l := l) (y := yX2_fail) (wy := wsX2_fail) (rm := ({ frames := 0, cells := 0, slots := 0, locals := 0 } : Room)) (g := g) (av := [.ref mm, .int x]) (ws := [(mm, .inr (2, [.int t, .int 0, .int 0, .ref (b 3), .ref (b 4), .int 0, .ref (b 6), .ref (b 7), .ref (b 8), .ref (b 9), .int 0, .ref (b 11), .int n, .ref (b 13), .ref (b 14)]))]) (sz := sz) (mc := 0) (ms := 0) (Qc := fun A => va_Qi (fun (r : Int32) (u : Unit) => r = 0) (fun u t9 => gPost g A ((fun (u : Unit) => [(mm, .inr (2, [.int x, .int 0, .int 0, .ref (b 3), .ref (b 4), .int 0, .ref (b 6), .ref (b 7), .ref (b 8), .ref (b 9), .int 0, .ref (b 11), .int n, .ref (b 13), .ref (b 14)]))]) u) t9) A) (cc := cX2_fail) (maxL := 2) (ret := some .int) (by decide) rfl (Nat.le_of_ble_eq_true rfl) ?_
  intro p e s m below meth c A ls hx hb hr hml hown hts hlocks hnm hA hK hE hP hD hS hl
  have hl : lv_has ls 2 [(0, .ref mm), (1, .int x)] := hl
  have hown : s.vm.findClass RX2 = some m.cls := hown
  have hP : va_P g.1 vwCl [(mm, .inr (2, [.int t, .int 0, .int 0, .ref (b 3), .ref (b 4), .int 0, .ref (b 6), .ref (b 7), .ref (b 8), .ref (b 9), .int 0, .ref (b 11), .int n, .ref (b 13), .ref (b 14)]))] s.heap := hP
  have hinX2 : ∀ w ∈ u_ws RX2 TX2 15, w ∈ wsX2_fail := by decide +kernel
  refine lv_aload_n hx hb dX2_fail_0 rfl (lv_at hl 0 rfl) ?_
  refine lv_iload_n hx hb dX2_fail_1 rfl (lv_at hl 1 rfl) ?_
  refine va_put (D := g.1) (ci := 2) (v := .int x) (ty := .int) (C := RX2) (T := TX2) (N := 15) hx hb hts hinX2 tyX2 tyX2_ok nmX2 hown hK hP hD hS 0 rfl rfl 0 (by decide) (hts (.fieldLink RX2 38 "DefaultReasonerModel" "thrown" "I") (by decide +kernel)) (fun _ h9 => h9) rfl (by decide +kernel) rfl rfl (Nat.le_of_ble_eq_true rfl) dX2_fail_2 (fun H locs hP hD hS => ?_)
  have hP : va_P g.1 vwCl [(mm, .inr (2, [.int x, .int 0, .int 0, .ref (b 3), .ref (b 4), .int 0, .ref (b 6), .ref (b 7), .ref (b 8), .ref (b 9), .int 0, .ref (b 11), .int n, .ref (b 13), .ref (b 14)]))] H := hP
  have hD : va_D A [(mm, .inr (2, [.int x, .int 0, .int 0, .ref (b 3), .ref (b 4), .int 0, .ref (b 6), .ref (b 7), .ref (b 8), .ref (b 9), .int 0, .ref (b 11), .int n, .ref (b 13), .ref (b 14)]))] := hD
  refine lv_iconst (v := 0) hx hb dX2_fail_5 (by decide) ?_
  exact g_ir hx hb hr hlocks hP hD hS () [0] rfl (by decide) rfl dX2_fail_6 (Nat.le_of_ble_eq_true rfl) (Nat.le_of_ble_eq_true rfl) (rfl)
set_option maxHeartbeats 4000000 in
set_option maxRecDepth 100000 in
theorem c_X2_isDefault (l : Launch) (g : gG) (sz : Nat) (mm : Nat) (b : Nat → Nat) (t n : Int32) (x : Int32) : gMi l yX2_isDefault wsX2_isDefault ({ frames := 0, cells := 0, slots := 0, locals := 0 } : Room) g [.ref mm, .int x] [(mm, .inr (2, [.int t, .int 0, .int 0, .ref (b 3), .ref (b 4), .int 0, .ref (b 6), .ref (b 7), .ref (b 8), .ref (b 9), .int 0, .ref (b 11), .int n, .ref (b 13), .ref (b 14)]))] sz (fun (r : Int32) (u : Unit) => r = 0) (fun (u : Unit) => [(mm, .inr (2, [.int t, .int 0, .int 0, .ref (b 3), .ref (b 4), .int 0, .ref (b 6), .ref (b 7), .ref (b 8), .ref (b 9), .int 0, .ref (b 11), .int n, .ref (b 13), .ref (b 14)]))]) 0 0 := by
  refine g_of (l := l) (y := yX2_isDefault) (wy := wsX2_isDefault) (rm := ({ frames := 0, cells := 0, slots := 0, locals := 0 } : Room)) (g := g) (av := [.ref mm, .int x]) (ws := [(mm, .inr (2, [.int t, .int 0, .int 0, .ref (b 3), .ref (b 4), .int 0, .ref (b 6), .ref (b 7), .ref (b 8), .ref (b 9), .int 0, .ref (b 11), .int n, .ref (b 13), .ref (b 14)]))]) (sz := sz) (mc := 0) (ms := 0) (Qc := fun A => va_Qi (fun (r : Int32) (u : Unit) => r = 0) (fun u t9 => gPost g A ((fun (u : Unit) => [(mm, .inr (2, [.int t, .int 0, .int 0, .ref (b 3), .ref (b 4), .int 0, .ref (b 6), .ref (b 7), .ref (b 8), .ref (b 9), .int 0, .ref (b 11), .int n, .ref (b 13), .ref (b 14)]))]) u) t9) A) (cc := cX2_isDefault) (maxL := 2) (ret := some .boolean) (by decide) rfl (Nat.le_of_ble_eq_true rfl) ?_
  intro p e s m below meth c A ls hx hb hr hml hown hts hlocks hnm hA hK hE hP hD hS hl
  have hl : lv_has ls 2 [(0, .ref mm), (1, .int x)] := hl
  have hown : s.vm.findClass RX2 = some m.cls := hown
  have hP : va_P g.1 vwCl [(mm, .inr (2, [.int t, .int 0, .int 0, .ref (b 3), .ref (b 4), .int 0, .ref (b 6), .ref (b 7), .ref (b 8), .ref (b 9), .int 0, .ref (b 11), .int n, .ref (b 13), .ref (b 14)]))] s.heap := hP
  have hinX2 : ∀ w ∈ u_ws RX2 TX2 15, w ∈ wsX2_isDefault := by decide +kernel
  refine lv_iload_n hx hb dX2_isDefault_0 rfl (lv_at hl 1 rfl) ?_
  refine lv_if_lt (tgt := 16) hx hb dX2_isDefault_1 (by decide) (fun c1 => ?_) (fun c1 => ?_)
  · refine lv_iconst (v := 0) hx hb dX2_isDefault_16 (by decide) ?_
    exact g_zr hx hb hr hlocks hP hD hS () [0] rfl (by decide) rfl dX2_isDefault_17 (Nat.le_of_ble_eq_true rfl) (Nat.le_of_ble_eq_true rfl) (Or.inl rfl) (rfl)
  · refine lv_iload_n hx hb dX2_isDefault_4 rfl (lv_at hl 1 rfl) ?_
    refine lv_aload_n hx hb dX2_isDefault_5 rfl (lv_at hl 0 rfl) ?_
    refine va_get (D := g.1) (ci := 2) (v := .int 0) (C := RX2) (T := TX2) (N := 15) hx hb hts hinX2 hown hK hP 0 rfl rfl 5 (by decide) (hts (.fieldLink RX2 43 "DefaultReasonerModel" "defaults" "I") (by decide +kernel)) (fun _ h9 => h9) rfl dX2_isDefault_6 ?_
    refine lv_icmp_ge (tgt := 16) hx hb dX2_isDefault_9 (by decide) (fun c9 => ?_) (fun c9 => False.elim (c9 (Int32.not_lt.mp c1)))
    refine lv_iconst (v := 0) hx hb dX2_isDefault_16 (by decide) ?_
    exact g_zr hx hb hr hlocks hP hD hS () [0] rfl (by decide) rfl dX2_isDefault_17 (Nat.le_of_ble_eq_true rfl) (Nat.le_of_ble_eq_true rfl) (Or.inl rfl) (rfl)
set_option maxHeartbeats 4000000 in
set_option maxRecDepth 100000 in
theorem c_X2_close (l : Launch) (g : gG) (sz : Nat) (mm : Nat) (b : Nat → Nat) (t n : Int32) (x : Int32) : (gSet x) → gMi l yX2_close wsX2_close ({ frames := 1, cells := 0, slots := 0, locals := 20 } : Room) g [.ref mm, .int x] [(mm, .inr (2, [.int t, .int 0, .int 0, .ref (b 3), .ref (b 4), .int 0, .ref (b 6), .ref (b 7), .ref (b 8), .ref (b 9), .int 0, .ref (b 11), .int n, .ref (b 13), .ref (b 14)]))] sz (fun (r : Int32) (u : Unit) => r = gCloM x) (fun (u : Unit) => [(mm, .inr (2, [.int t, .int 0, .int 0, .ref (b 3), .ref (b 4), .int 0, .ref (b 6), .ref (b 7), .ref (b 8), .ref (b 9), .int 0, .ref (b 11), .int n, .ref (b 13), .ref (b 14)]))]) 0 0 := by
  intro hy0
  refine g_of (l := l) (y := yX2_close) (wy := wsX2_close) (rm := ({ frames := 1, cells := 0, slots := 0, locals := 20 } : Room)) (g := g) (av := [.ref mm, .int x]) (ws := [(mm, .inr (2, [.int t, .int 0, .int 0, .ref (b 3), .ref (b 4), .int 0, .ref (b 6), .ref (b 7), .ref (b 8), .ref (b 9), .int 0, .ref (b 11), .int n, .ref (b 13), .ref (b 14)]))]) (sz := sz) (mc := 0) (ms := 0) (Qc := fun A => va_Qi (fun (r : Int32) (u : Unit) => r = gCloM x) (fun u t9 => gPost g A ((fun (u : Unit) => [(mm, .inr (2, [.int t, .int 0, .int 0, .ref (b 3), .ref (b 4), .int 0, .ref (b 6), .ref (b 7), .ref (b 8), .ref (b 9), .int 0, .ref (b 11), .int n, .ref (b 13), .ref (b 14)]))]) u) t9) A) (cc := cX2_close) (maxL := 5) (ret := some .int) (by decide) rfl (Nat.le_of_ble_eq_true rfl) ?_
  intro p e s m below meth c A ls hx hb hr hml hown hts hlocks hnm hA hK hE hP hD hS hl
  have hl : lv_has ls 5 [(0, .ref mm), (1, .int x)] := hl
  have hown : s.vm.findClass RX2 = some m.cls := hown
  have hP : va_P g.1 vwCl [(mm, .inr (2, [.int t, .int 0, .int 0, .ref (b 3), .ref (b 4), .int 0, .ref (b 6), .ref (b 7), .ref (b 8), .ref (b 9), .int 0, .ref (b 11), .int n, .ref (b 13), .ref (b 14)]))] s.heap := hP
  have hinX2 : ∀ w ∈ u_ws RX2 TX2 15, w ∈ wsX2_close := by decide +kernel
  refine lv_iload_n hx hb dX2_close_0 rfl (lv_at hl 1 rfl) ?_
  refine lv_istore_n (lv' := [(2, .int x), (0, .ref mm), (1, .int x)]) hx hb dX2_close_1 rfl hl (by decide) rfl (fun ls hl => ?_)
  refine lv_iconst (v := (-1)) hx hb dX2_close_2 (by decide) ?_
  refine lv_istore_n (lv' := [(3, .int (-1)), (2, .int x), (0, .ref mm), (1, .int x)]) hx hb dX2_close_3 rfl hl (by decide) rfl (fun ls hl => ?_)
  refine lv_iload_n hx hb dX2_close_4 rfl (lv_at hl 1 rfl) ?_
  refine lv_iload_n hx hb dX2_close_5 rfl (lv_at hl 0 rfl) ?_
  refine lv_icmp_eq (tgt := 58) hx hb dX2_close_6 (by decide) (fun c6 => False.elim (hy0.1 (by rw [c6]; decide))) (fun c6 => ?_)
  refine lv_iload_n hx hb dX2_close_9 rfl (lv_at hl 1 rfl) ?_
  refine lv_istore_n (lv' := [(3, .int x), (2, .int x), (0, .ref mm), (1, .int x)]) hx hb dX2_close_10 rfl hl (by decide) rfl (fun ls hl => ?_)
  refine lv_iconst (v := 0) hx hb dX2_close_11 (by decide) ?_
  refine lv_istore (lv' := [(4, .int 0), (3, .int x), (2, .int x), (0, .ref mm), (1, .int x)]) hx hb dX2_close_12 hl (by decide) rfl (fun ls hl => ?_)
  refine lv_iload hx hb dX2_close_14 (lv_at hl 0 rfl) ?_
  refine lv_aload_n hx hb dX2_close_16 rfl (lv_at hl 3 rfl) ?_
  refine va_get (D := g.1) (ci := 2) (v := .int 0) (C := RX2) (T := TX2) (N := 15) hx hb hts hinX2 hown hK hP 0 rfl rfl 2 (by decide) (hts (.fieldLink RX2 60 "DefaultReasonerModel" "rules" "I") (by decide +kernel)) (fun _ h9 => h9) rfl dX2_close_17 ?_
  refine lv_icmp_ge (tgt := 55) hx hb dX2_close_20 (by decide) (fun _ => ?_) (fun c9 => absurd (by decide) c9)
  refine lv_goto (tgt := 4) hx hb dX2_close_55 (by decide) ?_
  refine lv_iload_n hx hb dX2_close_4 rfl (lv_at hl 2 rfl) ?_
  refine lv_iload_n hx hb dX2_close_5 rfl (lv_at hl 1 rfl) ?_
  refine lv_icmp_eq (tgt := 58) hx hb dX2_close_6 (by decide) (fun _ => ?_) (fun c9 => absurd rfl c9)
  refine lv_iload_n hx hb dX2_close_58 rfl (lv_at hl 2 rfl) ?_
  refine lv_iload_n hx hb dX2_close_59 rfl (lv_at hl 2 rfl) ?_
  refine gj_i (wc := []) (wr := [(mm, .inr (2, [.int t, .int 0, .int 0, .ref (b 3), .ref (b 4), .int 0, .ref (b 6), .ref (b 7), .ref (b 8), .ref (b 9), .int 0, .ref (b 11), .int n, .ref (b 13), .ref (b 14)]))]) (gr_S (n := 1) ⟨hx, hb, hml, hown, hts⟩ (c_X2_complements l g s.heap.size x) gX2_close_X2_complements rfl rfl rfl (by decide +kernel) ⟨Nat.le_of_ble_eq_true rfl, Nat.le_of_ble_eq_true rfl⟩ (gp_S hK hE hA hP hD hS [] rfl (by decide) rfl) rfl hl.1 rfl (Nat.le_of_ble_eq_true rfl) dX2_close_60 ⟨Nat.le_of_ble_eq_true rfl, Nat.le_of_ble_eq_true rfl⟩) hP hD hS hA [] [0] rfl rfl (by decide) (by decide) (fun r1 u1 H locs hp1 hP hD hS => ?_)
  have hP : va_P g.1 vwCl [(mm, .inr (2, [.int t, .int 0, .int 0, .ref (b 3), .ref (b 4), .int 0, .ref (b 6), .ref (b 7), .ref (b 8), .ref (b 9), .int 0, .ref (b 11), .int n, .ref (b 13), .ref (b 14)]))] H := hP
  have hD : va_D A [(mm, .inr (2, [.int t, .int 0, .int 0, .ref (b 3), .ref (b 4), .int 0, .ref (b 6), .ref (b 7), .ref (b 8), .ref (b 9), .int 0, .ref (b 11), .int n, .ref (b 13), .ref (b 14)]))] := hD
  have hp1 : r1 = gCompM x := hp1
  subst hp1
  refine lv_iand hx hb dX2_close_63 ?_
  refine lv_topi (fun v2 ev2 => ?_)
  refine lv_if_ne (tgt := 71) hx hb dX2_close_64 (by decide) (fun c64 => ?_) (fun c64 => ?_)
  · refine lv_ldc (v := 65535) hx hb hown (hts (.constant RX2 42 (65535)) (by decide +kernel)) dX2_close_71 ?_
    exact g_ir hx hb hr hlocks hP hD hS () [0] rfl (by decide) rfl dX2_close_73 (Nat.le_of_ble_eq_true rfl) (Nat.le_of_ble_eq_true rfl) (by subst ev2; unfold gCloM; rw [if_neg c64])
  · refine lv_iload_n hx hb dX2_close_67 rfl (lv_at hl 2 rfl) ?_
    refine lv_goto (tgt := 73) hx hb dX2_close_68 (by decide) ?_
    exact g_ir hx hb hr hlocks hP hD hS () [0] rfl (by decide) rfl dX2_close_73 (Nat.le_of_ble_eq_true rfl) (Nat.le_of_ble_eq_true rfl) (by subst ev2; unfold gCloM; rw [if_pos c64])
set_option maxHeartbeats 4000000 in
set_option maxRecDepth 100000 in
theorem c_X2_consequences (l : Launch) (g : gG) (sz : Nat) (mm : Nat) (b : Nat → Nat) (t n : Int32) (x : Int32) : gMi l yX2_consequences wsX2_consequences ({ frames := 2, cells := 0, slots := 0, locals := 44 } : Room) g [.ref mm, .int x] [(mm, .inr (2, [.int t, .int 0, .int 0, .ref (b 3), .ref (b 4), .int 0, .ref (b 6), .ref (b 7), .ref (b 8), .ref (b 9), .int 0, .ref (b 11), .int n, .ref (b 13), .ref (b 14)]))] sz (fun (r : Int32) (u : Unit) => r = 0) (fun (u : Unit) => [(mm, .inr (2, [.int t, .int 0, .int 0, .ref (b 3), .ref (b 4), .int 0, .ref (b 6), .ref (b 7), .ref (b 8), .ref (b 9), .int 0, .ref (b 11), .int n, .ref (b 13), .ref (b 14)]))]) 0 0 := by
  refine g_of (l := l) (y := yX2_consequences) (wy := wsX2_consequences) (rm := ({ frames := 2, cells := 0, slots := 0, locals := 44 } : Room)) (g := g) (av := [.ref mm, .int x]) (ws := [(mm, .inr (2, [.int t, .int 0, .int 0, .ref (b 3), .ref (b 4), .int 0, .ref (b 6), .ref (b 7), .ref (b 8), .ref (b 9), .int 0, .ref (b 11), .int n, .ref (b 13), .ref (b 14)]))]) (sz := sz) (mc := 0) (ms := 0) (Qc := fun A => va_Qi (fun (r : Int32) (u : Unit) => r = 0) (fun u t9 => gPost g A ((fun (u : Unit) => [(mm, .inr (2, [.int t, .int 0, .int 0, .ref (b 3), .ref (b 4), .int 0, .ref (b 6), .ref (b 7), .ref (b 8), .ref (b 9), .int 0, .ref (b 11), .int n, .ref (b 13), .ref (b 14)]))]) u) t9) A) (cc := cX2_consequences) (maxL := 4) (ret := some .int) (by decide) rfl (Nat.le_of_ble_eq_true rfl) ?_
  intro p e s m below meth c A ls hx hb hr hml hown hts hlocks hnm hA hK hE hP hD hS hl
  have hl : lv_has ls 4 [(0, .ref mm), (1, .int x)] := hl
  have hown : s.vm.findClass RX2 = some m.cls := hown
  have hP : va_P g.1 vwCl [(mm, .inr (2, [.int t, .int 0, .int 0, .ref (b 3), .ref (b 4), .int 0, .ref (b 6), .ref (b 7), .ref (b 8), .ref (b 9), .int 0, .ref (b 11), .int n, .ref (b 13), .ref (b 14)]))] s.heap := hP
  have hinX2 : ∀ w ∈ u_ws RX2 TX2 15, w ∈ wsX2_consequences := by decide +kernel
  refine lv_aload_n hx hb dX2_consequences_0 rfl (lv_at hl 0 rfl) ?_
  refine va_get (D := g.1) (ci := 2) (v := .int 0) (C := RX2) (T := TX2) (N := 15) hx hb hts hinX2 hown hK hP 0 rfl rfl 1 (by decide) (hts (.fieldLink RX2 50 "DefaultReasonerModel" "facts" "I") (by decide +kernel)) (fun _ h9 => h9) rfl dX2_consequences_1 ?_
  refine lv_istore_n (lv' := [(2, .int 0), (0, .ref mm), (1, .int x)]) hx hb dX2_consequences_4 rfl hl (by decide) rfl (fun ls hl => ?_)
  refine lv_iconst (v := 0) hx hb dX2_consequences_5 (by decide) ?_
  refine lv_istore_n (lv' := [(3, .int 0), (2, .int 0), (0, .ref mm), (1, .int x)]) hx hb dX2_consequences_6 rfl hl (by decide) rfl (fun ls hl => ?_)
  refine lv_iload_n hx hb dX2_consequences_7 rfl (lv_at hl 0 rfl) ?_
  refine lv_aload_n hx hb dX2_consequences_8 rfl (lv_at hl 2 rfl) ?_
  refine va_get (D := g.1) (ci := 2) (v := .int 0) (C := RX2) (T := TX2) (N := 15) hx hb hts hinX2 hown hK hP 0 rfl rfl 5 (by decide) (hts (.fieldLink RX2 43 "DefaultReasonerModel" "defaults" "I") (by decide +kernel)) (fun _ h9 => h9) rfl dX2_consequences_9 ?_
  refine lv_icmp_ge (tgt := 41) hx hb dX2_consequences_12 (by decide) (fun _ => ?_) (fun c9 => absurd (by decide) c9)
  refine lv_aload_n hx hb dX2_consequences_41 rfl (lv_at hl 2 rfl) ?_
  refine lv_iload_n hx hb dX2_consequences_42 rfl (lv_at hl 1 rfl) ?_
  refine gj_i (wc := [(mm, .inr (2, [.int t, .int 0, .int 0, .ref (b 3), .ref (b 4), .int 0, .ref (b 6), .ref (b 7), .ref (b 8), .ref (b 9), .int 0, .ref (b 11), .int n, .ref (b 13), .ref (b 14)]))]) (wr := []) (gr_V (n := 1) ⟨hx, hb, hml, hown, hts⟩ (c_X2_close l g s.heap.size mm b t n 0 (by unfold gSet; decide)) gX2_consequences_X2_close rfl rfl rfl (by decide +kernel) ⟨Nat.le_of_ble_eq_true rfl, Nat.le_of_ble_eq_true rfl⟩ (gp_V hK hE hA hP hD hS [0] rfl (by decide) rfl (q0 := 0) rfl rfl) rfl hl.1 rfl (Nat.le_of_ble_eq_true rfl) dX2_consequences_43 ⟨Nat.le_of_ble_eq_true rfl, Nat.le_of_ble_eq_true rfl⟩) hP hD hS hA [0] [] rfl rfl (by decide) (by decide) (fun r1 u1 H locs hp1 hP hD hS => ?_)
  have hP : va_P g.1 vwCl [(mm, .inr (2, [.int t, .int 0, .int 0, .ref (b 3), .ref (b 4), .int 0, .ref (b 6), .ref (b 7), .ref (b 8), .ref (b 9), .int 0, .ref (b 11), .int n, .ref (b 13), .ref (b 14)]))] H := hP
  have hD : va_D A [(mm, .inr (2, [.int t, .int 0, .int 0, .ref (b 3), .ref (b 4), .int 0, .ref (b 6), .ref (b 7), .ref (b 8), .ref (b 9), .int 0, .ref (b 11), .int n, .ref (b 13), .ref (b 14)]))] := hD
  have hp1 : r1 = 0 := hp1.trans (by decide)
  subst hp1
  exact g_ir hx hb hr hlocks hP hD hS () [0] rfl (by decide) rfl dX2_consequences_46 (Nat.le_of_ble_eq_true rfl) (Nat.le_of_ble_eq_true rfl) (rfl)
set_option maxHeartbeats 4000000 in
set_option maxRecDepth 100000 in
theorem c_X2_generators (l : Launch) (g : gG) (sz : Nat) (mm : Nat) (b : Nat → Nat) (t n : Int32) (x : Int32) : gMi l yX2_generators wsX2_generators ({ frames := 3, cells := 0, slots := 0, locals := 67 } : Room) g [.ref mm, .int x] [(mm, .inr (2, [.int t, .int 0, .int 0, .ref (b 3), .ref (b 4), .int 0, .ref (b 6), .ref (b 7), .ref (b 8), .ref (b 9), .int 0, .ref (b 11), .int n, .ref (b 13), .ref (b 14)]))] sz (fun (r : Int32) (u : Unit) => r = 0) (fun (u : Unit) => [(mm, .inr (2, [.int t, .int 0, .int 0, .ref (b 3), .ref (b 4), .int 0, .ref (b 6), .ref (b 7), .ref (b 8), .ref (b 9), .int 0, .ref (b 11), .int n, .ref (b 13), .ref (b 14)]))]) 0 0 := by
  refine g_of (l := l) (y := yX2_generators) (wy := wsX2_generators) (rm := ({ frames := 3, cells := 0, slots := 0, locals := 67 } : Room)) (g := g) (av := [.ref mm, .int x]) (ws := [(mm, .inr (2, [.int t, .int 0, .int 0, .ref (b 3), .ref (b 4), .int 0, .ref (b 6), .ref (b 7), .ref (b 8), .ref (b 9), .int 0, .ref (b 11), .int n, .ref (b 13), .ref (b 14)]))]) (sz := sz) (mc := 0) (ms := 0) (Qc := fun A => va_Qi (fun (r : Int32) (u : Unit) => r = 0) (fun u t9 => gPost g A ((fun (u : Unit) => [(mm, .inr (2, [.int t, .int 0, .int 0, .ref (b 3), .ref (b 4), .int 0, .ref (b 6), .ref (b 7), .ref (b 8), .ref (b 9), .int 0, .ref (b 11), .int n, .ref (b 13), .ref (b 14)]))]) u) t9) A) (cc := cX2_generators) (maxL := 6) (ret := some .int) (by decide) rfl (Nat.le_of_ble_eq_true rfl) ?_
  intro p e s m below meth c A ls hx hb hr hml hown hts hlocks hnm hA hK hE hP hD hS hl
  have hl : lv_has ls 6 [(0, .ref mm), (1, .int x)] := hl
  have hown : s.vm.findClass RX2 = some m.cls := hown
  have hP : va_P g.1 vwCl [(mm, .inr (2, [.int t, .int 0, .int 0, .ref (b 3), .ref (b 4), .int 0, .ref (b 6), .ref (b 7), .ref (b 8), .ref (b 9), .int 0, .ref (b 11), .int n, .ref (b 13), .ref (b 14)]))] s.heap := hP
  have hinX2 : ∀ w ∈ u_ws RX2 TX2 15, w ∈ wsX2_generators := by decide +kernel
  refine lv_iconst (v := 0) hx hb dX2_generators_0 (by decide) ?_
  refine lv_istore_n (lv' := [(2, .int 0), (0, .ref mm), (1, .int x)]) hx hb dX2_generators_1 rfl hl (by decide) rfl (fun ls hl => ?_)
  refine lv_iconst (v := (-1)) hx hb dX2_generators_2 (by decide) ?_
  refine lv_istore_n (lv' := [(3, .int (-1)), (2, .int 0), (0, .ref mm), (1, .int x)]) hx hb dX2_generators_3 rfl hl (by decide) rfl (fun ls hl => ?_)
  refine lv_iload_n hx hb dX2_generators_4 rfl (lv_at hl 1 rfl) ?_
  refine lv_iload_n hx hb dX2_generators_5 rfl (lv_at hl 0 rfl) ?_
  refine lv_icmp_eq (tgt := 71) hx hb dX2_generators_6 (by decide) (fun c9 => absurd c9 (by decide)) (fun _ => ?_)
  refine lv_iload_n hx hb dX2_generators_9 rfl (lv_at hl 1 rfl) ?_
  refine lv_istore_n (lv' := [(3, .int 0), (2, .int 0), (0, .ref mm), (1, .int x)]) hx hb dX2_generators_10 rfl hl (by decide) rfl (fun ls hl => ?_)
  refine lv_aload_n hx hb dX2_generators_11 rfl (lv_at hl 2 rfl) ?_
  refine lv_iload_n hx hb dX2_generators_12 rfl (lv_at hl 1 rfl) ?_
  refine gj_i (wc := [(mm, .inr (2, [.int t, .int 0, .int 0, .ref (b 3), .ref (b 4), .int 0, .ref (b 6), .ref (b 7), .ref (b 8), .ref (b 9), .int 0, .ref (b 11), .int n, .ref (b 13), .ref (b 14)]))]) (wr := []) (gr_V (n := 1) ⟨hx, hb, hml, hown, hts⟩ (c_X2_consequences l g s.heap.size mm b t n 0) gX2_generators_X2_consequences rfl rfl rfl (by decide +kernel) ⟨Nat.le_of_ble_eq_true rfl, Nat.le_of_ble_eq_true rfl⟩ (gp_V hK hE hA hP hD hS [0] rfl (by decide) rfl (q0 := 0) rfl rfl) rfl hl.1 rfl (Nat.le_of_ble_eq_true rfl) dX2_generators_13 ⟨Nat.le_of_ble_eq_true rfl, Nat.le_of_ble_eq_true rfl⟩) hP hD hS hA [0] [] rfl rfl (by decide) (by decide) (fun r1 u1 H locs hp1 hP hD hS => ?_)
  have hP : va_P g.1 vwCl [(mm, .inr (2, [.int t, .int 0, .int 0, .ref (b 3), .ref (b 4), .int 0, .ref (b 6), .ref (b 7), .ref (b 8), .ref (b 9), .int 0, .ref (b 11), .int n, .ref (b 13), .ref (b 14)]))] H := hP
  have hD : va_D A [(mm, .inr (2, [.int t, .int 0, .int 0, .ref (b 3), .ref (b 4), .int 0, .ref (b 6), .ref (b 7), .ref (b 8), .ref (b 9), .int 0, .ref (b 11), .int n, .ref (b 13), .ref (b 14)]))] := hD
  have hp1 : r1 = 0 := hp1.trans (by decide)
  subst hp1
  refine lv_istore (lv' := [(4, .int 0), (3, .int 0), (2, .int 0), (0, .ref mm), (1, .int x)]) hx hb dX2_generators_16 hl (by decide) rfl (fun ls hl => ?_)
  refine lv_iconst (v := 0) hx hb dX2_generators_18 (by decide) ?_
  refine lv_istore (lv' := [(5, .int 0), (4, .int 0), (3, .int 0), (2, .int 0), (0, .ref mm), (1, .int x)]) hx hb dX2_generators_19 hl (by decide) rfl (fun ls hl => ?_)
  refine lv_iload hx hb dX2_generators_21 (lv_at hl 0 rfl) ?_
  refine lv_aload_n hx hb dX2_generators_23 rfl (lv_at hl 4 rfl) ?_
  refine va_get (D := g.1) (ci := 2) (v := .int 0) (C := RX2) (T := TX2) (N := 15) hx hb hts hinX2 hown hK hP 0 rfl rfl 5 (by decide) (hts (.fieldLink RX2 43 "DefaultReasonerModel" "defaults" "I") (by decide +kernel)) (fun _ h9 => h9) rfl dX2_generators_24 ?_
  refine lv_icmp_ge (tgt := 68) hx hb dX2_generators_27 (by decide) (fun _ => ?_) (fun c9 => absurd (by decide) c9)
  refine lv_goto (tgt := 4) hx hb dX2_generators_68 (by decide) ?_
  refine lv_iload_n hx hb dX2_generators_4 rfl (lv_at hl 3 rfl) ?_
  refine lv_iload_n hx hb dX2_generators_5 rfl (lv_at hl 2 rfl) ?_
  refine lv_icmp_eq (tgt := 71) hx hb dX2_generators_6 (by decide) (fun _ => ?_) (fun c9 => absurd (by decide) c9)
  refine lv_iload_n hx hb dX2_generators_71 rfl (lv_at hl 3 rfl) ?_
  exact g_ir hx hb hr hlocks hP hD hS () [0] rfl (by decide) rfl dX2_generators_72 (Nat.le_of_ble_eq_true rfl) (Nat.le_of_ble_eq_true rfl) (rfl)
set_option maxHeartbeats 4000000 in
set_option maxRecDepth 100000 in
theorem c_X2_isStable (l : Launch) (g : gG) (sz : Nat) (mm : Nat) (b : Nat → Nat) (t n : Int32) (x : Int32) : gMi l yX2_isStable wsX2_isStable ({ frames := 4, cells := 0, slots := 0, locals := 92 } : Room) g [.ref mm, .int x] [(mm, .inr (2, [.int t, .int 0, .int 0, .ref (b 3), .ref (b 4), .int 0, .ref (b 6), .ref (b 7), .ref (b 8), .ref (b 9), .int 0, .ref (b 11), .int n, .ref (b 13), .ref (b 14)]))] sz (fun (r : Int32) (u : Unit) => r = 1 ∧ 0 = x ∨ r = 0 ∧ ¬ (0 : Int32) = x) (fun (u : Unit) => [(mm, .inr (2, [.int t, .int 0, .int 0, .ref (b 3), .ref (b 4), .int 0, .ref (b 6), .ref (b 7), .ref (b 8), .ref (b 9), .int 0, .ref (b 11), .int n, .ref (b 13), .ref (b 14)]))]) 0 0 := by
  refine g_of (l := l) (y := yX2_isStable) (wy := wsX2_isStable) (rm := ({ frames := 4, cells := 0, slots := 0, locals := 92 } : Room)) (g := g) (av := [.ref mm, .int x]) (ws := [(mm, .inr (2, [.int t, .int 0, .int 0, .ref (b 3), .ref (b 4), .int 0, .ref (b 6), .ref (b 7), .ref (b 8), .ref (b 9), .int 0, .ref (b 11), .int n, .ref (b 13), .ref (b 14)]))]) (sz := sz) (mc := 0) (ms := 0) (Qc := fun A => va_Qi (fun (r : Int32) (u : Unit) => r = 1 ∧ 0 = x ∨ r = 0 ∧ ¬ (0 : Int32) = x) (fun u t9 => gPost g A ((fun (u : Unit) => [(mm, .inr (2, [.int t, .int 0, .int 0, .ref (b 3), .ref (b 4), .int 0, .ref (b 6), .ref (b 7), .ref (b 8), .ref (b 9), .int 0, .ref (b 11), .int n, .ref (b 13), .ref (b 14)]))]) u) t9) A) (cc := cX2_isStable) (maxL := 2) (ret := some .boolean) (by decide) rfl (Nat.le_of_ble_eq_true rfl) ?_
  intro p e s m below meth c A ls hx hb hr hml hown hts hlocks hnm hA hK hE hP hD hS hl
  have hl : lv_has ls 2 [(0, .ref mm), (1, .int x)] := hl
  have hown : s.vm.findClass RX2 = some m.cls := hown
  have hP : va_P g.1 vwCl [(mm, .inr (2, [.int t, .int 0, .int 0, .ref (b 3), .ref (b 4), .int 0, .ref (b 6), .ref (b 7), .ref (b 8), .ref (b 9), .int 0, .ref (b 11), .int n, .ref (b 13), .ref (b 14)]))] s.heap := hP
  refine lv_aload_n hx hb dX2_isStable_0 rfl (lv_at hl 0 rfl) ?_
  refine lv_aload_n hx hb dX2_isStable_1 rfl (lv_at hl 0 rfl) ?_
  refine lv_iload_n hx hb dX2_isStable_2 rfl (lv_at hl 1 rfl) ?_
  refine gj_i (wc := [(mm, .inr (2, [.int t, .int 0, .int 0, .ref (b 3), .ref (b 4), .int 0, .ref (b 6), .ref (b 7), .ref (b 8), .ref (b 9), .int 0, .ref (b 11), .int n, .ref (b 13), .ref (b 14)]))]) (wr := []) (gr_V (n := 1) ⟨hx, hb, hml, hown, hts⟩ (c_X2_generators l g s.heap.size mm b t n x) gX2_isStable_X2_generators rfl rfl rfl (by decide +kernel) ⟨Nat.le_of_ble_eq_true rfl, Nat.le_of_ble_eq_true rfl⟩ (gp_V hK hE hA hP hD hS [0] rfl (by decide) rfl (q0 := 0) rfl rfl) rfl hl.1 rfl (Nat.le_of_ble_eq_true rfl) dX2_isStable_3 ⟨Nat.le_of_ble_eq_true rfl, Nat.le_of_ble_eq_true rfl⟩) hP hD hS hA [0] [] rfl rfl (by decide) (by decide) (fun r1 u1 H locs hp1 hP hD hS => ?_)
  have hP : va_P g.1 vwCl [(mm, .inr (2, [.int t, .int 0, .int 0, .ref (b 3), .ref (b 4), .int 0, .ref (b 6), .ref (b 7), .ref (b 8), .ref (b 9), .int 0, .ref (b 11), .int n, .ref (b 13), .ref (b 14)]))] H := hP
  have hD : va_D A [(mm, .inr (2, [.int t, .int 0, .int 0, .ref (b 3), .ref (b 4), .int 0, .ref (b 6), .ref (b 7), .ref (b 8), .ref (b 9), .int 0, .ref (b 11), .int n, .ref (b 13), .ref (b 14)]))] := hD
  have hp1 : r1 = 0 := hp1.trans (by decide)
  subst hp1
  refine gj_i (wc := [(mm, .inr (2, [.int t, .int 0, .int 0, .ref (b 3), .ref (b 4), .int 0, .ref (b 6), .ref (b 7), .ref (b 8), .ref (b 9), .int 0, .ref (b 11), .int n, .ref (b 13), .ref (b 14)]))]) (wr := []) (gr_V (n := 1) ⟨hx, hb, hml, hown, hts⟩ (c_X2_consequences l g H.size mm b t n 0) gX2_isStable_X2_consequences rfl rfl rfl (by decide +kernel) ⟨Nat.le_of_ble_eq_true rfl, Nat.le_of_ble_eq_true rfl⟩ (gp_V hK hE hA hP hD hS [0] rfl (by decide) rfl (q0 := 0) rfl rfl) rfl hl.1 rfl (Nat.le_of_ble_eq_true rfl) dX2_isStable_6 ⟨Nat.le_of_ble_eq_true rfl, Nat.le_of_ble_eq_true rfl⟩) hP hD hS hA [0] [] rfl rfl (by decide) (by decide) (fun r2 u2 H locs hp2 hP hD hS => ?_)
  have hP : va_P g.1 vwCl [(mm, .inr (2, [.int t, .int 0, .int 0, .ref (b 3), .ref (b 4), .int 0, .ref (b 6), .ref (b 7), .ref (b 8), .ref (b 9), .int 0, .ref (b 11), .int n, .ref (b 13), .ref (b 14)]))] H := hP
  have hD : va_D A [(mm, .inr (2, [.int t, .int 0, .int 0, .ref (b 3), .ref (b 4), .int 0, .ref (b 6), .ref (b 7), .ref (b 8), .ref (b 9), .int 0, .ref (b 11), .int n, .ref (b 13), .ref (b 14)]))] := hD
  have hp2 : r2 = 0 := hp2.trans (by decide)
  subst hp2
  refine lv_iload_n hx hb dX2_isStable_9 rfl (lv_at hl 1 rfl) ?_
  refine lv_icmp_ne (tgt := 17) hx hb dX2_isStable_10 (by decide) (fun c10 => ?_) (fun c10 => ?_)
  · refine lv_iconst (v := 0) hx hb dX2_isStable_17 (by decide) ?_
    exact g_zr hx hb hr hlocks hP hD hS () [0] rfl (by decide) rfl dX2_isStable_18 (Nat.le_of_ble_eq_true rfl) (Nat.le_of_ble_eq_true rfl) (Or.inl rfl) (Or.inr ⟨rfl, c10⟩)
  · refine lv_iconst (v := 1) hx hb dX2_isStable_13 (by decide) ?_
    refine lv_goto (tgt := 18) hx hb dX2_isStable_14 (by decide) ?_
    exact g_zr hx hb hr hlocks hP hD hS () [0] rfl (by decide) rfl dX2_isStable_18 (Nat.le_of_ble_eq_true rfl) (Nat.le_of_ble_eq_true rfl) (Or.inr rfl) (Or.inl ⟨rfl, c10⟩)
set_option maxHeartbeats 4000000 in
set_option maxRecDepth 100000 in
theorem c_X2_orders (l : Launch) (g : gG) (sz : Nat) (mm : Nat) (b : Nat → Nat) (t n : Int32) : gMi l yX2_orders wsX2_orders ({ frames := 0, cells := 0, slots := 0, locals := 0 } : Room) g [.ref mm] [(mm, .inr (2, [.int t, .int 0, .int 0, .ref (b 3), .ref (b 4), .int 0, .ref (b 6), .ref (b 7), .ref (b 8), .ref (b 9), .int 0, .ref (b 11), .int n, .ref (b 13), .ref (b 14)]))] sz (fun (r : Int32) (u : Unit) => r = 1) (fun (u : Unit) => [(mm, .inr (2, [.int t, .int 0, .int 0, .ref (b 3), .ref (b 4), .int 0, .ref (b 6), .ref (b 7), .ref (b 8), .ref (b 9), .int 0, .ref (b 11), .int n, .ref (b 13), .ref (b 14)]))]) 0 0 := by
  refine g_of (l := l) (y := yX2_orders) (wy := wsX2_orders) (rm := ({ frames := 0, cells := 0, slots := 0, locals := 0 } : Room)) (g := g) (av := [.ref mm]) (ws := [(mm, .inr (2, [.int t, .int 0, .int 0, .ref (b 3), .ref (b 4), .int 0, .ref (b 6), .ref (b 7), .ref (b 8), .ref (b 9), .int 0, .ref (b 11), .int n, .ref (b 13), .ref (b 14)]))]) (sz := sz) (mc := 0) (ms := 0) (Qc := fun A => va_Qi (fun (r : Int32) (u : Unit) => r = 1) (fun u t9 => gPost g A ((fun (u : Unit) => [(mm, .inr (2, [.int t, .int 0, .int 0, .ref (b 3), .ref (b 4), .int 0, .ref (b 6), .ref (b 7), .ref (b 8), .ref (b 9), .int 0, .ref (b 11), .int n, .ref (b 13), .ref (b 14)]))]) u) t9) A) (cc := cX2_orders) (maxL := 3) (ret := some .int) (by decide) rfl (Nat.le_of_ble_eq_true rfl) ?_
  intro p e s m below meth c A ls hx hb hr hml hown hts hlocks hnm hA hK hE hP hD hS hl
  have hl : lv_has ls 3 [(0, .ref mm)] := hl
  have hown : s.vm.findClass RX2 = some m.cls := hown
  have hP : va_P g.1 vwCl [(mm, .inr (2, [.int t, .int 0, .int 0, .ref (b 3), .ref (b 4), .int 0, .ref (b 6), .ref (b 7), .ref (b 8), .ref (b 9), .int 0, .ref (b 11), .int n, .ref (b 13), .ref (b 14)]))] s.heap := hP
  have hinX2 : ∀ w ∈ u_ws RX2 TX2 15, w ∈ wsX2_orders := by decide +kernel
  refine lv_iconst (v := 1) hx hb dX2_orders_0 (by decide) ?_
  refine lv_istore_n (lv' := [(1, .int 1), (0, .ref mm)]) hx hb dX2_orders_1 rfl hl (by decide) rfl (fun ls hl => ?_)
  refine lv_iconst (v := 2) hx hb dX2_orders_2 (by decide) ?_
  refine lv_istore_n (lv' := [(2, .int 2), (1, .int 1), (0, .ref mm)]) hx hb dX2_orders_3 rfl hl (by decide) rfl (fun ls hl => ?_)
  refine lv_iload_n hx hb dX2_orders_4 rfl (lv_at hl 0 rfl) ?_
  refine lv_aload_n hx hb dX2_orders_5 rfl (lv_at hl 2 rfl) ?_
  refine va_get (D := g.1) (ci := 2) (v := .int 0) (C := RX2) (T := TX2) (N := 15) hx hb hts hinX2 hown hK hP 0 rfl rfl 5 (by decide) (hts (.fieldLink RX2 43 "DefaultReasonerModel" "defaults" "I") (by decide +kernel)) (fun _ h9 => h9) rfl dX2_orders_6 ?_
  refine lv_icmp_gt (tgt := 22) hx hb dX2_orders_9 (by decide) (fun _ => ?_) (fun c9 => absurd (by decide) c9)
  refine lv_iload_n hx hb dX2_orders_22 rfl (lv_at hl 1 rfl) ?_
  exact g_ir hx hb hr hlocks hP hD hS () [0] rfl (by decide) rfl dX2_orders_23 (Nat.le_of_ble_eq_true rfl) (Nat.le_of_ble_eq_true rfl) (rfl)
set_option maxHeartbeats 4000000 in
set_option maxRecDepth 100000 in
theorem c_X2_setOrder (l : Launch) (g : gG) (sz : Nat) (mm : Nat) (b : Nat → Nat) (t n : Int32) (o : Nat) (x : Int32) : gMv l yX2_setOrder wsX2_setOrder ({ frames := 1, cells := 1, slots := 6, locals := 22 } : Room) g [.ref mm, .ref o, .int x] [(mm, .inr (2, [.int t, .int 0, .int 0, .ref (b 3), .ref (b 4), .int 0, .ref (b 6), .ref (b 7), .ref (b 8), .ref (b 9), .int 0, .ref (b 11), .int n, .ref (b 13), .ref (b 14)]))] sz (fun (u : Unit) => True) (fun (u : Unit) => [(mm, .inr (2, [.int t, .int 0, .int 0, .ref (b 3), .ref (b 4), .int 0, .ref (b 6), .ref (b 7), .ref (b 8), .ref (b 9), .int 0, .ref (b 11), .int n, .ref (b 13), .ref (b 14)]))]) 1 6 := by
  refine g_of (l := l) (y := yX2_setOrder) (wy := wsX2_setOrder) (rm := ({ frames := 1, cells := 1, slots := 6, locals := 22 } : Room)) (g := g) (av := [.ref mm, .ref o, .int x]) (ws := [(mm, .inr (2, [.int t, .int 0, .int 0, .ref (b 3), .ref (b 4), .int 0, .ref (b 6), .ref (b 7), .ref (b 8), .ref (b 9), .int 0, .ref (b 11), .int n, .ref (b 13), .ref (b 14)]))]) (sz := sz) (mc := 1) (ms := 6) (Qc := fun A => va_Qv (fun (u : Unit) => True) (fun u t9 => gPost g A ((fun (u : Unit) => [(mm, .inr (2, [.int t, .int 0, .int 0, .ref (b 3), .ref (b 4), .int 0, .ref (b 6), .ref (b 7), .ref (b 8), .ref (b 9), .int 0, .ref (b 11), .int n, .ref (b 13), .ref (b 14)]))]) u) t9) A) (cc := cX2_setOrder) (maxL := 9) (ret := none) (by decide) rfl (Nat.le_of_ble_eq_true rfl) ?_
  intro p e s m below meth c A ls hx hb hr hml hown hts hlocks hnm hA hK hE hP hD hS hl
  have hl : lv_has ls 9 [(0, .ref mm), (1, .ref o), (2, .int x)] := hl
  have hown : s.vm.findClass RX2 = some m.cls := hown
  have hP : va_P g.1 vwCl [(mm, .inr (2, [.int t, .int 0, .int 0, .ref (b 3), .ref (b 4), .int 0, .ref (b 6), .ref (b 7), .ref (b 8), .ref (b 9), .int 0, .ref (b 11), .int n, .ref (b 13), .ref (b 14)]))] s.heap := hP
  have hinX2 : ∀ w ∈ u_ws RX2 TX2 15, w ∈ wsX2_setOrder := by decide +kernel
  refine lv_bipush (v := 6) hx hb dX2_setOrder_0 (by decide) ?_
  refine g_newa (a0 := (6, .inl (fun _ => 0))) (atype := .boolean) (ty := .boolean) (N' := 6) hx hb (hts (.arrayClass .boolean) (by decide +kernel)) rfl hK 1 rfl (fun _ h => h) hP hD hS hA (fun z => by rw [vp_cell_i]; rfl) (by decide) (by decide) (by decide) (Nat.le_of_ble_eq_true rfl) (Nat.le_of_ble_eq_true rfl) dX2_setOrder_2 (fun qa1 H hP hD hS => ?_)
  have hP : va_P g.1 vwCl [(mm, .inr (2, [.int t, .int 0, .int 0, .ref (b 3), .ref (b 4), .int 0, .ref (b 6), .ref (b 7), .ref (b 8), .ref (b 9), .int 0, .ref (b 11), .int n, .ref (b 13), .ref (b 14)])), (qa1, .inl (g.2.1.2.1, 6, .inl (fun _ => 0)))] H := hP
  have hD : va_D A [(mm, .inr (2, [.int t, .int 0, .int 0, .ref (b 3), .ref (b 4), .int 0, .ref (b 6), .ref (b 7), .ref (b 8), .ref (b 9), .int 0, .ref (b 11), .int n, .ref (b 13), .ref (b 14)])), (qa1, .inl (g.2.1.2.1, 6, .inl (fun _ => 0)))] := hD
  refine lv_astore_n (lv' := [(3, .ref qa1), (0, .ref mm), (1, .ref o), (2, .int x)]) hx hb dX2_setOrder_4 rfl hl (by decide) rfl (fun ls hl => ?_)
  refine lv_iload_n hx hb dX2_setOrder_5 rfl (lv_at hl 3 rfl) ?_
  refine lv_istore (lv' := [(4, .int x), (3, .ref qa1), (0, .ref mm), (1, .ref o), (2, .int x)]) hx hb dX2_setOrder_6 hl (by decide) rfl (fun ls hl => ?_)
  refine lv_aload_n hx hb dX2_setOrder_8 rfl (lv_at hl 2 rfl) ?_
  refine gj_i (wc := [(mm, .inr (2, [.int t, .int 0, .int 0, .ref (b 3), .ref (b 4), .int 0, .ref (b 6), .ref (b 7), .ref (b 8), .ref (b 9), .int 0, .ref (b 11), .int n, .ref (b 13), .ref (b 14)]))]) (wr := [(qa1, .inl (g.2.1.2.1, 6, .inl (fun _ => 0)))]) (gr_V (n := 0) ⟨hx, hb, hml, hown, hts⟩ (c_X2_orders l g H.size mm b t n) gX2_setOrder_X2_orders rfl rfl rfl (by decide +kernel) ⟨Nat.le_of_ble_eq_true rfl, Nat.le_of_ble_eq_true rfl⟩ (gp_V hK hE hA hP hD hS [0] rfl (by decide) rfl (q0 := 0) rfl rfl) rfl hl.1 rfl (Nat.le_of_ble_eq_true rfl) dX2_setOrder_9 ⟨Nat.le_of_ble_eq_true rfl, Nat.le_of_ble_eq_true rfl⟩) hP hD hS hA [0] [1] rfl rfl (by decide) (by decide) (fun r2 u2 H locs hp2 hP hD hS => ?_)
  have hP : va_P g.1 vwCl [(qa1, .inl (g.2.1.2.1, 6, .inl (fun _ => 0))), (mm, .inr (2, [.int t, .int 0, .int 0, .ref (b 3), .ref (b 4), .int 0, .ref (b 6), .ref (b 7), .ref (b 8), .ref (b 9), .int 0, .ref (b 11), .int n, .ref (b 13), .ref (b 14)]))] H := hP
  have hD : va_D A [(qa1, .inl (g.2.1.2.1, 6, .inl (fun _ => 0))), (mm, .inr (2, [.int t, .int 0, .int 0, .ref (b 3), .ref (b 4), .int 0, .ref (b 6), .ref (b 7), .ref (b 8), .ref (b 9), .int 0, .ref (b 11), .int n, .ref (b 13), .ref (b 14)]))] := hD
  have hp2 : r2 = 1 := hp2.trans (by decide)
  subst hp2
  refine lv_istore (lv' := [(5, .int 1), (4, .int x), (3, .ref qa1), (0, .ref mm), (1, .ref o), (2, .int x)]) hx hb dX2_setOrder_12 hl (by decide) rfl (fun ls hl => ?_)
  refine lv_iconst (v := 0) hx hb dX2_setOrder_14 (by decide) ?_
  refine lv_istore (lv' := [(6, .int 0), (5, .int 1), (4, .int x), (3, .ref qa1), (0, .ref mm), (1, .ref o), (2, .int x)]) hx hb dX2_setOrder_15 hl (by decide) rfl (fun ls hl => ?_)
  refine lv_iload hx hb dX2_setOrder_17 (lv_at hl 0 rfl) ?_
  refine lv_aload_n hx hb dX2_setOrder_19 rfl (lv_at hl 4 rfl) ?_
  refine va_get (D := g.1) (ci := 2) (v := .int 0) (C := RX2) (T := TX2) (N := 15) hx hb hts hinX2 hown hK hP 1 rfl rfl 5 (by decide) (hts (.fieldLink RX2 43 "DefaultReasonerModel" "defaults" "I") (by decide +kernel)) (fun _ h9 => h9) rfl dX2_setOrder_20 ?_
  refine lv_icmp_ge (tgt := 107) hx hb dX2_setOrder_23 (by decide) (fun _ => ?_) (fun c9 => absurd (by decide) c9)
  exact g_vr hx hb hr hlocks hP hD hS () [1] rfl (by decide) rfl dX2_setOrder_107 (Nat.le_of_ble_eq_true rfl) (Nat.le_of_ble_eq_true rfl) (trivial)
set_option maxHeartbeats 4000000 in
set_option maxRecDepth 100000 in
theorem c_X2_respects (l : Launch) (g : gG) (sz : Nat) (mm : Nat) (b : Nat → Nat) (t n : Int32) (o : Nat) : gMi l yX2_respects wsX2_respects ({ frames := 0, cells := 0, slots := 0, locals := 0 } : Room) g [.ref mm, .ref o] [(mm, .inr (2, [.int t, .int 0, .int 0, .ref (b 3), .ref (b 4), .int 0, .ref (b 6), .ref (b 7), .ref (b 8), .ref (b 9), .int 0, .ref (b 11), .int n, .ref (b 13), .ref (b 14)]))] sz (fun (r : Int32) (u : Unit) => r = 1) (fun (u : Unit) => [(mm, .inr (2, [.int t, .int 0, .int 0, .ref (b 3), .ref (b 4), .int 0, .ref (b 6), .ref (b 7), .ref (b 8), .ref (b 9), .int 0, .ref (b 11), .int n, .ref (b 13), .ref (b 14)]))]) 0 0 := by
  refine g_of (l := l) (y := yX2_respects) (wy := wsX2_respects) (rm := ({ frames := 0, cells := 0, slots := 0, locals := 0 } : Room)) (g := g) (av := [.ref mm, .ref o]) (ws := [(mm, .inr (2, [.int t, .int 0, .int 0, .ref (b 3), .ref (b 4), .int 0, .ref (b 6), .ref (b 7), .ref (b 8), .ref (b 9), .int 0, .ref (b 11), .int n, .ref (b 13), .ref (b 14)]))]) (sz := sz) (mc := 0) (ms := 0) (Qc := fun A => va_Qi (fun (r : Int32) (u : Unit) => r = 1) (fun u t9 => gPost g A ((fun (u : Unit) => [(mm, .inr (2, [.int t, .int 0, .int 0, .ref (b 3), .ref (b 4), .int 0, .ref (b 6), .ref (b 7), .ref (b 8), .ref (b 9), .int 0, .ref (b 11), .int n, .ref (b 13), .ref (b 14)]))]) u) t9) A) (cc := cX2_respects) (maxL := 4) (ret := some .boolean) (by decide) rfl (Nat.le_of_ble_eq_true rfl) ?_
  intro p e s m below meth c A ls hx hb hr hml hown hts hlocks hnm hA hK hE hP hD hS hl
  have hl : lv_has ls 4 [(0, .ref mm), (1, .ref o)] := hl
  have hown : s.vm.findClass RX2 = some m.cls := hown
  have hP : va_P g.1 vwCl [(mm, .inr (2, [.int t, .int 0, .int 0, .ref (b 3), .ref (b 4), .int 0, .ref (b 6), .ref (b 7), .ref (b 8), .ref (b 9), .int 0, .ref (b 11), .int n, .ref (b 13), .ref (b 14)]))] s.heap := hP
  have hinX2 : ∀ w ∈ u_ws RX2 TX2 15, w ∈ wsX2_respects := by decide +kernel
  refine lv_iconst (v := 0) hx hb dX2_respects_0 (by decide) ?_
  refine lv_istore_n (lv' := [(2, .int 0), (0, .ref mm), (1, .ref o)]) hx hb dX2_respects_1 rfl hl (by decide) rfl (fun ls hl => ?_)
  refine lv_iload_n hx hb dX2_respects_2 rfl (lv_at hl 0 rfl) ?_
  refine lv_aload_n hx hb dX2_respects_3 rfl (lv_at hl 1 rfl) ?_
  refine va_get (D := g.1) (ci := 2) (v := .int 0) (C := RX2) (T := TX2) (N := 15) hx hb hts hinX2 hown hK hP 0 rfl rfl 5 (by decide) (hts (.fieldLink RX2 43 "DefaultReasonerModel" "defaults" "I") (by decide +kernel)) (fun _ h9 => h9) rfl dX2_respects_4 ?_
  refine lv_icmp_ge (tgt := 49) hx hb dX2_respects_7 (by decide) (fun _ => ?_) (fun c9 => absurd (by decide) c9)
  refine lv_iconst (v := 1) hx hb dX2_respects_49 (by decide) ?_
  exact g_zr hx hb hr hlocks hP hD hS () [0] rfl (by decide) rfl dX2_respects_50 (Nat.le_of_ble_eq_true rfl) (Nat.le_of_ble_eq_true rfl) (Or.inr rfl) (rfl)
set_option maxHeartbeats 4000000 in
set_option maxRecDepth 100000 in
theorem c_X2_first (l : Launch) (g : gG) (sz : Nat) (mm : Nat) (b : Nat → Nat) (t n : Int32) (o : Nat) (x : Int32) : gMi l yX2_first wsX2_first ({ frames := 0, cells := 0, slots := 0, locals := 0 } : Room) g [.ref mm, .ref o, .int x] [(mm, .inr (2, [.int t, .int 0, .int 0, .ref (b 3), .ref (b 4), .int 0, .ref (b 6), .ref (b 7), .ref (b 8), .ref (b 9), .int 0, .ref (b 11), .int n, .ref (b 13), .ref (b 14)]))] sz (fun (r : Int32) (u : Unit) => r = (-1)) (fun (u : Unit) => [(mm, .inr (2, [.int t, .int 0, .int 0, .ref (b 3), .ref (b 4), .int 0, .ref (b 6), .ref (b 7), .ref (b 8), .ref (b 9), .int 0, .ref (b 11), .int n, .ref (b 13), .ref (b 14)]))]) 0 0 := by
  refine g_of (l := l) (y := yX2_first) (wy := wsX2_first) (rm := ({ frames := 0, cells := 0, slots := 0, locals := 0 } : Room)) (g := g) (av := [.ref mm, .ref o, .int x]) (ws := [(mm, .inr (2, [.int t, .int 0, .int 0, .ref (b 3), .ref (b 4), .int 0, .ref (b 6), .ref (b 7), .ref (b 8), .ref (b 9), .int 0, .ref (b 11), .int n, .ref (b 13), .ref (b 14)]))]) (sz := sz) (mc := 0) (ms := 0) (Qc := fun A => va_Qi (fun (r : Int32) (u : Unit) => r = (-1)) (fun u t9 => gPost g A ((fun (u : Unit) => [(mm, .inr (2, [.int t, .int 0, .int 0, .ref (b 3), .ref (b 4), .int 0, .ref (b 6), .ref (b 7), .ref (b 8), .ref (b 9), .int 0, .ref (b 11), .int n, .ref (b 13), .ref (b 14)]))]) u) t9) A) (cc := cX2_first) (maxL := 5) (ret := some .int) (by decide) rfl (Nat.le_of_ble_eq_true rfl) ?_
  intro p e s m below meth c A ls hx hb hr hml hown hts hlocks hnm hA hK hE hP hD hS hl
  have hl : lv_has ls 5 [(0, .ref mm), (1, .ref o), (2, .int x)] := hl
  have hown : s.vm.findClass RX2 = some m.cls := hown
  have hP : va_P g.1 vwCl [(mm, .inr (2, [.int t, .int 0, .int 0, .ref (b 3), .ref (b 4), .int 0, .ref (b 6), .ref (b 7), .ref (b 8), .ref (b 9), .int 0, .ref (b 11), .int n, .ref (b 13), .ref (b 14)]))] s.heap := hP
  have hinX2 : ∀ w ∈ u_ws RX2 TX2 15, w ∈ wsX2_first := by decide +kernel
  refine lv_iconst (v := 0) hx hb dX2_first_0 (by decide) ?_
  refine lv_istore_n (lv' := [(3, .int 0), (0, .ref mm), (1, .ref o), (2, .int x)]) hx hb dX2_first_1 rfl hl (by decide) rfl (fun ls hl => ?_)
  refine lv_iload_n hx hb dX2_first_2 rfl (lv_at hl 0 rfl) ?_
  refine lv_aload_n hx hb dX2_first_3 rfl (lv_at hl 1 rfl) ?_
  refine va_get (D := g.1) (ci := 2) (v := .int 0) (C := RX2) (T := TX2) (N := 15) hx hb hts hinX2 hown hK hP 0 rfl rfl 5 (by decide) (hts (.fieldLink RX2 43 "DefaultReasonerModel" "defaults" "I") (by decide +kernel)) (fun _ h9 => h9) rfl dX2_first_4 ?_
  refine lv_icmp_ge (tgt := 62) hx hb dX2_first_7 (by decide) (fun _ => ?_) (fun c9 => absurd (by decide) c9)
  refine lv_iconst (v := (-1)) hx hb dX2_first_62 (by decide) ?_
  exact g_ir hx hb hr hlocks hP hD hS () [0] rfl (by decide) rfl dX2_first_63 (Nat.le_of_ble_eq_true rfl) (Nat.le_of_ble_eq_true rfl) (rfl)
set_option maxHeartbeats 4000000 in
set_option maxRecDepth 100000 in
theorem c_X2_walk (l : Launch) (g : gG) (sz : Nat) (mm : Nat) (b : Nat → Nat) (t n : Int32) (o i : Nat) : gMi l yX2_walk wsX2_walk ({ frames := 2, cells := 0, slots := 0, locals := 44 } : Room) g [.ref mm, .ref o, .ref i] [(mm, .inr (2, [.int t, .int 0, .int 0, .ref (b 3), .ref (b 4), .int 0, .ref (b 6), .ref (b 7), .ref (b 8), .ref (b 9), .int 0, .ref (b 11), .int n, .ref (b 13), .ref (b 14)]))] sz (fun (r : Int32) (u : Unit) => r = 0) (fun (u : Unit) => [(mm, .inr (2, [.int t, .int 0, .int 0, .ref (b 3), .ref (b 4), .int 0, .ref (b 6), .ref (b 7), .ref (b 8), .ref (b 9), .int 0, .ref (b 11), .int n, .ref (b 13), .ref (b 14)]))]) 0 0 := by
  refine g_of (l := l) (y := yX2_walk) (wy := wsX2_walk) (rm := ({ frames := 2, cells := 0, slots := 0, locals := 44 } : Room)) (g := g) (av := [.ref mm, .ref o, .ref i]) (ws := [(mm, .inr (2, [.int t, .int 0, .int 0, .ref (b 3), .ref (b 4), .int 0, .ref (b 6), .ref (b 7), .ref (b 8), .ref (b 9), .int 0, .ref (b 11), .int n, .ref (b 13), .ref (b 14)]))]) (sz := sz) (mc := 0) (ms := 0) (Qc := fun A => va_Qi (fun (r : Int32) (u : Unit) => r = 0) (fun u t9 => gPost g A ((fun (u : Unit) => [(mm, .inr (2, [.int t, .int 0, .int 0, .ref (b 3), .ref (b 4), .int 0, .ref (b 6), .ref (b 7), .ref (b 8), .ref (b 9), .int 0, .ref (b 11), .int n, .ref (b 13), .ref (b 14)]))]) u) t9) A) (cc := cX2_walk) (maxL := 5) (ret := some .int) (by decide) rfl (Nat.le_of_ble_eq_true rfl) ?_
  intro p e s m below meth c A ls hx hb hr hml hown hts hlocks hnm hA hK hE hP hD hS hl
  have hl : lv_has ls 5 [(0, .ref mm), (1, .ref o), (2, .ref i)] := hl
  have hown : s.vm.findClass RX2 = some m.cls := hown
  have hP : va_P g.1 vwCl [(mm, .inr (2, [.int t, .int 0, .int 0, .ref (b 3), .ref (b 4), .int 0, .ref (b 6), .ref (b 7), .ref (b 8), .ref (b 9), .int 0, .ref (b 11), .int n, .ref (b 13), .ref (b 14)]))] s.heap := hP
  have hinX2 : ∀ w ∈ u_ws RX2 TX2 15, w ∈ wsX2_walk := by decide +kernel
  refine lv_aload_n hx hb dX2_walk_0 rfl (lv_at hl 0 rfl) ?_
  refine lv_aload_n hx hb dX2_walk_1 rfl (lv_at hl 0 rfl) ?_
  refine va_get (D := g.1) (ci := 2) (v := .int 0) (C := RX2) (T := TX2) (N := 15) hx hb hts hinX2 hown hK hP 0 rfl rfl 1 (by decide) (hts (.fieldLink RX2 50 "DefaultReasonerModel" "facts" "I") (by decide +kernel)) (fun _ h9 => h9) rfl dX2_walk_2 ?_
  refine gj_i (wc := [(mm, .inr (2, [.int t, .int 0, .int 0, .ref (b 3), .ref (b 4), .int 0, .ref (b 6), .ref (b 7), .ref (b 8), .ref (b 9), .int 0, .ref (b 11), .int n, .ref (b 13), .ref (b 14)]))]) (wr := []) (gr_V (n := 1) ⟨hx, hb, hml, hown, hts⟩ (c_X2_close l g s.heap.size mm b t n 0 (by unfold gSet; decide)) gX2_walk_X2_close rfl rfl rfl (by decide +kernel) ⟨Nat.le_of_ble_eq_true rfl, Nat.le_of_ble_eq_true rfl⟩ (gp_V hK hE hA hP hD hS [0] rfl (by decide) rfl (q0 := 0) rfl rfl) rfl hl.1 rfl (Nat.le_of_ble_eq_true rfl) dX2_walk_5 ⟨Nat.le_of_ble_eq_true rfl, Nat.le_of_ble_eq_true rfl⟩) hP hD hS hA [0] [] rfl rfl (by decide) (by decide) (fun r1 u1 H locs hp1 hP hD hS => ?_)
  have hP : va_P g.1 vwCl [(mm, .inr (2, [.int t, .int 0, .int 0, .ref (b 3), .ref (b 4), .int 0, .ref (b 6), .ref (b 7), .ref (b 8), .ref (b 9), .int 0, .ref (b 11), .int n, .ref (b 13), .ref (b 14)]))] H := hP
  have hD : va_D A [(mm, .inr (2, [.int t, .int 0, .int 0, .ref (b 3), .ref (b 4), .int 0, .ref (b 6), .ref (b 7), .ref (b 8), .ref (b 9), .int 0, .ref (b 11), .int n, .ref (b 13), .ref (b 14)]))] := hD
  have hp1 : r1 = 0 := hp1.trans (by decide)
  subst hp1
  refine lv_istore_n (lv' := [(3, .int 0), (0, .ref mm), (1, .ref o), (2, .ref i)]) hx hb dX2_walk_8 rfl hl (by decide) rfl (fun ls hl => ?_)
  refine lv_aload_n hx hb dX2_walk_9 rfl (lv_at hl 1 rfl) ?_
  refine lv_aload_n hx hb dX2_walk_10 rfl (lv_at hl 2 rfl) ?_
  refine lv_iload_n hx hb dX2_walk_11 rfl (lv_at hl 0 rfl) ?_
  refine gj_i (wc := [(mm, .inr (2, [.int t, .int 0, .int 0, .ref (b 3), .ref (b 4), .int 0, .ref (b 6), .ref (b 7), .ref (b 8), .ref (b 9), .int 0, .ref (b 11), .int n, .ref (b 13), .ref (b 14)]))]) (wr := []) (gr_V (n := 2) ⟨hx, hb, hml, hown, hts⟩ (c_X2_first l g H.size mm b t n o 0) gX2_walk_X2_first rfl rfl rfl (by decide +kernel) ⟨Nat.le_of_ble_eq_true rfl, Nat.le_of_ble_eq_true rfl⟩ (gp_V hK hE hA hP hD hS [0] rfl (by decide) rfl (q0 := 0) rfl rfl) rfl hl.1 rfl (Nat.le_of_ble_eq_true rfl) dX2_walk_12 ⟨Nat.le_of_ble_eq_true rfl, Nat.le_of_ble_eq_true rfl⟩) hP hD hS hA [0] [] rfl rfl (by decide) (by decide) (fun r2 u2 H locs hp2 hP hD hS => ?_)
  have hP : va_P g.1 vwCl [(mm, .inr (2, [.int t, .int 0, .int 0, .ref (b 3), .ref (b 4), .int 0, .ref (b 6), .ref (b 7), .ref (b 8), .ref (b 9), .int 0, .ref (b 11), .int n, .ref (b 13), .ref (b 14)]))] H := hP
  have hD : va_D A [(mm, .inr (2, [.int t, .int 0, .int 0, .ref (b 3), .ref (b 4), .int 0, .ref (b 6), .ref (b 7), .ref (b 8), .ref (b 9), .int 0, .ref (b 11), .int n, .ref (b 13), .ref (b 14)]))] := hD
  have hp2 : r2 = (-1) := hp2.trans (by decide)
  subst hp2
  refine lv_istore (lv' := [(4, .int (-1)), (3, .int 0), (0, .ref mm), (1, .ref o), (2, .ref i)]) hx hb dX2_walk_15 hl (by decide) rfl (fun ls hl => ?_)
  refine lv_iload hx hb dX2_walk_17 (lv_at hl 0 rfl) ?_
  refine lv_iconst (v := (-1)) hx hb dX2_walk_19 (by decide) ?_
  refine lv_icmp_eq (tgt := 64) hx hb dX2_walk_20 (by decide) (fun _ => ?_) (fun c9 => absurd (by decide) c9)
  refine lv_iload_n hx hb dX2_walk_64 rfl (lv_at hl 1 rfl) ?_
  exact g_ir hx hb hr hlocks hP hD hS () [0] rfl (by decide) rfl dX2_walk_65 (Nat.le_of_ble_eq_true rfl) (Nat.le_of_ble_eq_true rfl) (rfl)
set_option maxHeartbeats 4000000 in
set_option maxRecDepth 100000 in
theorem c_X2_find (l : Launch) (g : gG) (sz : Nat) (mm : Nat) (b : Nat → Nat) (t n : Int32) (fa : Nat → Int32) : gMv l yX2_find wsX2_find ({ frames := 4, cells := 0, slots := 0, locals := 92 } : Room) g [.ref mm] [(mm, .inr (2, [.int t, .int 0, .int 0, .ref (b 3), .ref (b 4), .int 0, .ref (b 6), .ref (b 7), .ref (b 8), .ref (b 9), .int 0, .ref (b 11), .int n, .ref (b 13), .ref (b 14)])), ((b 13), .inl (g.2.1.1, 64, .inl fa))] sz (fun (u : Unit) => True) (fun (u : Unit) => [(mm, .inr (2, [.int t, .int 0, .int 0, .ref (b 3), .ref (b 4), .int 0, .ref (b 6), .ref (b 7), .ref (b 8), .ref (b 9), .int 0, .ref (b 11), .int 1, .ref (b 13), .ref (b 14)])), ((b 13), .inl (g.2.1.1, 64, .inl (upd fa 0 0)))]) 0 0 := by
  refine g_of (l := l) (y := yX2_find) (wy := wsX2_find) (rm := ({ frames := 4, cells := 0, slots := 0, locals := 92 } : Room)) (g := g) (av := [.ref mm]) (ws := [(mm, .inr (2, [.int t, .int 0, .int 0, .ref (b 3), .ref (b 4), .int 0, .ref (b 6), .ref (b 7), .ref (b 8), .ref (b 9), .int 0, .ref (b 11), .int n, .ref (b 13), .ref (b 14)])), ((b 13), .inl (g.2.1.1, 64, .inl fa))]) (sz := sz) (mc := 0) (ms := 0) (Qc := fun A => va_Qv (fun (u : Unit) => True) (fun u t9 => gPost g A ((fun (u : Unit) => [(mm, .inr (2, [.int t, .int 0, .int 0, .ref (b 3), .ref (b 4), .int 0, .ref (b 6), .ref (b 7), .ref (b 8), .ref (b 9), .int 0, .ref (b 11), .int 1, .ref (b 13), .ref (b 14)])), ((b 13), .inl (g.2.1.1, 64, .inl (upd fa 0 0)))]) u) t9) A) (cc := cX2_find) (maxL := 4) (ret := none) (by decide) rfl (Nat.le_of_ble_eq_true rfl) ?_
  intro p e s m below meth c A ls hx hb hr hml hown hts hlocks hnm hA hK hE hP hD hS hl
  have hl : lv_has ls 4 [(0, .ref mm)] := hl
  have hown : s.vm.findClass RX2 = some m.cls := hown
  have hP : va_P g.1 vwCl [(mm, .inr (2, [.int t, .int 0, .int 0, .ref (b 3), .ref (b 4), .int 0, .ref (b 6), .ref (b 7), .ref (b 8), .ref (b 9), .int 0, .ref (b 11), .int n, .ref (b 13), .ref (b 14)])), ((b 13), .inl (g.2.1.1, 64, .inl fa))] s.heap := hP
  have hinX2 : ∀ w ∈ u_ws RX2 TX2 15, w ∈ wsX2_find := by decide +kernel
  refine lv_aload_n hx hb dX2_find_0 rfl (lv_at hl 0 rfl) ?_
  refine lv_iconst (v := 0) hx hb dX2_find_1 (by decide) ?_
  refine va_put (D := g.1) (ci := 2) (v := .int 0) (ty := .int) (C := RX2) (T := TX2) (N := 15) hx hb hts hinX2 tyX2 tyX2_ok nmX2 hown hK hP hD hS 0 rfl rfl 12 (by decide) (hts (.fieldLink RX2 92 "DefaultReasonerModel" "count" "I") (by decide +kernel)) (fun _ h9 => h9) rfl (by decide +kernel) rfl rfl (Nat.le_of_ble_eq_true rfl) dX2_find_2 (fun H locs hP hD hS => ?_)
  have hP : va_P g.1 vwCl [(mm, .inr (2, [.int t, .int 0, .int 0, .ref (b 3), .ref (b 4), .int 0, .ref (b 6), .ref (b 7), .ref (b 8), .ref (b 9), .int 0, .ref (b 11), .int 0, .ref (b 13), .ref (b 14)])), ((b 13), .inl (g.2.1.1, 64, .inl fa))] H := hP
  have hD : va_D A [(mm, .inr (2, [.int t, .int 0, .int 0, .ref (b 3), .ref (b 4), .int 0, .ref (b 6), .ref (b 7), .ref (b 8), .ref (b 9), .int 0, .ref (b 11), .int 0, .ref (b 13), .ref (b 14)])), ((b 13), .inl (g.2.1.1, 64, .inl fa))] := hD
  refine lv_iconst (v := 0) hx hb dX2_find_5 (by decide) ?_
  refine lv_istore_n (lv' := [(1, .int 0), (0, .ref mm)]) hx hb dX2_find_6 rfl hl (by decide) rfl (fun ls hl => ?_)
  refine lv_iload_n hx hb dX2_find_7 rfl (lv_at hl 0 rfl) ?_
  refine lv_iconst (v := 1) hx hb dX2_find_8 (by decide) ?_
  refine lv_aload_n hx hb dX2_find_9 rfl (lv_at hl 1 rfl) ?_
  refine va_get (D := g.1) (ci := 2) (v := .int 0) (C := RX2) (T := TX2) (N := 15) hx hb hts hinX2 hown hK hP 0 rfl rfl 5 (by decide) (hts (.fieldLink RX2 43 "DefaultReasonerModel" "defaults" "I") (by decide +kernel)) (fun _ h9 => h9) rfl dX2_find_10 ?_
  refine lv_ishl hx hb dX2_find_13 ?_
  refine sy_i (y := 1) (by decide) ?_
  refine lv_icmp_ge (tgt := 99) hx hb dX2_find_14 (by decide) (fun c9 => absurd c9 (by decide)) (fun _ => ?_)
  refine lv_aload_n hx hb dX2_find_17 rfl (lv_at hl 1 rfl) ?_
  refine lv_iload_n hx hb dX2_find_18 rfl (lv_at hl 0 rfl) ?_
  refine gj_i (wc := [(mm, .inr (2, [.int t, .int 0, .int 0, .ref (b 3), .ref (b 4), .int 0, .ref (b 6), .ref (b 7), .ref (b 8), .ref (b 9), .int 0, .ref (b 11), .int 0, .ref (b 13), .ref (b 14)]))]) (wr := [((b 13), .inl (g.2.1.1, 64, .inl fa))]) (gr_V (n := 1) ⟨hx, hb, hml, hown, hts⟩ (c_X2_consequences l g H.size mm b t 0 0) gX2_find_X2_consequences rfl rfl rfl (by decide +kernel) ⟨Nat.le_of_ble_eq_true rfl, Nat.le_of_ble_eq_true rfl⟩ (gp_V hK hE hA hP hD hS [0] rfl (by decide) rfl (q0 := 0) rfl rfl) rfl hl.1 rfl (Nat.le_of_ble_eq_true rfl) dX2_find_19 ⟨Nat.le_of_ble_eq_true rfl, Nat.le_of_ble_eq_true rfl⟩) hP hD hS hA [0] [1] rfl rfl (by decide) (by decide) (fun r1 u1 H locs hp1 hP hD hS => ?_)
  have hP : va_P g.1 vwCl [((b 13), .inl (g.2.1.1, 64, .inl fa)), (mm, .inr (2, [.int t, .int 0, .int 0, .ref (b 3), .ref (b 4), .int 0, .ref (b 6), .ref (b 7), .ref (b 8), .ref (b 9), .int 0, .ref (b 11), .int 0, .ref (b 13), .ref (b 14)]))] H := hP
  have hD : va_D A [((b 13), .inl (g.2.1.1, 64, .inl fa)), (mm, .inr (2, [.int t, .int 0, .int 0, .ref (b 3), .ref (b 4), .int 0, .ref (b 6), .ref (b 7), .ref (b 8), .ref (b 9), .int 0, .ref (b 11), .int 0, .ref (b 13), .ref (b 14)]))] := hD
  have hp1 : r1 = 0 := hp1.trans (by decide)
  subst hp1
  refine lv_istore_n (lv' := [(2, .int 0), (1, .int 0), (0, .ref mm)]) hx hb dX2_find_22 rfl hl (by decide) rfl (fun ls hl => ?_)
  refine lv_aload_n hx hb dX2_find_23 rfl (lv_at hl 2 rfl) ?_
  refine lv_iload_n hx hb dX2_find_24 rfl (lv_at hl 0 rfl) ?_
  refine gj_i (wc := [(mm, .inr (2, [.int t, .int 0, .int 0, .ref (b 3), .ref (b 4), .int 0, .ref (b 6), .ref (b 7), .ref (b 8), .ref (b 9), .int 0, .ref (b 11), .int 0, .ref (b 13), .ref (b 14)]))]) (wr := [((b 13), .inl (g.2.1.1, 64, .inl fa))]) (gr_V (n := 1) ⟨hx, hb, hml, hown, hts⟩ (c_X2_generators l g H.size mm b t 0 0) gX2_find_X2_generators rfl rfl rfl (by decide +kernel) ⟨Nat.le_of_ble_eq_true rfl, Nat.le_of_ble_eq_true rfl⟩ (gp_V hK hE hA hP hD hS [1] rfl (by decide) rfl (q0 := 0) rfl rfl) rfl hl.1 rfl (Nat.le_of_ble_eq_true rfl) dX2_find_25 ⟨Nat.le_of_ble_eq_true rfl, Nat.le_of_ble_eq_true rfl⟩) hP hD hS hA [1] [0] rfl rfl (by decide) (by decide) (fun r2 u2 H locs hp2 hP hD hS => ?_)
  have hP : va_P g.1 vwCl [((b 13), .inl (g.2.1.1, 64, .inl fa)), (mm, .inr (2, [.int t, .int 0, .int 0, .ref (b 3), .ref (b 4), .int 0, .ref (b 6), .ref (b 7), .ref (b 8), .ref (b 9), .int 0, .ref (b 11), .int 0, .ref (b 13), .ref (b 14)]))] H := hP
  have hD : va_D A [((b 13), .inl (g.2.1.1, 64, .inl fa)), (mm, .inr (2, [.int t, .int 0, .int 0, .ref (b 3), .ref (b 4), .int 0, .ref (b 6), .ref (b 7), .ref (b 8), .ref (b 9), .int 0, .ref (b 11), .int 0, .ref (b 13), .ref (b 14)]))] := hD
  have hp2 : r2 = 0 := hp2.trans (by decide)
  subst hp2
  refine lv_iload_n hx hb dX2_find_28 rfl (lv_at hl 1 rfl) ?_
  refine lv_icmp_eq (tgt := 35) hx hb dX2_find_29 (by decide) (fun _ => ?_) (fun c9 => absurd (by decide) c9)
  refine lv_aload_n hx hb dX2_find_35 rfl (lv_at hl 2 rfl) ?_
  refine va_get (D := g.1) (ci := 2) (v := .int 0) (C := RX2) (T := TX2) (N := 15) hx hb hts hinX2 hown hK hP 1 rfl rfl 12 (by decide) (hts (.fieldLink RX2 92 "DefaultReasonerModel" "count" "I") (by decide +kernel)) (fun _ h9 => h9) rfl dX2_find_36 ?_
  refine lv_istore_n (lv' := [(3, .int 0), (2, .int 0), (1, .int 0), (0, .ref mm)]) hx hb dX2_find_39 rfl hl (by decide) rfl (fun ls hl => ?_)
  refine lv_iload_n hx hb dX2_find_40 rfl (lv_at hl 0 rfl) ?_
  refine lv_if_le (tgt := 76) hx hb dX2_find_41 (by decide) (fun _ => ?_) (fun c9 => absurd (by decide) c9)
  refine lv_aload_n hx hb dX2_find_76 rfl (lv_at hl 3 rfl) ?_
  refine va_get (D := g.1) (ci := 2) (v := .ref (b 13)) (C := RX2) (T := TX2) (N := 15) hx hb hts hinX2 hown hK hP 1 rfl rfl 13 (by decide) (hts (.fieldLink RX2 32 "DefaultReasonerModel" "all" "[I") (by decide +kernel)) (fun _ h9 => h9) rfl dX2_find_77 ?_
  refine lv_iload_n hx hb dX2_find_80 rfl (lv_at hl 0 rfl) ?_
  refine lv_iload_n hx hb dX2_find_81 rfl (lv_at hl 1 rfl) ?_
  refine va_iast hx hb hK hP hD hS 0 0 rfl rfl (by unfold vp_in; decide) dX2_find_82 (fun H locs hP hD hS => ?_)
  have hP : va_P g.1 vwCl [((b 13), .inl (g.2.1.1, 64, .inl (upd fa 0 0))), (mm, .inr (2, [.int t, .int 0, .int 0, .ref (b 3), .ref (b 4), .int 0, .ref (b 6), .ref (b 7), .ref (b 8), .ref (b 9), .int 0, .ref (b 11), .int 0, .ref (b 13), .ref (b 14)]))] H := hP
  have hD : va_D A [((b 13), .inl (g.2.1.1, 64, .inl (upd fa 0 0))), (mm, .inr (2, [.int t, .int 0, .int 0, .ref (b 3), .ref (b 4), .int 0, .ref (b 6), .ref (b 7), .ref (b 8), .ref (b 9), .int 0, .ref (b 11), .int 0, .ref (b 13), .ref (b 14)]))] := hD
  refine lv_aload_n hx hb dX2_find_83 rfl (lv_at hl 3 rfl) ?_
  refine lv_dup hx hb dX2_find_84 rfl ?_
  refine va_get (D := g.1) (ci := 2) (v := .int 0) (C := RX2) (T := TX2) (N := 15) hx hb hts hinX2 hown hK hP 1 rfl rfl 12 (by decide) (hts (.fieldLink RX2 92 "DefaultReasonerModel" "count" "I") (by decide +kernel)) (fun _ h9 => h9) rfl dX2_find_85 ?_
  refine lv_iconst (v := 1) hx hb dX2_find_88 (by decide) ?_
  refine lv_iadd hx hb dX2_find_89 ?_
  refine sy_i (y := 1) (by decide) ?_
  refine va_put (D := g.1) (ci := 2) (v := .int 1) (ty := .int) (C := RX2) (T := TX2) (N := 15) hx hb hts hinX2 tyX2 tyX2_ok nmX2 hown hK hP hD hS 1 rfl rfl 12 (by decide) (hts (.fieldLink RX2 92 "DefaultReasonerModel" "count" "I") (by decide +kernel)) (fun _ h9 => h9) rfl (by decide +kernel) rfl rfl (Nat.le_of_ble_eq_true rfl) dX2_find_90 (fun H locs hP hD hS => ?_)
  have hP : va_P g.1 vwCl [((b 13), .inl (g.2.1.1, 64, .inl (upd fa 0 0))), (mm, .inr (2, [.int t, .int 0, .int 0, .ref (b 3), .ref (b 4), .int 0, .ref (b 6), .ref (b 7), .ref (b 8), .ref (b 9), .int 0, .ref (b 11), .int 1, .ref (b 13), .ref (b 14)]))] H := hP
  have hD : va_D A [((b 13), .inl (g.2.1.1, 64, .inl (upd fa 0 0))), (mm, .inr (2, [.int t, .int 0, .int 0, .ref (b 3), .ref (b 4), .int 0, .ref (b 6), .ref (b 7), .ref (b 8), .ref (b 9), .int 0, .ref (b 11), .int 1, .ref (b 13), .ref (b 14)]))] := hD
  refine lv_iinc (v := 1) (lv' := [(1, .int 1), (3, .int 0), (2, .int 0), (0, .ref mm)]) hx hb dX2_find_93 hl (k := 2) rfl (by decide) (by decide) rfl (fun ls hl => ?_)
  refine lv_goto (tgt := 7) hx hb dX2_find_96 (by decide) ?_
  refine lv_iload_n hx hb dX2_find_7 rfl (lv_at hl 0 rfl) ?_
  refine lv_iconst (v := 1) hx hb dX2_find_8 (by decide) ?_
  refine lv_aload_n hx hb dX2_find_9 rfl (lv_at hl 3 rfl) ?_
  refine va_get (D := g.1) (ci := 2) (v := .int 0) (C := RX2) (T := TX2) (N := 15) hx hb hts hinX2 hown hK hP 1 rfl rfl 5 (by decide) (hts (.fieldLink RX2 43 "DefaultReasonerModel" "defaults" "I") (by decide +kernel)) (fun _ h9 => h9) rfl dX2_find_10 ?_
  refine lv_ishl hx hb dX2_find_13 ?_
  refine sy_i (y := 1) (by decide) ?_
  refine lv_icmp_ge (tgt := 99) hx hb dX2_find_14 (by decide) (fun _ => ?_) (fun c9 => absurd (by decide) c9)
  exact g_vr hx hb hr hlocks hP hD hS () [1, 0] rfl (by decide) rfl dX2_find_99 (Nat.le_of_ble_eq_true rfl) (Nat.le_of_ble_eq_true rfl) (trivial)
set_option maxHeartbeats 4000000 in
set_option maxRecDepth 100000 in
theorem c_X2_findPreferred (l : Launch) (g : gG) (sz : Nat) (mm : Nat) (b : Nat → Nat) (t n : Int32) (fa : Nat → Int32) (fp : Nat → Int32) : gMv l yX2_findPreferred wsX2_findPreferred ({ frames := 5, cells := 3, slots := 19, locals := 115 } : Room) g [.ref mm] [(mm, .inr (2, [.int t, .int 0, .int 0, .ref (b 3), .ref (b 4), .int 0, .ref (b 6), .ref (b 7), .ref (b 8), .ref (b 9), .int 0, .ref (b 11), .int n, .ref (b 13), .ref (b 14)])), ((b 13), .inl (g.2.1.1, 64, .inl fa)), ((b 14), .inl (g.2.1.2.1, 64, .inl fp))] sz (fun (u : Unit) => True) (fun (u : Unit) => [(mm, .inr (2, [.int t, .int 0, .int 0, .ref (b 3), .ref (b 4), .int 0, .ref (b 6), .ref (b 7), .ref (b 8), .ref (b 9), .int 0, .ref (b 11), .int 1, .ref (b 13), .ref (b 14)])), ((b 13), .inl (g.2.1.1, 64, .inl (upd fa 0 0))), ((b 14), .inl (g.2.1.2.1, 64, .inl (upd (upd fp 0 0) 0 1)))]) 3 19 := by
  refine g_of (l := l) (y := yX2_findPreferred) (wy := wsX2_findPreferred) (rm := ({ frames := 5, cells := 3, slots := 19, locals := 115 } : Room)) (g := g) (av := [.ref mm]) (ws := [(mm, .inr (2, [.int t, .int 0, .int 0, .ref (b 3), .ref (b 4), .int 0, .ref (b 6), .ref (b 7), .ref (b 8), .ref (b 9), .int 0, .ref (b 11), .int n, .ref (b 13), .ref (b 14)])), ((b 13), .inl (g.2.1.1, 64, .inl fa)), ((b 14), .inl (g.2.1.2.1, 64, .inl fp))]) (sz := sz) (mc := 3) (ms := 19) (Qc := fun A => va_Qv (fun (u : Unit) => True) (fun u t9 => gPost g A ((fun (u : Unit) => [(mm, .inr (2, [.int t, .int 0, .int 0, .ref (b 3), .ref (b 4), .int 0, .ref (b 6), .ref (b 7), .ref (b 8), .ref (b 9), .int 0, .ref (b 11), .int 1, .ref (b 13), .ref (b 14)])), ((b 13), .inl (g.2.1.1, 64, .inl (upd fa 0 0))), ((b 14), .inl (g.2.1.2.1, 64, .inl (upd (upd fp 0 0) 0 1)))]) u) t9) A) (cc := cX2_findPreferred) (maxL := 5) (ret := none) (by decide) rfl (Nat.le_of_ble_eq_true rfl) ?_
  intro p e s m below meth c A ls hx hb hr hml hown hts hlocks hnm hA hK hE hP hD hS hl
  have hl : lv_has ls 5 [(0, .ref mm)] := hl
  have hown : s.vm.findClass RX2 = some m.cls := hown
  have hP : va_P g.1 vwCl [(mm, .inr (2, [.int t, .int 0, .int 0, .ref (b 3), .ref (b 4), .int 0, .ref (b 6), .ref (b 7), .ref (b 8), .ref (b 9), .int 0, .ref (b 11), .int n, .ref (b 13), .ref (b 14)])), ((b 13), .inl (g.2.1.1, 64, .inl fa)), ((b 14), .inl (g.2.1.2.1, 64, .inl fp))] s.heap := hP
  have hinX2 : ∀ w ∈ u_ws RX2 TX2 15, w ∈ wsX2_findPreferred := by decide +kernel
  refine lv_aload_n hx hb dX2_findPreferred_0 rfl (lv_at hl 0 rfl) ?_
  refine gj_v (wc := [(mm, .inr (2, [.int t, .int 0, .int 0, .ref (b 3), .ref (b 4), .int 0, .ref (b 6), .ref (b 7), .ref (b 8), .ref (b 9), .int 0, .ref (b 11), .int n, .ref (b 13), .ref (b 14)])), ((b 13), .inl (g.2.1.1, 64, .inl fa))]) (wr := [((b 14), .inl (g.2.1.2.1, 64, .inl fp))]) (gr_V (n := 0) ⟨hx, hb, hml, hown, hts⟩ (c_X2_find l g s.heap.size mm b t n fa) gX2_findPreferred_X2_find rfl rfl rfl (by decide +kernel) ⟨Nat.le_of_ble_eq_true rfl, Nat.le_of_ble_eq_true rfl⟩ (gp_V hK hE hA hP hD hS [0, 1] rfl (by decide) rfl (q0 := 0) rfl rfl) rfl hl.1 rfl (Nat.le_of_ble_eq_true rfl) dX2_findPreferred_1 ⟨Nat.le_of_ble_eq_true rfl, Nat.le_of_ble_eq_true rfl⟩) hP hD hS hA [0, 1] [2] rfl rfl (by decide) (by decide) (fun u1 H locs hp1 hP hD hS => ?_)
  have hP : va_P g.1 vwCl [((b 14), .inl (g.2.1.2.1, 64, .inl fp)), (mm, .inr (2, [.int t, .int 0, .int 0, .ref (b 3), .ref (b 4), .int 0, .ref (b 6), .ref (b 7), .ref (b 8), .ref (b 9), .int 0, .ref (b 11), .int 1, .ref (b 13), .ref (b 14)])), ((b 13), .inl (g.2.1.1, 64, .inl (upd fa 0 0)))] H := hP
  have hD : va_D A [((b 14), .inl (g.2.1.2.1, 64, .inl fp)), (mm, .inr (2, [.int t, .int 0, .int 0, .ref (b 3), .ref (b 4), .int 0, .ref (b 6), .ref (b 7), .ref (b 8), .ref (b 9), .int 0, .ref (b 11), .int 1, .ref (b 13), .ref (b 14)])), ((b 13), .inl (g.2.1.1, 64, .inl (upd fa 0 0)))] := hD
  refine lv_iconst (v := 0) hx hb dX2_findPreferred_4 (by decide) ?_
  refine lv_istore_n (lv' := [(1, .int 0), (0, .ref mm)]) hx hb dX2_findPreferred_5 rfl hl (by decide) rfl (fun ls hl => ?_)
  refine lv_iload_n hx hb dX2_findPreferred_6 rfl (lv_at hl 0 rfl) ?_
  refine lv_aload_n hx hb dX2_findPreferred_7 rfl (lv_at hl 1 rfl) ?_
  refine va_get (D := g.1) (ci := 2) (v := .int 1) (C := RX2) (T := TX2) (N := 15) hx hb hts hinX2 hown hK hP 1 rfl rfl 12 (by decide) (hts (.fieldLink RX2 92 "DefaultReasonerModel" "count" "I") (by decide +kernel)) (fun _ h9 => h9) rfl dX2_findPreferred_8 ?_
  refine lv_icmp_ge (tgt := 27) hx hb dX2_findPreferred_11 (by decide) (fun c9 => absurd c9 (by decide)) (fun _ => ?_)
  refine lv_aload_n hx hb dX2_findPreferred_14 rfl (lv_at hl 1 rfl) ?_
  refine va_get (D := g.1) (ci := 2) (v := .ref (b 14)) (C := RX2) (T := TX2) (N := 15) hx hb hts hinX2 hown hK hP 1 rfl rfl 14 (by decide) (hts (.fieldLink RX2 35 "DefaultReasonerModel" "arePreferred" "[Z") (by decide +kernel)) (fun _ h9 => h9) rfl dX2_findPreferred_15 ?_
  refine lv_iload_n hx hb dX2_findPreferred_18 rfl (lv_at hl 0 rfl) ?_
  refine lv_iconst (v := 0) hx hb dX2_findPreferred_19 (by decide) ?_
  refine va_zast hx hb hK hP hD hS 0 1 rfl rfl (by unfold vp_in; decide) dX2_findPreferred_20 (fun H locs hP hD hS => ?_)
  have hP : va_P g.1 vwCl [((b 14), .inl (g.2.1.2.1, 64, .inl (upd fp 0 0))), (mm, .inr (2, [.int t, .int 0, .int 0, .ref (b 3), .ref (b 4), .int 0, .ref (b 6), .ref (b 7), .ref (b 8), .ref (b 9), .int 0, .ref (b 11), .int 1, .ref (b 13), .ref (b 14)])), ((b 13), .inl (g.2.1.1, 64, .inl (upd fa 0 0)))] H := hP
  have hD : va_D A [((b 14), .inl (g.2.1.2.1, 64, .inl (upd fp 0 0))), (mm, .inr (2, [.int t, .int 0, .int 0, .ref (b 3), .ref (b 4), .int 0, .ref (b 6), .ref (b 7), .ref (b 8), .ref (b 9), .int 0, .ref (b 11), .int 1, .ref (b 13), .ref (b 14)])), ((b 13), .inl (g.2.1.1, 64, .inl (upd fa 0 0)))] := hD
  refine lv_iinc (v := 1) (lv' := [(1, .int 1), (0, .ref mm)]) hx hb dX2_findPreferred_21 hl (k := 0) rfl (by decide) (by decide) rfl (fun ls hl => ?_)
  refine lv_goto (tgt := 6) hx hb dX2_findPreferred_24 (by decide) ?_
  refine lv_iload_n hx hb dX2_findPreferred_6 rfl (lv_at hl 0 rfl) ?_
  refine lv_aload_n hx hb dX2_findPreferred_7 rfl (lv_at hl 1 rfl) ?_
  refine va_get (D := g.1) (ci := 2) (v := .int 1) (C := RX2) (T := TX2) (N := 15) hx hb hts hinX2 hown hK hP 1 rfl rfl 12 (by decide) (hts (.fieldLink RX2 92 "DefaultReasonerModel" "count" "I") (by decide +kernel)) (fun _ h9 => h9) rfl dX2_findPreferred_8 ?_
  refine lv_icmp_ge (tgt := 27) hx hb dX2_findPreferred_11 (by decide) (fun _ => ?_) (fun c9 => absurd (by decide) c9)
  refine lv_bipush (v := 6) hx hb dX2_findPreferred_27 (by decide) ?_
  refine g_newa (a0 := (6, .inl (fun _ => 0))) (atype := .int) (ty := .int) (N' := 6) hx hb (hts (.arrayClass .int) (by decide +kernel)) rfl hK 0 rfl (fun _ h => h) hP hD hS hA (fun z => by rw [vp_cell_i]; rfl) (by decide) (by decide) (by decide) (Nat.le_of_ble_eq_true rfl) (Nat.le_of_ble_eq_true rfl) dX2_findPreferred_29 (fun qa2 H hP hD hS => ?_)
  have hP : va_P g.1 vwCl [((b 14), .inl (g.2.1.2.1, 64, .inl (upd fp 0 0))), (mm, .inr (2, [.int t, .int 0, .int 0, .ref (b 3), .ref (b 4), .int 0, .ref (b 6), .ref (b 7), .ref (b 8), .ref (b 9), .int 0, .ref (b 11), .int 1, .ref (b 13), .ref (b 14)])), ((b 13), .inl (g.2.1.1, 64, .inl (upd fa 0 0))), (qa2, .inl (g.2.1.1, 6, .inl (fun _ => 0)))] H := hP
  have hD : va_D A [((b 14), .inl (g.2.1.2.1, 64, .inl (upd fp 0 0))), (mm, .inr (2, [.int t, .int 0, .int 0, .ref (b 3), .ref (b 4), .int 0, .ref (b 6), .ref (b 7), .ref (b 8), .ref (b 9), .int 0, .ref (b 11), .int 1, .ref (b 13), .ref (b 14)])), ((b 13), .inl (g.2.1.1, 64, .inl (upd fa 0 0))), (qa2, .inl (g.2.1.1, 6, .inl (fun _ => 0)))] := hD
  refine lv_astore_n (lv' := [(1, .ref qa2), (0, .ref mm)]) hx hb dX2_findPreferred_31 rfl hl (by decide) rfl (fun ls hl => ?_)
  refine lv_iconst (v := 0) hx hb dX2_findPreferred_32 (by decide) ?_
  refine lv_istore_n (lv' := [(2, .int 0), (1, .ref qa2), (0, .ref mm)]) hx hb dX2_findPreferred_33 rfl hl (by decide) rfl (fun ls hl => ?_)
  refine lv_iload_n hx hb dX2_findPreferred_34 rfl (lv_at hl 0 rfl) ?_
  refine lv_aload_n hx hb dX2_findPreferred_35 rfl (lv_at hl 2 rfl) ?_
  refine gj_i (wc := [(mm, .inr (2, [.int t, .int 0, .int 0, .ref (b 3), .ref (b 4), .int 0, .ref (b 6), .ref (b 7), .ref (b 8), .ref (b 9), .int 0, .ref (b 11), .int 1, .ref (b 13), .ref (b 14)]))]) (wr := [((b 14), .inl (g.2.1.2.1, 64, .inl (upd fp 0 0))), ((b 13), .inl (g.2.1.1, 64, .inl (upd fa 0 0))), (qa2, .inl (g.2.1.1, 6, .inl (fun _ => 0)))]) (gr_V (n := 0) ⟨hx, hb, hml, hown, hts⟩ (c_X2_orders l g H.size mm b t 1) gX2_findPreferred_X2_orders rfl rfl rfl (by decide +kernel) ⟨Nat.le_of_ble_eq_true rfl, Nat.le_of_ble_eq_true rfl⟩ (gp_V hK hE hA hP hD hS [1] rfl (by decide) rfl (q0 := 0) rfl rfl) rfl hl.1 rfl (Nat.le_of_ble_eq_true rfl) dX2_findPreferred_36 ⟨Nat.le_of_ble_eq_true rfl, Nat.le_of_ble_eq_true rfl⟩) hP hD hS hA [1] [0, 2, 3] rfl rfl (by decide) (by decide) (fun r3 u3 H locs hp3 hP hD hS => ?_)
  have hP : va_P g.1 vwCl [((b 14), .inl (g.2.1.2.1, 64, .inl (upd fp 0 0))), ((b 13), .inl (g.2.1.1, 64, .inl (upd fa 0 0))), (qa2, .inl (g.2.1.1, 6, .inl (fun _ => 0))), (mm, .inr (2, [.int t, .int 0, .int 0, .ref (b 3), .ref (b 4), .int 0, .ref (b 6), .ref (b 7), .ref (b 8), .ref (b 9), .int 0, .ref (b 11), .int 1, .ref (b 13), .ref (b 14)]))] H := hP
  have hD : va_D A [((b 14), .inl (g.2.1.2.1, 64, .inl (upd fp 0 0))), ((b 13), .inl (g.2.1.1, 64, .inl (upd fa 0 0))), (qa2, .inl (g.2.1.1, 6, .inl (fun _ => 0))), (mm, .inr (2, [.int t, .int 0, .int 0, .ref (b 3), .ref (b 4), .int 0, .ref (b 6), .ref (b 7), .ref (b 8), .ref (b 9), .int 0, .ref (b 11), .int 1, .ref (b 13), .ref (b 14)]))] := hD
  have hp3 : r3 = 1 := hp3.trans (by decide)
  subst hp3
  refine lv_icmp_ge (tgt := 126) hx hb dX2_findPreferred_39 (by decide) (fun c9 => absurd c9 (by decide)) (fun _ => ?_)
  refine lv_aload_n hx hb dX2_findPreferred_42 rfl (lv_at hl 2 rfl) ?_
  refine lv_aload_n hx hb dX2_findPreferred_43 rfl (lv_at hl 1 rfl) ?_
  refine lv_iload_n hx hb dX2_findPreferred_44 rfl (lv_at hl 0 rfl) ?_
  refine gj_v (wc := [(mm, .inr (2, [.int t, .int 0, .int 0, .ref (b 3), .ref (b 4), .int 0, .ref (b 6), .ref (b 7), .ref (b 8), .ref (b 9), .int 0, .ref (b 11), .int 1, .ref (b 13), .ref (b 14)]))]) (wr := [((b 14), .inl (g.2.1.2.1, 64, .inl (upd fp 0 0))), ((b 13), .inl (g.2.1.1, 64, .inl (upd fa 0 0))), (qa2, .inl (g.2.1.1, 6, .inl (fun _ => 0)))]) (gr_V (n := 2) ⟨hx, hb, hml, hown, hts⟩ (c_X2_setOrder l g H.size mm b t 1 qa2 0) gX2_findPreferred_X2_setOrder rfl rfl rfl (by decide +kernel) ⟨Nat.le_of_ble_eq_true rfl, Nat.le_of_ble_eq_true rfl⟩ (gp_V hK hE hA hP hD hS [3] rfl (by decide) rfl (q0 := 0) rfl rfl) rfl hl.1 rfl (Nat.le_of_ble_eq_true rfl) dX2_findPreferred_45 ⟨Nat.le_of_ble_eq_true rfl, Nat.le_of_ble_eq_true rfl⟩) hP hD hS hA [3] [0, 1, 2] rfl rfl (by decide) (by decide) (fun u4 H locs hp4 hP hD hS => ?_)
  have hP : va_P g.1 vwCl [((b 14), .inl (g.2.1.2.1, 64, .inl (upd fp 0 0))), ((b 13), .inl (g.2.1.1, 64, .inl (upd fa 0 0))), (qa2, .inl (g.2.1.1, 6, .inl (fun _ => 0))), (mm, .inr (2, [.int t, .int 0, .int 0, .ref (b 3), .ref (b 4), .int 0, .ref (b 6), .ref (b 7), .ref (b 8), .ref (b 9), .int 0, .ref (b 11), .int 1, .ref (b 13), .ref (b 14)]))] H := hP
  have hD : va_D A [((b 14), .inl (g.2.1.2.1, 64, .inl (upd fp 0 0))), ((b 13), .inl (g.2.1.1, 64, .inl (upd fa 0 0))), (qa2, .inl (g.2.1.1, 6, .inl (fun _ => 0))), (mm, .inr (2, [.int t, .int 0, .int 0, .ref (b 3), .ref (b 4), .int 0, .ref (b 6), .ref (b 7), .ref (b 8), .ref (b 9), .int 0, .ref (b 11), .int 1, .ref (b 13), .ref (b 14)]))] := hD
  refine lv_aload_n hx hb dX2_findPreferred_48 rfl (lv_at hl 2 rfl) ?_
  refine lv_aload_n hx hb dX2_findPreferred_49 rfl (lv_at hl 1 rfl) ?_
  refine gj_i (wc := [(mm, .inr (2, [.int t, .int 0, .int 0, .ref (b 3), .ref (b 4), .int 0, .ref (b 6), .ref (b 7), .ref (b 8), .ref (b 9), .int 0, .ref (b 11), .int 1, .ref (b 13), .ref (b 14)]))]) (wr := [((b 14), .inl (g.2.1.2.1, 64, .inl (upd fp 0 0))), ((b 13), .inl (g.2.1.1, 64, .inl (upd fa 0 0))), (qa2, .inl (g.2.1.1, 6, .inl (fun _ => 0)))]) (gr_V (n := 1) ⟨hx, hb, hml, hown, hts⟩ (c_X2_respects l g H.size mm b t 1 qa2) gX2_findPreferred_X2_respects rfl rfl rfl (by decide +kernel) ⟨Nat.le_of_ble_eq_true rfl, Nat.le_of_ble_eq_true rfl⟩ (gp_V hK hE hA hP hD hS [3] rfl (by decide) rfl (q0 := 0) rfl rfl) rfl hl.1 rfl (Nat.le_of_ble_eq_true rfl) dX2_findPreferred_50 ⟨Nat.le_of_ble_eq_true rfl, Nat.le_of_ble_eq_true rfl⟩) hP hD hS hA [3] [0, 1, 2] rfl rfl (by decide) (by decide) (fun r5 u5 H locs hp5 hP hD hS => ?_)
  have hP : va_P g.1 vwCl [((b 14), .inl (g.2.1.2.1, 64, .inl (upd fp 0 0))), ((b 13), .inl (g.2.1.1, 64, .inl (upd fa 0 0))), (qa2, .inl (g.2.1.1, 6, .inl (fun _ => 0))), (mm, .inr (2, [.int t, .int 0, .int 0, .ref (b 3), .ref (b 4), .int 0, .ref (b 6), .ref (b 7), .ref (b 8), .ref (b 9), .int 0, .ref (b 11), .int 1, .ref (b 13), .ref (b 14)]))] H := hP
  have hD : va_D A [((b 14), .inl (g.2.1.2.1, 64, .inl (upd fp 0 0))), ((b 13), .inl (g.2.1.1, 64, .inl (upd fa 0 0))), (qa2, .inl (g.2.1.1, 6, .inl (fun _ => 0))), (mm, .inr (2, [.int t, .int 0, .int 0, .ref (b 3), .ref (b 4), .int 0, .ref (b 6), .ref (b 7), .ref (b 8), .ref (b 9), .int 0, .ref (b 11), .int 1, .ref (b 13), .ref (b 14)]))] := hD
  have hp5 : r5 = 1 := hp5.trans (by decide)
  subst hp5
  refine lv_if_ne (tgt := 59) hx hb dX2_findPreferred_53 (by decide) (fun _ => ?_) (fun c9 => absurd c9 (by decide))
  refine lv_aload_n hx hb dX2_findPreferred_59 rfl (lv_at hl 2 rfl) ?_
  refine lv_aload_n hx hb dX2_findPreferred_60 rfl (lv_at hl 1 rfl) ?_
  refine lv_bipush (v := 7) hx hb dX2_findPreferred_61 (by decide) ?_
  refine g_newa (a0 := (7, .inl (fun _ => 0))) (atype := .int) (ty := .int) (N' := 7) hx hb (hts (.arrayClass .int) (by decide +kernel)) rfl hK 0 rfl (fun _ h => h) hP hD hS hA (fun z => by rw [vp_cell_i]; rfl) (by decide) (by decide) (by decide) (Nat.le_of_ble_eq_true rfl) (Nat.le_of_ble_eq_true rfl) dX2_findPreferred_63 (fun qa6 H hP hD hS => ?_)
  have hP : va_P g.1 vwCl [((b 14), .inl (g.2.1.2.1, 64, .inl (upd fp 0 0))), ((b 13), .inl (g.2.1.1, 64, .inl (upd fa 0 0))), (qa2, .inl (g.2.1.1, 6, .inl (fun _ => 0))), (mm, .inr (2, [.int t, .int 0, .int 0, .ref (b 3), .ref (b 4), .int 0, .ref (b 6), .ref (b 7), .ref (b 8), .ref (b 9), .int 0, .ref (b 11), .int 1, .ref (b 13), .ref (b 14)])), (qa6, .inl (g.2.1.1, 7, .inl (fun _ => 0)))] H := hP
  have hD : va_D A [((b 14), .inl (g.2.1.2.1, 64, .inl (upd fp 0 0))), ((b 13), .inl (g.2.1.1, 64, .inl (upd fa 0 0))), (qa2, .inl (g.2.1.1, 6, .inl (fun _ => 0))), (mm, .inr (2, [.int t, .int 0, .int 0, .ref (b 3), .ref (b 4), .int 0, .ref (b 6), .ref (b 7), .ref (b 8), .ref (b 9), .int 0, .ref (b 11), .int 1, .ref (b 13), .ref (b 14)])), (qa6, .inl (g.2.1.1, 7, .inl (fun _ => 0)))] := hD
  refine gj_i (wc := [(mm, .inr (2, [.int t, .int 0, .int 0, .ref (b 3), .ref (b 4), .int 0, .ref (b 6), .ref (b 7), .ref (b 8), .ref (b 9), .int 0, .ref (b 11), .int 1, .ref (b 13), .ref (b 14)]))]) (wr := [((b 14), .inl (g.2.1.2.1, 64, .inl (upd fp 0 0))), ((b 13), .inl (g.2.1.1, 64, .inl (upd fa 0 0))), (qa2, .inl (g.2.1.1, 6, .inl (fun _ => 0))), (qa6, .inl (g.2.1.1, 7, .inl (fun _ => 0)))]) (gr_V (n := 2) ⟨hx, hb, hml, hown, hts⟩ (c_X2_walk l g H.size mm b t 1 qa2 qa6) gX2_findPreferred_X2_walk rfl rfl rfl (by decide +kernel) ⟨Nat.le_of_ble_eq_true rfl, Nat.le_of_ble_eq_true rfl⟩ (gp_V hK hE hA hP hD hS [3] rfl (by decide) rfl (q0 := 0) rfl rfl) rfl hl.1 rfl (Nat.le_of_ble_eq_true rfl) dX2_findPreferred_65 ⟨Nat.le_of_ble_eq_true rfl, Nat.le_of_ble_eq_true rfl⟩) hP hD hS hA [3] [0, 1, 2, 4] rfl rfl (by decide) (by decide) (fun r7 u7 H locs hp7 hP hD hS => ?_)
  have hP : va_P g.1 vwCl [((b 14), .inl (g.2.1.2.1, 64, .inl (upd fp 0 0))), ((b 13), .inl (g.2.1.1, 64, .inl (upd fa 0 0))), (qa2, .inl (g.2.1.1, 6, .inl (fun _ => 0))), (qa6, .inl (g.2.1.1, 7, .inl (fun _ => 0))), (mm, .inr (2, [.int t, .int 0, .int 0, .ref (b 3), .ref (b 4), .int 0, .ref (b 6), .ref (b 7), .ref (b 8), .ref (b 9), .int 0, .ref (b 11), .int 1, .ref (b 13), .ref (b 14)]))] H := hP
  have hD : va_D A [((b 14), .inl (g.2.1.2.1, 64, .inl (upd fp 0 0))), ((b 13), .inl (g.2.1.1, 64, .inl (upd fa 0 0))), (qa2, .inl (g.2.1.1, 6, .inl (fun _ => 0))), (qa6, .inl (g.2.1.1, 7, .inl (fun _ => 0))), (mm, .inr (2, [.int t, .int 0, .int 0, .ref (b 3), .ref (b 4), .int 0, .ref (b 6), .ref (b 7), .ref (b 8), .ref (b 9), .int 0, .ref (b 11), .int 1, .ref (b 13), .ref (b 14)]))] := hD
  have hp7 : r7 = 0 := hp7.trans (by decide)
  subst hp7
  refine lv_istore_n (lv' := [(3, .int 0), (2, .int 0), (1, .ref qa2), (0, .ref mm)]) hx hb dX2_findPreferred_68 rfl hl (by decide) rfl (fun ls hl => ?_)
  refine lv_iconst (v := 0) hx hb dX2_findPreferred_69 (by decide) ?_
  refine lv_istore (lv' := [(4, .int 0), (3, .int 0), (2, .int 0), (1, .ref qa2), (0, .ref mm)]) hx hb dX2_findPreferred_70 hl (by decide) rfl (fun ls hl => ?_)
  refine lv_iload hx hb dX2_findPreferred_72 (lv_at hl 0 rfl) ?_
  refine lv_aload_n hx hb dX2_findPreferred_74 rfl (lv_at hl 4 rfl) ?_
  refine va_get (D := g.1) (ci := 2) (v := .int 1) (C := RX2) (T := TX2) (N := 15) hx hb hts hinX2 hown hK hP 4 rfl rfl 12 (by decide) (hts (.fieldLink RX2 92 "DefaultReasonerModel" "count" "I") (by decide +kernel)) (fun _ h9 => h9) rfl dX2_findPreferred_75 ?_
  refine lv_icmp_ge (tgt := 120) hx hb dX2_findPreferred_78 (by decide) (fun c9 => absurd c9 (by decide)) (fun _ => ?_)
  refine lv_aload_n hx hb dX2_findPreferred_81 rfl (lv_at hl 4 rfl) ?_
  refine va_get (D := g.1) (ci := 2) (v := .ref (b 14)) (C := RX2) (T := TX2) (N := 15) hx hb hts hinX2 hown hK hP 4 rfl rfl 14 (by decide) (hts (.fieldLink RX2 35 "DefaultReasonerModel" "arePreferred" "[Z") (by decide +kernel)) (fun _ h9 => h9) rfl dX2_findPreferred_82 ?_
  refine lv_iload hx hb dX2_findPreferred_85 (lv_at hl 0 rfl) ?_
  refine lv_aload_n hx hb dX2_findPreferred_87 rfl (lv_at hl 4 rfl) ?_
  refine va_get (D := g.1) (ci := 2) (v := .ref (b 14)) (C := RX2) (T := TX2) (N := 15) hx hb hts hinX2 hown hK hP 4 rfl rfl 14 (by decide) (hts (.fieldLink RX2 35 "DefaultReasonerModel" "arePreferred" "[Z") (by decide +kernel)) (fun _ h9 => h9) rfl dX2_findPreferred_88 ?_
  refine lv_iload hx hb dX2_findPreferred_91 (lv_at hl 0 rfl) ?_
  refine va_zald hx hb hK hP 0 1 rfl rfl (by unfold vp_in; decide) dX2_findPreferred_93 ?_
  refine sy_i (y := 0) (rfl) ?_
  refine lv_if_ne (tgt := 108) hx hb dX2_findPreferred_94 (by decide) (fun c9 => absurd (by decide) c9) (fun _ => ?_)
  refine lv_aload_n hx hb dX2_findPreferred_97 rfl (lv_at hl 4 rfl) ?_
  refine va_get (D := g.1) (ci := 2) (v := .ref (b 13)) (C := RX2) (T := TX2) (N := 15) hx hb hts hinX2 hown hK hP 4 rfl rfl 13 (by decide) (hts (.fieldLink RX2 32 "DefaultReasonerModel" "all" "[I") (by decide +kernel)) (fun _ h9 => h9) rfl dX2_findPreferred_98 ?_
  refine lv_iload hx hb dX2_findPreferred_101 (lv_at hl 0 rfl) ?_
  refine va_iald hx hb hK hP 1 0 rfl rfl (by unfold vp_in; decide) dX2_findPreferred_103 ?_
  refine sy_i (y := 0) (rfl) ?_
  refine lv_iload_n hx hb dX2_findPreferred_104 rfl (lv_at hl 1 rfl) ?_
  refine lv_icmp_ne (tgt := 112) hx hb dX2_findPreferred_105 (by decide) (fun c9 => absurd (by decide) c9) (fun _ => ?_)
  refine lv_iconst (v := 1) hx hb dX2_findPreferred_108 (by decide) ?_
  refine lv_goto (tgt := 113) hx hb dX2_findPreferred_109 (by decide) ?_
  refine va_zast hx hb hK hP hD hS 0 1 rfl rfl (by unfold vp_in; decide) dX2_findPreferred_113 (fun H locs hP hD hS => ?_)
  have hP : va_P g.1 vwCl [((b 14), .inl (g.2.1.2.1, 64, .inl (upd (upd fp 0 0) 0 1))), ((b 13), .inl (g.2.1.1, 64, .inl (upd fa 0 0))), (qa2, .inl (g.2.1.1, 6, .inl (fun _ => 0))), (qa6, .inl (g.2.1.1, 7, .inl (fun _ => 0))), (mm, .inr (2, [.int t, .int 0, .int 0, .ref (b 3), .ref (b 4), .int 0, .ref (b 6), .ref (b 7), .ref (b 8), .ref (b 9), .int 0, .ref (b 11), .int 1, .ref (b 13), .ref (b 14)]))] H := hP
  have hD : va_D A [((b 14), .inl (g.2.1.2.1, 64, .inl (upd (upd fp 0 0) 0 1))), ((b 13), .inl (g.2.1.1, 64, .inl (upd fa 0 0))), (qa2, .inl (g.2.1.1, 6, .inl (fun _ => 0))), (qa6, .inl (g.2.1.1, 7, .inl (fun _ => 0))), (mm, .inr (2, [.int t, .int 0, .int 0, .ref (b 3), .ref (b 4), .int 0, .ref (b 6), .ref (b 7), .ref (b 8), .ref (b 9), .int 0, .ref (b 11), .int 1, .ref (b 13), .ref (b 14)]))] := hD
  refine lv_iinc (v := 1) (lv' := [(4, .int 1), (3, .int 0), (2, .int 0), (1, .ref qa2), (0, .ref mm)]) hx hb dX2_findPreferred_114 hl (k := 0) rfl (by decide) (by decide) rfl (fun ls hl => ?_)
  refine lv_goto (tgt := 72) hx hb dX2_findPreferred_117 (by decide) ?_
  refine lv_iload hx hb dX2_findPreferred_72 (lv_at hl 0 rfl) ?_
  refine lv_aload_n hx hb dX2_findPreferred_74 rfl (lv_at hl 4 rfl) ?_
  refine va_get (D := g.1) (ci := 2) (v := .int 1) (C := RX2) (T := TX2) (N := 15) hx hb hts hinX2 hown hK hP 4 rfl rfl 12 (by decide) (hts (.fieldLink RX2 92 "DefaultReasonerModel" "count" "I") (by decide +kernel)) (fun _ h9 => h9) rfl dX2_findPreferred_75 ?_
  refine lv_icmp_ge (tgt := 120) hx hb dX2_findPreferred_78 (by decide) (fun _ => ?_) (fun c9 => absurd (by decide) c9)
  refine lv_iinc (v := 1) (lv' := [(2, .int 1), (4, .int 1), (3, .int 0), (1, .ref qa2), (0, .ref mm)]) hx hb dX2_findPreferred_120 hl (k := 2) rfl (by decide) (by decide) rfl (fun ls hl => ?_)
  refine lv_goto (tgt := 34) hx hb dX2_findPreferred_123 (by decide) ?_
  refine lv_iload_n hx hb dX2_findPreferred_34 rfl (lv_at hl 0 rfl) ?_
  refine lv_aload_n hx hb dX2_findPreferred_35 rfl (lv_at hl 4 rfl) ?_
  refine gj_i (wc := [(mm, .inr (2, [.int t, .int 0, .int 0, .ref (b 3), .ref (b 4), .int 0, .ref (b 6), .ref (b 7), .ref (b 8), .ref (b 9), .int 0, .ref (b 11), .int 1, .ref (b 13), .ref (b 14)]))]) (wr := [((b 14), .inl (g.2.1.2.1, 64, .inl (upd (upd fp 0 0) 0 1))), ((b 13), .inl (g.2.1.1, 64, .inl (upd fa 0 0))), (qa2, .inl (g.2.1.1, 6, .inl (fun _ => 0))), (qa6, .inl (g.2.1.1, 7, .inl (fun _ => 0)))]) (gr_V (n := 0) ⟨hx, hb, hml, hown, hts⟩ (c_X2_orders l g H.size mm b t 1) gX2_findPreferred_X2_orders rfl rfl rfl (by decide +kernel) ⟨Nat.le_of_ble_eq_true rfl, Nat.le_of_ble_eq_true rfl⟩ (gp_V hK hE hA hP hD hS [4] rfl (by decide) rfl (q0 := 0) rfl rfl) rfl hl.1 rfl (Nat.le_of_ble_eq_true rfl) dX2_findPreferred_36 ⟨Nat.le_of_ble_eq_true rfl, Nat.le_of_ble_eq_true rfl⟩) hP hD hS hA [4] [0, 1, 2, 3] rfl rfl (by decide) (by decide) (fun r8 u8 H locs hp8 hP hD hS => ?_)
  have hP : va_P g.1 vwCl [((b 14), .inl (g.2.1.2.1, 64, .inl (upd (upd fp 0 0) 0 1))), ((b 13), .inl (g.2.1.1, 64, .inl (upd fa 0 0))), (qa2, .inl (g.2.1.1, 6, .inl (fun _ => 0))), (qa6, .inl (g.2.1.1, 7, .inl (fun _ => 0))), (mm, .inr (2, [.int t, .int 0, .int 0, .ref (b 3), .ref (b 4), .int 0, .ref (b 6), .ref (b 7), .ref (b 8), .ref (b 9), .int 0, .ref (b 11), .int 1, .ref (b 13), .ref (b 14)]))] H := hP
  have hD : va_D A [((b 14), .inl (g.2.1.2.1, 64, .inl (upd (upd fp 0 0) 0 1))), ((b 13), .inl (g.2.1.1, 64, .inl (upd fa 0 0))), (qa2, .inl (g.2.1.1, 6, .inl (fun _ => 0))), (qa6, .inl (g.2.1.1, 7, .inl (fun _ => 0))), (mm, .inr (2, [.int t, .int 0, .int 0, .ref (b 3), .ref (b 4), .int 0, .ref (b 6), .ref (b 7), .ref (b 8), .ref (b 9), .int 0, .ref (b 11), .int 1, .ref (b 13), .ref (b 14)]))] := hD
  have hp8 : r8 = 1 := hp8.trans (by decide)
  subst hp8
  refine lv_icmp_ge (tgt := 126) hx hb dX2_findPreferred_39 (by decide) (fun _ => ?_) (fun c9 => absurd (by decide) c9)
  exact g_vr hx hb hr hlocks hP hD hS () [4, 1, 0] rfl (by decide) rfl dX2_findPreferred_126 (Nat.le_of_ble_eq_true rfl) (Nat.le_of_ble_eq_true rfl) (trivial)
end
