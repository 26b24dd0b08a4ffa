section
-- ===== PART A: goes FIRST, ahead of the names: the tables' words, and 'selects' of the private methods out of them =====
/-- a private method of a class that the tables say can be made, by its rows of tables_1 -/
def lw_okq (q : MethodName × Nat) : Prop := (q.1.cls ≠ "java/lang/invoke/MethodHandle" ∧ q.1.cls ≠ "java/lang/invoke/VarHandle") ∧ Cond.instantiable q.1.cls q.2 ∈ tables_1 ∧ Cond.privateMethod q.1 ∈ tables_1 ∧ Cond.instanceMethod q.1 ∈ tables_1
theorem lw_p0 : lw_okq (⟨"DefaultReasoner$Priorities", "pairs", "()I"⟩, 2) := ⟨⟨by decide +kernel, by decide +kernel⟩, List.mem_of_getElem? (i := 20) (by decide +kernel), List.mem_of_getElem? (i := 100) (by decide +kernel), List.mem_of_getElem? (i := 101) (by decide +kernel)⟩
theorem lw_p1 : lw_okq (⟨"DefaultReasoner$Priorities", "clear", "()V"⟩, 2) := ⟨⟨by decide +kernel, by decide +kernel⟩, List.mem_of_getElem? (i := 20) (by decide +kernel), List.mem_of_getElem? (i := 110) (by decide +kernel), List.mem_of_getElem? (i := 111) (by decide +kernel)⟩
theorem lw_p2 : lw_okq (⟨"DefaultReasoner", "findExtensions", "()V"⟩, 20) := ⟨⟨by decide +kernel, by decide +kernel⟩, List.mem_of_getElem? (i := 12) (by decide +kernel), List.mem_of_getElem? (i := 126) (by decide +kernel), List.mem_of_getElem? (i := 127) (by decide +kernel)⟩
theorem lw_p3 : lw_okq (⟨"DefaultReasoner", "conclusionsOf", "(I)I"⟩, 20) := ⟨⟨by decide +kernel, by decide +kernel⟩, List.mem_of_getElem? (i := 12) (by decide +kernel), List.mem_of_getElem? (i := 130) (by decide +kernel), List.mem_of_getElem? (i := 131) (by decide +kernel)⟩
theorem lw_p4 : lw_okq (⟨"DefaultReasoner", "closeUp", "(I)I"⟩, 20) := ⟨⟨by decide +kernel, by decide +kernel⟩, List.mem_of_getElem? (i := 12) (by decide +kernel), List.mem_of_getElem? (i := 137) (by decide +kernel), List.mem_of_getElem? (i := 138) (by decide +kernel)⟩
theorem lw_p5 : lw_okq (⟨"DefaultReasoner", "usableFor", "(I)I"⟩, 20) := ⟨⟨by decide +kernel, by decide +kernel⟩, List.mem_of_getElem? (i := 12) (by decide +kernel), List.mem_of_getElem? (i := 148) (by decide +kernel), List.mem_of_getElem? (i := 149) (by decide +kernel)⟩
theorem lw_p6 : lw_okq (⟨"DefaultReasoner", "opens", "(II)Z"⟩, 20) := ⟨⟨by decide +kernel, by decide +kernel⟩, List.mem_of_getElem? (i := 12) (by decide +kernel), List.mem_of_getElem? (i := 152) (by decide +kernel), List.mem_of_getElem? (i := 153) (by decide +kernel)⟩
theorem lw_p7 : lw_okq (⟨"DefaultReasoner", "generatorsFor", "(I)I"⟩, 20) := ⟨⟨by decide +kernel, by decide +kernel⟩, List.mem_of_getElem? (i := 12) (by decide +kernel), List.mem_of_getElem? (i := 156) (by decide +kernel), List.mem_of_getElem? (i := 157) (by decide +kernel)⟩
theorem lw_p8 : lw_okq (⟨"DefaultReasoner", "insertExtension", "(I)V"⟩, 20) := ⟨⟨by decide +kernel, by decide +kernel⟩, List.mem_of_getElem? (i := 12) (by decide +kernel), List.mem_of_getElem? (i := 160) (by decide +kernel), List.mem_of_getElem? (i := 161) (by decide +kernel)⟩
theorem lw_p9 : lw_okq (⟨"DefaultReasoner", "findPreferred", "()V"⟩, 20) := ⟨⟨by decide +kernel, by decide +kernel⟩, List.mem_of_getElem? (i := 12) (by decide +kernel), List.mem_of_getElem? (i := 168) (by decide +kernel), List.mem_of_getElem? (i := 169) (by decide +kernel)⟩
theorem lw_p10 : lw_okq (⟨"DefaultReasoner", "layOut", "(I)V"⟩, 20) := ⟨⟨by decide +kernel, by decide +kernel⟩, List.mem_of_getElem? (i := 12) (by decide +kernel), List.mem_of_getElem? (i := 174) (by decide +kernel), List.mem_of_getElem? (i := 175) (by decide +kernel)⟩
theorem lw_p11 : lw_okq (⟨"DefaultReasoner", "keepsPriorities", "()Z"⟩, 20) := ⟨⟨by decide +kernel, by decide +kernel⟩, List.mem_of_getElem? (i := 12) (by decide +kernel), List.mem_of_getElem? (i := 178) (by decide +kernel), List.mem_of_getElem? (i := 179) (by decide +kernel)⟩
theorem lw_p12 : lw_okq (⟨"DefaultReasoner$Priorities", "comesBeforeOneOf", "(II)Z"⟩, 2) := ⟨⟨by decide +kernel, by decide +kernel⟩, List.mem_of_getElem? (i := 20) (by decide +kernel), List.mem_of_getElem? (i := 182) (by decide +kernel), List.mem_of_getElem? (i := 183) (by decide +kernel)⟩
theorem lw_p13 : lw_okq (⟨"DefaultReasoner", "endOfWalk", "()I"⟩, 20) := ⟨⟨by decide +kernel, by decide +kernel⟩, List.mem_of_getElem? (i := 12) (by decide +kernel), List.mem_of_getElem? (i := 186) (by decide +kernel), List.mem_of_getElem? (i := 187) (by decide +kernel)⟩
theorem lw_p14 : lw_okq (⟨"DefaultReasoner", "firstUsable", "(I)I"⟩, 20) := ⟨⟨by decide +kernel, by decide +kernel⟩, List.mem_of_getElem? (i := 12) (by decide +kernel), List.mem_of_getElem? (i := 190) (by decide +kernel), List.mem_of_getElem? (i := 191) (by decide +kernel)⟩
theorem lw_p15 : lw_okq (⟨"DefaultReasoner", "markPreferred", "(I)V"⟩, 20) := ⟨⟨by decide +kernel, by decide +kernel⟩, List.mem_of_getElem? (i := 12) (by decide +kernel), List.mem_of_getElem? (i := 194) (by decide +kernel), List.mem_of_getElem? (i := 195) (by decide +kernel)⟩
def lw_privs_1 : List (MethodName × Nat) := [(⟨"DefaultReasoner$Priorities", "pairs", "()I"⟩, 2), (⟨"DefaultReasoner$Priorities", "clear", "()V"⟩, 2), (⟨"DefaultReasoner", "findExtensions", "()V"⟩, 20), (⟨"DefaultReasoner", "conclusionsOf", "(I)I"⟩, 20), (⟨"DefaultReasoner", "closeUp", "(I)I"⟩, 20), (⟨"DefaultReasoner", "usableFor", "(I)I"⟩, 20), (⟨"DefaultReasoner", "opens", "(II)Z"⟩, 20), (⟨"DefaultReasoner", "generatorsFor", "(I)I"⟩, 20), (⟨"DefaultReasoner", "insertExtension", "(I)V"⟩, 20), (⟨"DefaultReasoner", "findPreferred", "()V"⟩, 20), (⟨"DefaultReasoner", "layOut", "(I)V"⟩, 20), (⟨"DefaultReasoner", "keepsPriorities", "()Z"⟩, 20), (⟨"DefaultReasoner$Priorities", "comesBeforeOneOf", "(II)Z"⟩, 2), (⟨"DefaultReasoner", "endOfWalk", "()I"⟩, 20), (⟨"DefaultReasoner", "firstUsable", "(I)I"⟩, 20), (⟨"DefaultReasoner", "markPreferred", "(I)V"⟩, 20)]
theorem lw_r1 : ∀ q ∈ lw_privs_1, lw_okq q := List.forall_mem_cons.mpr ⟨lw_p0, List.forall_mem_cons.mpr ⟨lw_p1, List.forall_mem_cons.mpr ⟨lw_p2, List.forall_mem_cons.mpr ⟨lw_p3, List.forall_mem_cons.mpr ⟨lw_p4, List.forall_mem_cons.mpr ⟨lw_p5, List.forall_mem_cons.mpr ⟨lw_p6, List.forall_mem_cons.mpr ⟨lw_p7, List.forall_mem_cons.mpr ⟨lw_p8, List.forall_mem_cons.mpr ⟨lw_p9, List.forall_mem_cons.mpr ⟨lw_p10, List.forall_mem_cons.mpr ⟨lw_p11, List.forall_mem_cons.mpr ⟨lw_p12, List.forall_mem_cons.mpr ⟨lw_p13, List.forall_mem_cons.mpr ⟨lw_p14, List.forall_mem_cons.mpr ⟨lw_p15, fun _ h => absurd h List.not_mem_nil⟩⟩⟩⟩⟩⟩⟩⟩⟩⟩⟩⟩⟩⟩⟩⟩
theorem lw_p16 : lw_okq (⟨"DefaultReasoner$Priorities", "comesBefore", "(II)Z"⟩, 2) := ⟨⟨by decide +kernel, by decide +kernel⟩, List.mem_of_getElem? (i := 20) (by decide +kernel), List.mem_of_getElem? (i := 215) (by decide +kernel), List.mem_of_getElem? (i := 216) (by decide +kernel)⟩
theorem lw_p17 : lw_okq (⟨"java/lang/Throwable", "fillInStackTrace", "(I)Ljava/lang/Throwable;"⟩, 6) := ⟨⟨by decide +kernel, by decide +kernel⟩, List.mem_of_getElem? (i := 269) (by decide +kernel), List.mem_of_getElem? (i := 267) (by decide +kernel), List.mem_of_getElem? (i := 268) (by decide +kernel)⟩
theorem lw_p18 : lw_okq (⟨"DefaultReasoner", "forgetFindings", "()V"⟩, 20) := ⟨⟨by decide +kernel, by decide +kernel⟩, List.mem_of_getElem? (i := 12) (by decide +kernel), List.mem_of_getElem? (i := 299) (by decide +kernel), List.mem_of_getElem? (i := 300) (by decide +kernel)⟩
theorem lw_p19 : lw_okq (⟨"DefaultReasoner$Priorities", "removeAllWith", "(I)V"⟩, 2) := ⟨⟨by decide +kernel, by decide +kernel⟩, List.mem_of_getElem? (i := 20) (by decide +kernel), List.mem_of_getElem? (i := 371) (by decide +kernel), List.mem_of_getElem? (i := 372) (by decide +kernel)⟩
theorem lw_p20 : lw_okq (⟨"DefaultReasoner$Priorities", "followChains", "()V"⟩, 2) := ⟨⟨by decide +kernel, by decide +kernel⟩, List.mem_of_getElem? (i := 20) (by decide +kernel), List.mem_of_getElem? (i := 375) (by decide +kernel), List.mem_of_getElem? (i := 376) (by decide +kernel)⟩
theorem lw_p21 : lw_okq (⟨"DefaultReasoner", "checkDefault", "(I)V"⟩, 20) := ⟨⟨by decide +kernel, by decide +kernel⟩, List.mem_of_getElem? (i := 12) (by decide +kernel), List.mem_of_getElem? (i := 386) (by decide +kernel), List.mem_of_getElem? (i := 387) (by decide +kernel)⟩
theorem lw_p22 : lw_okq (⟨"DefaultReasoner$Priorities", "put", "(II)V"⟩, 2) := ⟨⟨by decide +kernel, by decide +kernel⟩, List.mem_of_getElem? (i := 20) (by decide +kernel), List.mem_of_getElem? (i := 392) (by decide +kernel), List.mem_of_getElem? (i := 393) (by decide +kernel)⟩
theorem lw_p23 : lw_okq (⟨"DefaultReasoner", "checkExtension", "(I)V"⟩, 20) := ⟨⟨by decide +kernel, by decide +kernel⟩, List.mem_of_getElem? (i := 12) (by decide +kernel), List.mem_of_getElem? (i := 438) (by decide +kernel), List.mem_of_getElem? (i := 439) (by decide +kernel)⟩
theorem lw_p24 : lw_okq (⟨"DefaultReasoner", "checkOrder", "(I)V"⟩, 20) := ⟨⟨by decide +kernel, by decide +kernel⟩, List.mem_of_getElem? (i := 12) (by decide +kernel), List.mem_of_getElem? (i := 471) (by decide +kernel), List.mem_of_getElem? (i := 472) (by decide +kernel)⟩
theorem lw_p25 : lw_okq (⟨"DefaultReasonerModel", "fail", "(I)I"⟩, 15) := ⟨⟨by decide +kernel, by decide +kernel⟩, List.mem_of_getElem? (i := 491) (by decide +kernel), List.mem_of_getElem? (i := 558) (by decide +kernel), List.mem_of_getElem? (i := 559) (by decide +kernel)⟩
theorem lw_p26 : lw_okq (⟨"DefaultReasonerModel", "isDefault", "(I)Z"⟩, 15) := ⟨⟨by decide +kernel, by decide +kernel⟩, List.mem_of_getElem? (i := 491) (by decide +kernel), List.mem_of_getElem? (i := 582) (by decide +kernel), List.mem_of_getElem? (i := 583) (by decide +kernel)⟩
theorem lw_p27 : lw_okq (⟨"DefaultReasonerModel", "before", "(II)Z"⟩, 15) := ⟨⟨by decide +kernel, by decide +kernel⟩, List.mem_of_getElem? (i := 491) (by decide +kernel), List.mem_of_getElem? (i := 586) (by decide +kernel), List.mem_of_getElem? (i := 587) (by decide +kernel)⟩
theorem lw_p28 : lw_okq (⟨"DefaultReasonerModel", "leads", "(III)Z"⟩, 15) := ⟨⟨by decide +kernel, by decide +kernel⟩, List.mem_of_getElem? (i := 491) (by decide +kernel), List.mem_of_getElem? (i := 590) (by decide +kernel), List.mem_of_getElem? (i := 591) (by decide +kernel)⟩
theorem lw_p29 : lw_okq (⟨"DefaultReasonerModel", "close", "(I)I"⟩, 15) := ⟨⟨by decide +kernel, by decide +kernel⟩, List.mem_of_getElem? (i := 491) (by decide +kernel), List.mem_of_getElem? (i := 614) (by decide +kernel), List.mem_of_getElem? (i := 615) (by decide +kernel)⟩
theorem lw_p30 : lw_okq (⟨"DefaultReasonerModel", "open", "(II)Z"⟩, 15) := ⟨⟨by decide +kernel, by decide +kernel⟩, List.mem_of_getElem? (i := 491) (by decide +kernel), List.mem_of_getElem? (i := 625) (by decide +kernel), List.mem_of_getElem? (i := 626) (by decide +kernel)⟩
theorem lw_p31 : lw_okq (⟨"DefaultReasonerModel", "generators", "(I)I"⟩, 15) := ⟨⟨by decide +kernel, by decide +kernel⟩, List.mem_of_getElem? (i := 491) (by decide +kernel), List.mem_of_getElem? (i := 633) (by decide +kernel), List.mem_of_getElem? (i := 634) (by decide +kernel)⟩
def lw_privs_2 : List (MethodName × Nat) := [(⟨"DefaultReasoner$Priorities", "comesBefore", "(II)Z"⟩, 2), (⟨"java/lang/Throwable", "fillInStackTrace", "(I)Ljava/lang/Throwable;"⟩, 6), (⟨"DefaultReasoner", "forgetFindings", "()V"⟩, 20), (⟨"DefaultReasoner$Priorities", "removeAllWith", "(I)V"⟩, 2), (⟨"DefaultReasoner$Priorities", "followChains", "()V"⟩, 2), (⟨"DefaultReasoner", "checkDefault", "(I)V"⟩, 20), (⟨"DefaultReasoner$Priorities", "put", "(II)V"⟩, 2), (⟨"DefaultReasoner", "checkExtension", "(I)V"⟩, 20), (⟨"DefaultReasoner", "checkOrder", "(I)V"⟩, 20), (⟨"DefaultReasonerModel", "fail", "(I)I"⟩, 15), (⟨"DefaultReasonerModel", "isDefault", "(I)Z"⟩, 15), (⟨"DefaultReasonerModel", "before", "(II)Z"⟩, 15), (⟨"DefaultReasonerModel", "leads", "(III)Z"⟩, 15), (⟨"DefaultReasonerModel", "close", "(I)I"⟩, 15), (⟨"DefaultReasonerModel", "open", "(II)Z"⟩, 15), (⟨"DefaultReasonerModel", "generators", "(I)I"⟩, 15)]
theorem lw_r2 : ∀ q ∈ lw_privs_2, lw_okq q := List.forall_mem_cons.mpr ⟨lw_p16, List.forall_mem_cons.mpr ⟨lw_p17, List.forall_mem_cons.mpr ⟨lw_p18, List.forall_mem_cons.mpr ⟨lw_p19, List.forall_mem_cons.mpr ⟨lw_p20, List.forall_mem_cons.mpr ⟨lw_p21, List.forall_mem_cons.mpr ⟨lw_p22, List.forall_mem_cons.mpr ⟨lw_p23, List.forall_mem_cons.mpr ⟨lw_p24, List.forall_mem_cons.mpr ⟨lw_p25, List.forall_mem_cons.mpr ⟨lw_p26, List.forall_mem_cons.mpr ⟨lw_p27, List.forall_mem_cons.mpr ⟨lw_p28, List.forall_mem_cons.mpr ⟨lw_p29, List.forall_mem_cons.mpr ⟨lw_p30, List.forall_mem_cons.mpr ⟨lw_p31, fun _ h => absurd h List.not_mem_nil⟩⟩⟩⟩⟩⟩⟩⟩⟩⟩⟩⟩⟩⟩⟩⟩
theorem lw_p32 : lw_okq (⟨"DefaultReasonerModel", "consequences", "(I)I"⟩, 15) := ⟨⟨by decide +kernel, by decide +kernel⟩, List.mem_of_getElem? (i := 491) (by decide +kernel), List.mem_of_getElem? (i := 637) (by decide +kernel), List.mem_of_getElem? (i := 638) (by decide +kernel)⟩
theorem lw_p33 : lw_okq (⟨"DefaultReasonerModel", "isStable", "(I)Z"⟩, 15) := ⟨⟨by decide +kernel, by decide +kernel⟩, List.mem_of_getElem? (i := 491) (by decide +kernel), List.mem_of_getElem? (i := 645) (by decide +kernel), List.mem_of_getElem? (i := 646) (by decide +kernel)⟩
theorem lw_p34 : lw_okq (⟨"DefaultReasonerModel", "find", "()V"⟩, 15) := ⟨⟨by decide +kernel, by decide +kernel⟩, List.mem_of_getElem? (i := 491) (by decide +kernel), List.mem_of_getElem? (i := 653) (by decide +kernel), List.mem_of_getElem? (i := 654) (by decide +kernel)⟩
theorem lw_p35 : lw_okq (⟨"DefaultReasonerModel", "asks", "(I)Z"⟩, 15) := ⟨⟨by decide +kernel, by decide +kernel⟩, List.mem_of_getElem? (i := 491) (by decide +kernel), List.mem_of_getElem? (i := 661) (by decide +kernel), List.mem_of_getElem? (i := 662) (by decide +kernel)⟩
theorem lw_p36 : lw_okq (⟨"DefaultReasonerModel", "findPreferred", "()V"⟩, 15) := ⟨⟨by decide +kernel, by decide +kernel⟩, List.mem_of_getElem? (i := 491) (by decide +kernel), List.mem_of_getElem? (i := 669) (by decide +kernel), List.mem_of_getElem? (i := 670) (by decide +kernel)⟩
theorem lw_p37 : lw_okq (⟨"DefaultReasonerModel", "orders", "()I"⟩, 15) := ⟨⟨by decide +kernel, by decide +kernel⟩, List.mem_of_getElem? (i := 491) (by decide +kernel), List.mem_of_getElem? (i := 673) (by decide +kernel), List.mem_of_getElem? (i := 674) (by decide +kernel)⟩
theorem lw_p38 : lw_okq (⟨"DefaultReasonerModel", "setOrder", "([II)V"⟩, 15) := ⟨⟨by decide +kernel, by decide +kernel⟩, List.mem_of_getElem? (i := 491) (by decide +kernel), List.mem_of_getElem? (i := 677) (by decide +kernel), List.mem_of_getElem? (i := 678) (by decide +kernel)⟩
theorem lw_p39 : lw_okq (⟨"DefaultReasonerModel", "respects", "([I)Z"⟩, 15) := ⟨⟨by decide +kernel, by decide +kernel⟩, List.mem_of_getElem? (i := 491) (by decide +kernel), List.mem_of_getElem? (i := 681) (by decide +kernel), List.mem_of_getElem? (i := 682) (by decide +kernel)⟩
theorem lw_p40 : lw_okq (⟨"DefaultReasonerModel", "walk", "([I[I)I"⟩, 15) := ⟨⟨by decide +kernel, by decide +kernel⟩, List.mem_of_getElem? (i := 491) (by decide +kernel), List.mem_of_getElem? (i := 685) (by decide +kernel), List.mem_of_getElem? (i := 686) (by decide +kernel)⟩
theorem lw_p41 : lw_okq (⟨"DefaultReasonerModel", "first", "([II)I"⟩, 15) := ⟨⟨by decide +kernel, by decide +kernel⟩, List.mem_of_getElem? (i := 491) (by decide +kernel), List.mem_of_getElem? (i := 689) (by decide +kernel), List.mem_of_getElem? (i := 690) (by decide +kernel)⟩
theorem lw_p42 : lw_okq (⟨"DefaultReasonerModel", "preferred", "()I"⟩, 15) := ⟨⟨by decide +kernel, by decide +kernel⟩, List.mem_of_getElem? (i := 491) (by decide +kernel), List.mem_of_getElem? (i := 697) (by decide +kernel), List.mem_of_getElem? (i := 698) (by decide +kernel)⟩
theorem lw_p43 : lw_okq (⟨"DefaultReasonerModel", "isOrder", "(I)Z"⟩, 15) := ⟨⟨by decide +kernel, by decide +kernel⟩, List.mem_of_getElem? (i := 491) (by decide +kernel), List.mem_of_getElem? (i := 717) (by decide +kernel), List.mem_of_getElem? (i := 718) (by decide +kernel)⟩
def lw_privs_3 : List (MethodName × Nat) := [(⟨"DefaultReasonerModel", "consequences", "(I)I"⟩, 15), (⟨"DefaultReasonerModel", "isStable", "(I)Z"⟩, 15), (⟨"DefaultReasonerModel", "find", "()V"⟩, 15), (⟨"DefaultReasonerModel", "asks", "(I)Z"⟩, 15), (⟨"DefaultReasonerModel", "findPreferred", "()V"⟩, 15), (⟨"DefaultReasonerModel", "orders", "()I"⟩, 15), (⟨"DefaultReasonerModel", "setOrder", "([II)V"⟩, 15), (⟨"DefaultReasonerModel", "respects", "([I)Z"⟩, 15), (⟨"DefaultReasonerModel", "walk", "([I[I)I"⟩, 15), (⟨"DefaultReasonerModel", "first", "([II)I"⟩, 15), (⟨"DefaultReasonerModel", "preferred", "()I"⟩, 15), (⟨"DefaultReasonerModel", "isOrder", "(I)Z"⟩, 15)]
theorem lw_r3 : ∀ q ∈ lw_privs_3, lw_okq q := List.forall_mem_cons.mpr ⟨lw_p32, List.forall_mem_cons.mpr ⟨lw_p33, List.forall_mem_cons.mpr ⟨lw_p34, List.forall_mem_cons.mpr ⟨lw_p35, List.forall_mem_cons.mpr ⟨lw_p36, List.forall_mem_cons.mpr ⟨lw_p37, List.forall_mem_cons.mpr ⟨lw_p38, List.forall_mem_cons.mpr ⟨lw_p39, List.forall_mem_cons.mpr ⟨lw_p40, List.forall_mem_cons.mpr ⟨lw_p41, List.forall_mem_cons.mpr ⟨lw_p42, List.forall_mem_cons.mpr ⟨lw_p43, fun _ h => absurd h List.not_mem_nil⟩⟩⟩⟩⟩⟩⟩⟩⟩⟩⟩⟩
def lw_privs : List (MethodName × Nat) := lw_privs_1 ++ (lw_privs_2 ++ (lw_privs_3))
def lw_tbl : List Cond := k2_sels lw_privs ++ tables_1
theorem lw_privs_ok : ∀ q ∈ lw_privs, lw_okq q := by
  show ∀ q ∈ lw_privs_1 ++ (lw_privs_2 ++ (lw_privs_3)), lw_okq q
  exact List.forall_mem_append.mpr ⟨lw_r1, List.forall_mem_append.mpr ⟨lw_r2, lw_r3⟩⟩
/-- the streams that the claim lets the run draw from -/
abbrev lw_cs : List Choice := [Jvm.Choice.named "NaN.bits"]
theorem lw_bits : nanBits ∈ lw_cs := by first | decide | exact List.mem_cons_self | simp [lw_cs, nanBits]
end
section
/-! ===== BEGIN words of one list among another's, by their places ===== -/
theorem goodIn_r {big : List Cond} (ws : List Cond) (ps : List Nat) (hp : ws = ps.filterMap (fun i => big[i]?)) (h : ws.all goodWord = true) : GoodIn big ws := by
  intro w hw
  have h1 := List.all_eq_true.mp h w hw
  rw [hp] at hw
  obtain ⟨i, -, hi⟩ := List.mem_filterMap.mp hw
  have hm : w ∈ big := by first | exact List.mem_of_getElem? hi | exact List.getElem?_mem hi
  exact ⟨hm, good_of_word h1⟩
theorem goodIn_app {big a b : List Cond} (ha : GoodIn big a) (hb : GoodIn big b) : GoodIn big (a ++ b) := fun w h => (List.mem_append.mp h).elim (ha w) (hb w)
theorem goodIn_ca {big a b : List Cond} {c : Cond} (ha : GoodIn big (c :: a)) (hb : GoodIn big b) : GoodIn big (c :: (a ++ b)) := fun w h => (List.mem_cons.mp h).elim (fun e => ha w (List.mem_cons.mpr (Or.inl e))) (fun h => (List.mem_append.mp h).elim (fun h => ha w (List.mem_cons.mpr (Or.inr h))) (hb w))
theorem goodIn_sub {big ws : List Cond} (hm : ∀ w ∈ ws, w ∈ big) (h : ws.all goodWord = true) : GoodIn big ws := fun w hw => ⟨hm w hw, good_of_word (List.all_eq_true.mp h w hw)⟩
/-! ===== END ===== -/

/-! ===== BEGIN exceptions that leave a method, and their catching by the caller (launches without stack traces) ===== -/
section VXA
/-! The laws vx_back, vx_callV, vx_callS, vx_callSW, vx_throw0, vx_throwS follow proofs of the library, with one case more: JvmDerived/Free/Laws.lean (Back.of_free), Shelf42/LK1.lean (callV, callS), Shelf/KitTraced.lean (throwNew0V, throwNewS). -/
/-- where a method has thrown q: the class by its name, the cell, what was written, the world -/
def vx_T (XC : String → State → State → Prop) (st : State) (q : Addr) (t : State) (mc ms : Nat) (free : Addr → Prop) : Prop :=
  ∃ (E : String) (ce : Cell) (L : List Loc), XC E st t ∧ t.heap[q]? = some ce ∧ ce.vm = .none ∧ st.vm.findClass E = some ce.cls ∧ st.WarmedH t.vm ∧ st.sameButNew ({ t with vm := st.vm } : State) L mc ms ∧ ∀ z ∈ L, free z.base
def vx_Q (Qc : Array Value → State → Outcome → State → Prop) (XC : String → State → State → Prop) (mc ms : Nat) (free : Addr → Prop) : Array Value → State → Outcome → State → Prop := fun a st o t =>
  (Qc a st o t ∧ ∃ L, FrameEnd st o t L mc ms ∧ ∀ q ∈ L, free q.base) ∨ ∃ q, o = .threw q ∧ vx_T XC st q t mc ms free
/-- a callee that returns or throws -/
def vx_Met (l : Launch) (y : MethodName) (ws : List Cond) (rm : Room) (Pc : Array Value → State → Prop) (Qc : Array Value → State → Outcome → State → Prop) (XC : String → State → State → Prop) (mc ms : Nat) (free : Addr → Prop) : Prop :=
  MetFree l y (headSpec ws rm) Pc (fun _ _ _ _ _ => True) (vx_Q Qc XC mc ms free)
def vx_Post (XC : String → State → State → Prop) (mc ms : Nat) (free : Addr → Prop) : Pt → Array Value → Addr → Pt → Prop := fun A a q B =>
  ∃ (g : JFrame) (mk : MethodId) (t : State) (L : List Loc) (E : String) (ce : Cell), B.U.heap = t.heap ∧ B.U.vm = t.vm ∧ XC E (A.U.calling g mk a) t ∧ t.heap[q]? = some ce ∧ ce.vm = .none ∧ A.U.vm.findClass E = some ce.cls ∧ B.locs = A.locs ++ L ∧ (∀ z ∈ L, free z.base) ∧ B.cells = A.cells + mc ∧ B.slots = A.slots + ms
def vx_Back (l : Launch) (R : Room) (p : Program) (e : Env) (below : List Frame) (s : State) (sargs : Array Value) (y : MethodName) (len W9 : Nat)
    (Pre : Pt → Array Value → Prop) (Post : Pt → Array Value → Option Value → Pt → Prop) (PostX : Pt → Array Value → Addr → Pt → Prop) : Prop :=
  ∀ (m : MethodId) (meth : Method) (c : Code) (A : Pt) (g : JFrame) (ig : Instr) (mk : MethodId) (a : Array Value),
    Stand p l e R s m sargs below meth c A.U A.locs A.cells A.slots → g.method = m → g.locals.size = c.maxLocals → decode c.code g.pc = .ok (ig, len) →
    2 * g.monitorRoom + (g.stack.map fun v => v.category).sum ≤ W9 → A.U.methodNamed? y = some mk → Pre A a →
    (∃ (v : Option Value) (B : Pt), Stand p l e R s m sargs below meth c B.U B.locs B.cells B.slots ∧ Post A a v B ∧
      Steps p.tables e below (doInvoke e (A.U.setTop g) [] mk a).1 (B.U.setTop { g with pc := g.pc + len, stack := v.toList ++ g.stack })) ∨
    (∃ (q : Addr) (B : Pt), Stand p l e R s m sargs below meth c B.U B.locs B.cells B.slots ∧ PostX A a q B ∧
      Steps p.tables e below (doInvoke e (A.U.setTop g) [] mk a).1 ((B.U.setTop g).pushFrame (.throwing q)))
section Payer
variable {l : Launch} {R : Room} {p : Program} {e : Env} {below : List Frame} {s : State} {sargs : Array Value} {y : MethodName} {len W9 : Nat}
theorem vx_back {ws : List Cond} {rm : Room} {Pc : Array Value → State → Prop} {Qc : Array Value → State → Outcome → State → Prop} {XC : String → State → State → Prop} {mc ms : Nat} {free : Addr → Prop} {bytes : ByteArray} {maxL : Nat} {ret : Option FieldType}
    (hM : vx_Met l y ws rm Pc Qc XC mc ms free) (hblind : FrameBlind Pc) (hrc : rm.cells = mc) (hrs : rm.slots = ms)
    (hframes : rm.frames + 1 ≤ R.frames) (hlocals : W9 + (maxL + 11) + rm.locals ≤ R.locals)
    (hws : ∀ w ∈ ws, ∀ a' U, s.WarmedH U.vm → w.before a' U = true) (hcode : Cond.code y bytes maxL ret ∈ ws) (hinit : ∀ a' U, s.WarmedH U.vm → (Cond.initialized y.cls).before a' U = true) :
    vx_Back l R p e below s sargs y len W9 (PreOf R mc ms Pc) (PostOf Qc mc ms free) (vx_Post XC mc ms free) := by
  intro m meth c A g ig mk a X hg hsize hdg hW hn hp
  have h1 : (headSpec ws rm).pre.before a A.U = true := atoms_intro fun w hw => hws w hw _ _ X.warmed
  have h2 : (Cond.code y bytes maxL ret).before a A.U = true := hws _ hcode _ _ X.warmed
  have h3 : (Cond.initialized y.cls).before a A.U = true := hinit _ _ X.warmed
  have h4 : A.cells + (headSpec ws rm).room.cells ≤ R.cells := by rw [show (headSpec ws rm).room.cells = mc from hrc]; exact hp.1
  have h5 : A.slots + (headSpec ws rm).room.slots ≤ R.slots := by rw [show (headSpec ws rm).room.slots = ms from hrs]; exact hp.2.1
  have hPc : Pc a (A.U.calling g mk a) := hblind _ _ _ _ hp.2.2
  obtain ⟨U, Ls, c0, s0⟩ := A
  dsimp only [Pt.U, Pt.locs, Pt.cells, Pt.slots] at h1 h2 h3 h4 h5 X hn hPc ⊢
  obtain ⟨methY, cY, hmY, hcY, -, hlY, -, -, -, -⟩ := Cond.code_spec hn h2
  obtain ⟨kY, hkY, -⟩ := className_of_methodNamed hn
  have hinitY : kY.init = .initialized := Cond.initialized_spec (findClass_of_methodNamed hn) hkY h3
  have h : At U g.method c below := by rw [hg]; exact X.here
  have hlocals9 : W9 + (maxL + 11) + (headSpec ws rm).room.locals ≤ R.locals := hlocals
  have happ : (headSpec ws rm).appliesLoose y e.platform (U.calling g mk a) = true :=
    Spec.appliesLoose_calling (g := g) h hdg hn hkY hinitY
      (X.room_calling (g := g) (R' := (headSpec ws rm).room) hsize hmY hcY hframes (by rw [hlY]; omega) h4 h5) h1
  obtain ⟨mid, hmid⟩ := h.above
  have hfr : (U.setTop g).frames = (.java g :: mid) ++ below := by rw [State.frames_setTop' g h.top, hmid]; rfl
  obtain ⟨o, s₂, hsteps, -, hend, hq⟩ := Steps.callFree hM p X.admits X.cas X.clock (acts := []) hfr happ hPc trivial
  have hq' : vx_Q Qc XC mc ms free a (U.calling g mk a) o s₂ := hq
  rw [State.frames_setTop' g h.top] at hend
  obtain ⟨g₀, hg0⟩ := Option.isSome_iff_exists.mp h.top
  obtain ⟨r, hr⟩ := State.topJava?_eq_some.mp hg0
  have hr' : (({ U with heap := s₂.heap, slotsUsed := s₂.slotsUsed } : State).setVm s₂.vm).frames = .java g₀ :: r := hr
  rcases hq' with ⟨hqc, L, hfe, hL⟩ | ⟨q, rfl, E, ce, L, hx, hce, hcv, hcl, hW₂, hsm, hL⟩
  · obtain ⟨⟨v, rfl⟩, hW₂, e2, q2, q3, q4, q5, q6⟩ := id hfe
    have e3 : s₂ = ({ (U.calling g mk a).setFrames s₂.frames with heap := s₂.heap, slotsUsed := s₂.slotsUsed } : State).setVm s₂.vm := by
      have : s₂ = ({ s₂ with vm := (U.calling g mk a).vm } : State).setVm s₂.vm := rfl
      rw [e2] at this
      exact this
    obtain ⟨c₂, i₂, len₂, hc₂, hd₂, hf₂⟩ := hend
    have hW' : U.WarmedH s₂.vm := hW₂
    have hcc : c₂ = c := by
      have h1 : s₂.code? g.method = U.code? g.method := by
        rw [State.code?_eq, State.code?_eq, hW'.alike.method?]
      exact Option.some.inj (hc₂.symm.trans (h1.trans h.code))
    subst hcc
    have hlen : len₂ = len := by rw [hdg] at hd₂; cases hd₂; rfl
    subst hlen
    have hs₂ : s₂ = (({ U with heap := s₂.heap, slotsUsed := s₂.slotsUsed } : State).setVm s₂.vm).setTop { g with pc := g.pc + len₂, stack := v.toList ++ g.stack } := by
      refine e3.trans ?_
      rw [hf₂, State.calling_eq h.top, State.setFrames_setFrames, State.setTop_of_frames _ hr', hr]
      rfl
    have hsame : U.sameButNew ({ U with heap := s₂.heap, slotsUsed := s₂.slotsUsed } : State) L mc ms := by
      refine ⟨?_, q2, q3, q4, q5, q6⟩
      obtain ⟨t, ht, -⟩ := State.frames_cons hr
      show ({ U with heap := s₂.heap, slotsUsed := s₂.slotsUsed } : State) = { U.setFrames U.frames with heap := s₂.heap, slotsUsed := s₂.slotsUsed }
      rw [State.setFrames_self ht]
    subst hg
    refine Or.inl ⟨v, ⟨(({ U with heap := s₂.heap, slotsUsed := s₂.slotsUsed } : State).setVm s₂.vm), Ls ++ L, c0 + mc, s0 + ms⟩,
      ⟨X.admits, X.cas, X.clock, X.frames, X.room, X.hears, X.method, X.code, (X.here.setHeapUsed s₂.heap s₂.slotsUsed).setVm hW'.alike, X.tail, State.WarmedH.trans X.warmed hW', X.limits, X.bytes, X.same.trans (hsame.setVm s.vm)⟩,
      ⟨g, mk, s₂, L, rfl, rfl, hqc, rfl, hL, rfl, rfl⟩, ?_⟩
    show Steps p.tables e below _ ((({ U with heap := s₂.heap, slotsUsed := s₂.slotsUsed } : State).setVm s₂.vm).setTop { g with pc := g.pc + len₂, stack := v.toList ++ g.stack })
    rw [← hs₂]
    exact hsteps
  · obtain ⟨e2, q2, q3, q4, q5, q6⟩ := id hsm
    have e3 : s₂ = ({ (U.calling g mk a).setFrames s₂.frames with heap := s₂.heap, slotsUsed := s₂.slotsUsed } : State).setVm s₂.vm := by
      have : s₂ = ({ s₂ with vm := (U.calling g mk a).vm } : State).setVm s₂.vm := rfl
      rw [e2] at this
      exact this
    have hf₂ : s₂.frames = .throwing q :: .java g :: U.frames.tail := hend
    have hW' : U.WarmedH s₂.vm := hW₂
    have hs₂ : s₂ = ((({ U with heap := s₂.heap, slotsUsed := s₂.slotsUsed } : State).setVm s₂.vm).setTop g).pushFrame (.throwing q) := by
      refine e3.trans ?_
      rw [hf₂, State.calling_eq h.top, State.setFrames_setFrames, State.pushFrame, State.frames_setTop _ hr', State.setTop_of_frames _ hr', State.setFrames_setFrames, hr]
      rfl
    have hsame : U.sameButNew ({ U with heap := s₂.heap, slotsUsed := s₂.slotsUsed } : State) L mc ms := by
      refine ⟨?_, q2, q3, q4, q5, q6⟩
      obtain ⟨t, ht, -⟩ := State.frames_cons hr
      show ({ U with heap := s₂.heap, slotsUsed := s₂.slotsUsed } : State) = { U.setFrames U.frames with heap := s₂.heap, slotsUsed := s₂.slotsUsed }
      rw [State.setFrames_self ht]
    subst hg
    refine Or.inr ⟨q, ⟨(({ U with heap := s₂.heap, slotsUsed := s₂.slotsUsed } : State).setVm s₂.vm), Ls ++ L, c0 + mc, s0 + ms⟩,
      ⟨X.admits, X.cas, X.clock, X.frames, X.room, X.hears, X.method, X.code, (X.here.setHeapUsed s₂.heap s₂.slotsUsed).setVm hW'.alike, X.tail, State.WarmedH.trans X.warmed hW', X.limits, X.bytes, X.same.trans (hsame.setVm s.vm)⟩,
      ⟨g, mk, s₂, L, E, ce, rfl, rfl, hx, hce, hcv, hcl, rfl, hL, rfl, rfl⟩, ?_⟩
    show Steps p.tables e below _ (((({ U with heap := s₂.heap, slotsUsed := s₂.slotsUsed } : State).setVm s₂.vm).setTop g).pushFrame (.throwing q))
    rw [← hs₂]
    exact hsteps
end Payer
section Calls
variable {p : Program} {l : Launch} {e : Env} {R : Room} {s : State} {m : MethodId} {args : Array Value} {below : List Frame} {meth : Method} {c : Code} {T : State} {locs : List Loc} {cells slots : Nat}
theorem vx_callV (X : Stand p l e R s m args below meth c T locs cells slots) (hexec : p.tables.exec = Jvm.exec) {own C : String} {index : Nat} {y : MethodName} {bytes : ByteArray} {maxL : Nat} {ret : Option FieldType}
    (hown : s.vm.findClass own = some m.cls) (hlink : (Cond.methodLink own index y).before args s = true) (hinst : (Cond.instanceMethod y).before args s = true) (hsel : (Cond.selects C y y).before args s = true)
    (hcode : (Cond.code y bytes maxL ret).before args s = true) (hy : y.cls ≠ "java/lang/invoke/MethodHandle" ∧ y.cls ≠ "java/lang/invoke/VarHandle")
    {W9 : Nat} {Pre : Pt → Array Value → Prop} {Post : Pt → Array Value → Option Value → Pt → Prop} {PostX : Pt → Array Value → Addr → Pt → Prop} (hK : vx_Back l R p e below s args y 3 W9 Pre Post PostX)
    {b : Addr} {cellB : Cell} (hcell : T.heap[b]? = some cellB) (hobj : cellB.vm.isStatics = false) (hcls : s.vm.findClass C = some cellB.cls)
    {g : JFrame} (hg : g.method = m) (hsize : g.locals.size = c.maxLocals) {argsL rest : List Value} (hlen : ∀ sig, parseMethodDescriptor y.desc = some sig → argsL.length = sig.parameters.length)
    (hstack : g.stack = argsL.reverse ++ .ref b :: rest) (hW : 2 * g.monitorRoom + (rest.map fun v => v.category).sum ≤ W9) (hdg : decode c.code g.pc = .ok (.invokevirtual index, 3))
    (hpre : ∀ vm₁, s.WarmedH vm₁ → Pre ⟨T.setVm vm₁, locs, cells, slots⟩ (Value.ref b :: argsL).toArray) :
    (∃ (v : Option Value) (vm₁ : Vm) (B : Pt), s.WarmedH vm₁ ∧ Stand p l e R s m args below meth c B.U B.locs B.cells B.slots ∧ Post ⟨T.setVm vm₁, locs, cells, slots⟩ (Value.ref b :: argsL).toArray v B ∧
      ∀ target, Steps p.tables e below (B.U.setTop { g with pc := g.pc + 3, stack := v.toList ++ rest }) target → Steps p.tables e below (T.setTop g) target) ∨
    (∃ (q : Addr) (vm₁ : Vm) (B : Pt), s.WarmedH vm₁ ∧ Stand p l e R s m args below meth c B.U B.locs B.cells B.slots ∧ PostX ⟨T.setVm vm₁, locs, cells, slots⟩ (Value.ref b :: argsL).toArray q B ∧
      Steps p.tables e below (T.setTop g) ((B.U.setTop { g with stack := rest }).pushFrame (.throwing q))) := by
  obtain ⟨mk, methM, hnamed, hmethM, hstM, habM⟩ := Cond.instanceMethod_spec hinst
  obtain ⟨methM', cM, hmethM', -, -, -, -, -, -, hsigM⟩ := Cond.code_spec hnamed hcode
  cases hmethM.symm.trans hmethM'
  obtain ⟨c2, r2, m2, q1, q2, q3, q4, kP, hkP, hkPi⟩ := Cond.selects_spec hsel
  cases hcls.symm.trans q1
  cases (State.methodFound?_of_named hnamed hy).symm.trans q2
  cases hnamed.symm.trans q3
  have hselP : selectMethod e.platform s.vm cellB.cls mk = .method mk := by rw [Launch.admits_selectMethod X.admits]; exact q4
  obtain ⟨vm₁, X₁, hstep₁⟩ := X.invokevirtual hexec hown hlink hnamed hmethM hstM hkP hkPi hy (a := b) (cell := cellB) hcell
    (fun z h => by rw [h] at hobj; cases hobj) hselP hmethM habM hkP hkPi (g := g) hg (argsL := argsL) (rest := rest) (hlen _ hsigM) hstack hdg
  rcases hK m meth c ⟨T.setVm vm₁, locs, cells, slots⟩ { g with stack := rest } (.invokevirtual index) mk (Value.ref b :: argsL).toArray X₁ hg hsize hdg hW (X₁.named hnamed) (hpre vm₁ X₁.warmed) with ⟨v, B, X', hpost, hsteps⟩ | ⟨q, B, X', hpost, hsteps⟩
  · exact Or.inl ⟨v, vm₁, B, X₁.warmed, X', hpost, fun target h => hstep₁ _ fun acts => by rw [doInvoke_state]; exact hsteps.trans h⟩
  · exact Or.inr ⟨q, vm₁, B, X₁.warmed, X', hpost, hstep₁ _ fun acts => by rw [doInvoke_state]; exact hsteps⟩
theorem vx_callS (X : Stand p l e R s m args below meth c T locs cells slots) (hexec : p.tables.exec = Jvm.exec) {own : String} {index : Nat} {y : MethodName} {bytes : ByteArray} {maxL : Nat} {ret : Option FieldType}
    (hown : s.vm.findClass own = some m.cls) (hlink : (Cond.methodLink own index y).before args s = true) (hstat : (Cond.static y).before args s = true) (hinit : (Cond.initialized y.cls).before args s = true)
    (hcode : (Cond.code y bytes maxL ret).before args s = true) (hy : y.cls ≠ "java/lang/invoke/MethodHandle" ∧ y.cls ≠ "java/lang/invoke/VarHandle")
    {W9 : Nat} {Pre : Pt → Array Value → Prop} {Post : Pt → Array Value → Option Value → Pt → Prop} {PostX : Pt → Array Value → Addr → Pt → Prop} (hK : vx_Back l R p e below s args y 3 W9 Pre Post PostX)
    {g : JFrame} (hg : g.method = m) (hsize : g.locals.size = c.maxLocals) {argsL rest : List Value} (hlen : ∀ sig, parseMethodDescriptor y.desc = some sig → argsL.length = sig.parameters.length)
    (hstack : g.stack = argsL.reverse ++ rest) (hW : 2 * g.monitorRoom + (rest.map fun v => v.category).sum ≤ W9) (hdg : decode c.code g.pc = .ok (.invokestatic index, 3))
    (hpre : ∀ vm₁, s.WarmedH vm₁ → Pre ⟨T.setVm vm₁, locs, cells, slots⟩ argsL.toArray) :
    (∃ (v : Option Value) (vm₁ : Vm) (B : Pt), s.WarmedH vm₁ ∧ Stand p l e R s m args below meth c B.U B.locs B.cells B.slots ∧ Post ⟨T.setVm vm₁, locs, cells, slots⟩ argsL.toArray v B ∧
      ∀ target, Steps p.tables e below (B.U.setTop { g with pc := g.pc + 3, stack := v.toList ++ rest }) target → Steps p.tables e below (T.setTop g) target) ∨
    (∃ (q : Addr) (vm₁ : Vm) (B : Pt), s.WarmedH vm₁ ∧ Stand p l e R s m args below meth c B.U B.locs B.cells B.slots ∧ PostX ⟨T.setVm vm₁, locs, cells, slots⟩ argsL.toArray q B ∧
      Steps p.tables e below (T.setTop g) ((B.U.setTop { g with stack := rest }).pushFrame (.throwing q))) := by
  obtain ⟨mk, hnamed⟩ := Cond.code_named hcode
  obtain ⟨methM, cM, hmethM, -, -, -, -, -, -, hsigM⟩ := Cond.code_spec hnamed hcode
  have hstatic : methM.isStatic = true := Cond.static_spec hnamed hmethM hstat
  obtain ⟨kP, hkP, -⟩ := className_of_methodNamed hnamed
  have hinitP : kP.init = .initialized := Cond.initialized_spec (findClass_of_methodNamed hnamed) hkP hinit
  obtain ⟨vm₁, X₁, hstep₁⟩ := X.invokestatic hexec hown hlink hnamed hmethM hstatic hkP hinitP hy (g := g) hg (argsL := argsL) (rest := rest) (hlen _ hsigM) hstack hdg
  rcases hK m meth c ⟨T.setVm vm₁, locs, cells, slots⟩ { g with stack := rest } (.invokestatic index) mk argsL.toArray X₁ hg hsize hdg hW (X₁.named hnamed) (hpre vm₁ X₁.warmed) with ⟨v, B, X', hpost, hsteps⟩ | ⟨q, B, X', hpost, hsteps⟩
  · exact Or.inl ⟨v, vm₁, B, X₁.warmed, X', hpost, fun target h => hstep₁ _ fun acts => by rw [doInvoke_state]; exact hsteps.trans h⟩
  · exact Or.inr ⟨q, vm₁, B, X₁.warmed, X', hpost, hstep₁ _ fun acts => by rw [doInvoke_state]; exact hsteps⟩
end Calls
theorem vx_cls {s : State} {T : State} {vm₁ : Vm} {E : String} {k : ClassId} (hW : s.WarmedH vm₁) (h : (T.setVm vm₁).vm.findClass E = some k) : s.vm.findClass E = some k := by
  have h1 : vm₁.findClass E = some k := h
  rw [hW.alike.findClass] at h1
  exact h1
/-- the method's frame g, with q thrown over it -/
def vx_W (p : Program) (l : Launch) (e : Env) (R : Room) (s : State) (m : MethodId) (args : Array Value) (below : List Frame) (meth : Method) (c : Code) (H : Heap) (locs : List Loc) (cells slots : Nat) (Q : State → Prop) (g : JFrame) (q : Addr) : Prop :=
  ∀ T : State, T.heap = H → Stand p l e R s m args below meth c T locs cells slots → ∃ t, Steps p.tables e below ((T.setTop g).pushFrame (.throwing q)) t ∧ Q t
def vx_Run (p : Program) (l : Launch) (e : Env) (R : Room) (s : State) (m : MethodId) (args : Array Value) (below : List Frame) (meth : Method) (c : Code) (H : Heap) (locs : List Loc) (cells slots mc ms : Nat) (g : JFrame) (rest : List Value) (Qa : State → Outcome → State → Prop) (XC : String → State → State → Prop) (free : Addr → Prop) : Prop :=
  ∀ T : State, T.heap = H → Stand p l e R s m args below meth c T locs cells slots →
    (∃ (v : Option Value) (st₀ t T' : State) (L : List Loc), st₀.heap = H ∧ Stand p l e R s m args below meth c T' (locs ++ L) (cells + mc) (slots + ms) ∧ (∀ q ∈ L, free q.base) ∧ T'.heap = t.heap ∧ T'.vm = t.vm ∧ Qa st₀ (.returned v) t ∧
      Goes p e below T g T' { g with pc := g.pc + 3, stack := v.toList ++ rest }) ∨
    (∃ (q : Addr) (st₀ t T' : State) (L : List Loc) (E : String) (ce : Cell), st₀.heap = H ∧ Stand p l e R s m args below meth c T' (locs ++ L) (cells + mc) (slots + ms) ∧ (∀ z ∈ L, free z.base) ∧ T'.heap = t.heap ∧ T'.vm = t.vm ∧ XC E st₀ t ∧ t.heap[q]? = some ce ∧ ce.vm = .none ∧ s.vm.findClass E = some ce.cls ∧
      Steps p.tables e below (T.setTop g) ((T'.setTop { g with stack := rest }).pushFrame (.throwing q)))
def vx_X {S : Type} (px : S → Prop) (B : String → S → State → Prop) (A : Nat → Prop) : String → State → State → Prop := fun E st t => ∃ u : S, px u ∧ B E u t ∧ va_F A st t
section Runs
variable {p : Program} {l : Launch} {e : Env} {R : Room} {s : State} {m : MethodId} {args : Array Value} {below : List Frame} {meth : Method} {c : Code} {H : Heap} {locs : List Loc} {cells slots : Nat}
variable {y : MethodName} {bytes cc : ByteArray} {maxL nL mc ms n index : Nat} {ret : Option FieldType} {ws : List Cond} {rm : Room} {Pc : Array Value → State → Prop} {Qc : Array Value → State → Outcome → State → Prop} {XC : String → State → State → Prop} {free : Addr → Prop} {Ts : List Cond} {own C : String} {b : Addr} {As rest : List Value} {g : JFrame}
theorem vx_callBack (cb : CallB R s args own index y bytes maxL ret ws rm mc ms n) (hM : vx_Met l y ws rm Pc Qc XC mc ms free) (hbl : FrameBlind Pc) : vx_Back l R p e below s args y 3 8 (PreOf R mc ms Pc) (PostOf Qc mc ms free) (vx_Post XC mc ms free) := by
  obtain ⟨hrc, hrs, hfr, hlo, hws, hcw, -, hini, -⟩ := cb
  exact vx_back (bytes := bytes) (maxL := maxL) (ret := ret) hM hbl hrc hrs hfr hlo hws hcw (fun a' U hW => word_at hW (Or.inl (by first | rfl | simp [Cond.onTables, Cond.keeps, Cond.steady])) hini)
theorem vx_runV (S : CallFix p m c cc nL s args Ts own) (hM : vx_Met l y ws rm Pc Qc XC mc ms free) (cw : CallW R s args own C index y bytes maxL ret ws rm mc ms n) (hp : PreV s H C b Pc As)
    (hg : g.method = m) (hn : As.length = n) (hsize : g.locals.size = nL) (hstack : g.stack = As.reverse ++ .ref b :: rest) (hW : 2 * g.monitorRoom + (rest.map fun v => v.category).sum ≤ 8) (hdg : decode cc g.pc = .ok (.invokevirtual index, 3)) (hf : cells + mc ≤ R.cells ∧ slots + ms ≤ R.slots) :
    vx_Run p l e R s m args below meth c H locs cells slots mc ms g rest (Qc (Value.ref b :: As).toArray) XC free := by
  have hK : vx_Back l R p e below s args y 3 8 (PreOf R mc ms Pc) (PostOf Qc mc ms free) (vx_Post XC mc ms free) := vx_callBack cw.1 hM hp.1
  obtain ⟨⟨-, -, -, -, -, -, hcode, -, hy, hlen, hl⟩, hin, hse⟩ := cw
  obtain ⟨hx, hb, hml, ho, -⟩ := S
  obtain ⟨-, ⟨cellB, hcB, hoB, hclB⟩, hPc⟩ := hp
  intro T hT X
  rcases vx_callV X hx (C := C) (bytes := bytes) (maxL := maxL) (ret := ret) ho hl hin hse hcode hy hK (by rw [hT]; exact hcB) hoB hclB hg (hsize.trans hml.symm) (argsL := As) (rest := rest) (fun sig h => hn.trans (hlen sig h)) hstack hW (by rw [hb]; exact hdg)
    (fun vm₁ hW₁ => ⟨hf.1, hf.2, hPc (T.setVm vm₁) hT hW₁⟩) with ⟨v, vm₁, ⟨U', l2, c2, s2⟩, hW₁, X', ⟨g', mk, t, L, e1, e2, hq, h1, hL, h2, h3⟩, st⟩ | ⟨q, vm₁, ⟨U', l2, c2, s2⟩, hW₁, X', ⟨g', mk, t, L, E, ce, e1, e2, hq, hce, hcv, hcl, h1, hL, h2, h3⟩, st⟩
  · dsimp only [Pt.U, Pt.locs, Pt.cells, Pt.slots] at X' e1 e2 h1 h2 h3 st
    subst h1; subst h2; subst h3
    exact Or.inl ⟨v, (T.setVm vm₁).calling g' mk (Value.ref b :: As).toArray, t, U', L, hT, X', hL, e1, e2, hq, st⟩
  · dsimp only [Pt.U, Pt.locs, Pt.cells, Pt.slots] at X' e1 e2 h1 h2 h3 st hcl
    subst h1; subst h2; subst h3
    exact Or.inr ⟨q, (T.setVm vm₁).calling g' mk (Value.ref b :: As).toArray, t, U', L, E, ce, hT, X', hL, e1, e2, hq, hce, hcv, vx_cls hW₁ hcl, st⟩
theorem vx_runS (S : CallFix p m c cc nL s args Ts own) (hM : vx_Met l y ws rm Pc Qc XC mc ms free) (cw : CallB R s args own index y bytes maxL ret ws rm mc ms n ∧ (Cond.static y).before args s = true) (hp : PreS s H Pc As)
    (hg : g.method = m) (hn : As.length = n) (hsize : g.locals.size = nL) (hstack : g.stack = As.reverse ++ rest) (hW : 2 * g.monitorRoom + (rest.map fun v => v.category).sum ≤ 8) (hdg : decode cc g.pc = .ok (.invokestatic index, 3)) (hf : cells + mc ≤ R.cells ∧ slots + ms ≤ R.slots) :
    vx_Run p l e R s m args below meth c H locs cells slots mc ms g rest (Qc As.toArray) XC free := by
  have hK : vx_Back l R p e below s args y 3 8 (PreOf R mc ms Pc) (PostOf Qc mc ms free) (vx_Post XC mc ms free) := vx_callBack cw.1 hM hp.1
  obtain ⟨⟨-, -, -, -, -, -, hcode, hini, hy, hlen, hl⟩, hstt⟩ := cw
  obtain ⟨hx, hb, hml, ho, -⟩ := S
  intro T hT X
  rcases vx_callS X hx (bytes := bytes) (maxL := maxL) (ret := ret) ho hl hstt hini hcode hy hK hg (hsize.trans hml.symm) (argsL := As) (rest := rest) (fun sig h => hn.trans (hlen sig h)) hstack hW (by rw [hb]; exact hdg)
    (fun vm₁ hW₁ => ⟨hf.1, hf.2, hp.2 (T.setVm vm₁) hT hW₁⟩) with ⟨v, vm₁, ⟨U', l2, c2, s2⟩, hW₁, X', ⟨g', mk, t, L, e1, e2, hq, h1, hL, h2, h3⟩, st⟩ | ⟨q, vm₁, ⟨U', l2, c2, s2⟩, hW₁, X', ⟨g', mk, t, L, E, ce, e1, e2, hq, hce, hcv, hcl, h1, hL, h2, h3⟩, st⟩
  · dsimp only [Pt.U, Pt.locs, Pt.cells, Pt.slots] at X' e1 e2 h1 h2 h3 st
    subst h1; subst h2; subst h3
    exact Or.inl ⟨v, (T.setVm vm₁).calling g' mk As.toArray, t, U', L, hT, X', hL, e1, e2, hq, st⟩
  · dsimp only [Pt.U, Pt.locs, Pt.cells, Pt.slots] at X' e1 e2 h1 h2 h3 st hcl
    subst h1; subst h2; subst h3
    exact Or.inr ⟨q, (T.setVm vm₁).calling g' mk As.toArray, t, U', L, E, ce, hT, X', hL, e1, e2, hq, hce, hcv, vx_cls hW₁ hcl, st⟩
end Runs
section Rows
variable {p : Program} {l : Launch} {e : Env} {R : Room} {s : State} {m : MethodId} {args : Array Value} {below : List Frame} {meth : Method} {c : Code} {H : Heap} {locs : List Loc} {cells slots : Nat} {Q : State → Prop}
variable {mc ms : Nat} {free : Addr → Prop} {A0 A1 : Nat → Prop} {H0 : Heap} {a : Array Value} {pc : Nat} {ls : Array Slot} {st0 rest : List Value}
theorem vx_keep {st₀ t T' : State} {L : List Loc} (h0 : st₀.heap = H) (e1 : T'.heap = t.heap) (hS : va_S A0 H0 H locs) (hA : ∀ q, q < H.size → A1 q → A0 q) (hf : ∀ q, free q → A0 q) (hL : ∀ q ∈ L, free q.base) (hF : va_F A1 st₀ t) :
    H.size ≤ T'.heap.size ∧ (∀ q : Nat, q < H.size → ¬ A1 q → T'.heap[q]? = H[q]?) ∧ va_S A0 H0 T'.heap (locs ++ L) := by
  obtain ⟨hz, hk⟩ := hF
  rw [h0] at hz hk
  exact ⟨by rw [e1]; exact hz, fun q h1 h2 => by rw [e1]; exact hk q h1 h2,
    ⟨Nat.le_trans hS.1 (by rw [e1]; exact hz), fun q h1 h2 => by rw [e1, hk q (Nat.lt_of_lt_of_le h1 hS.1) (fun z => h2 (hA q (Nat.lt_of_lt_of_le h1 hS.1) z))]; exact hS.2.1 q h1 h2, fun q hq => by
      rcases List.mem_append.mp hq with h | h
      · exact hS.2.2 q h
      · exact hf _ (hL q h)⟩⟩
theorem vx_calli {S SX : Type} {post : Int32 → S → Prop} {px : SX → Prop} {B : S → State → Prop} {BX : String → SX → State → Prop} {AX : Nat → Prop} (hr : vx_Run p l e R s m args below meth c H locs cells slots mc ms (F0 m pc ls st0) rest (va_Qi post B A1 a) (vx_X px BX AX) free) (hS : va_S A0 H0 H locs) (hA : ∀ q, q < H.size → A1 q → A0 q) (hf : ∀ q, free q → A0 q) (hAX : ∀ q, q < H.size → AX q → A0 q)
    (kx : ∀ (E : String) (ce : Cell) (q9 : Addr) (u : SX) (t : State) (H1 : Heap) (locs1 : List Loc), t.heap = H1 → s.vm.Alike t.vm → px u → BX E u t → H.size ≤ H1.size → (∀ q : Nat, q < H.size → ¬ AX q → H1[q]? = H[q]?) → va_S A0 H0 H1 locs1 → H1[q9]? = some ce → ce.vm = .none → s.vm.findClass E = some ce.cls → vx_W p l e R s m args below meth c H1 locs1 (cells + mc) (slots + ms) Q (F0 m pc ls rest) q9)
    (kk : ∀ (r : Int32) (u : S) (t : State) (H1 : Heap) (locs1 : List Loc), t.heap = H1 → s.vm.Alike t.vm → post r u → B u t → H.size ≤ H1.size → (∀ q : Nat, q < H.size → ¬ A1 q → H1[q]? = H[q]?) → va_S A0 H0 H1 locs1 → W p l e R s m args below meth c H1 locs1 (cells + mc) (slots + ms) Q (F0 m (pc + 3) ls (.int r :: rest))) : W p l e R s m args below meth c H locs cells slots Q (F0 m pc ls st0) := by
  intro T hT X
  rcases hr T hT X with ⟨v, st₀, t, T', L, h0, X', hL, e1, e2, ⟨⟨r, u, hv, hp, hb⟩, hF⟩, st⟩ | ⟨q, st₀, t, T', L, E, ce, h0, X', hL, e1, e2, ⟨u, hp, hb, hF⟩, hce, hcv, hcl, st⟩
  · cases hv
    obtain ⟨k1, k2, k3⟩ := vx_keep h0 e1 hS hA hf hL hF
    obtain ⟨t2, a1, b1⟩ := kk r u t T'.heap (locs ++ L) e1.symm (by rw [← e2]; exact X'.warmed.alike) hp hb k1 k2 k3 T' rfl X'
    exact ⟨t2, st t2 a1, b1⟩
  · obtain ⟨k1, k2, k3⟩ := vx_keep h0 e1 hS hAX hf hL hF
    obtain ⟨t2, a1, b1⟩ := kx E ce q u t T'.heap (locs ++ L) e1.symm (by rw [← e2]; exact X'.warmed.alike) hp hb k1 k2 k3 (by rw [e1]; exact hce) hcv hcl T' rfl X'
    exact ⟨t2, st.trans a1, b1⟩
theorem vx_calll {S SX : Type} {post : Int64 → S → Prop} {px : SX → Prop} {B : S → State → Prop} {BX : String → SX → State → Prop} {AX : Nat → Prop} (hr : vx_Run p l e R s m args below meth c H locs cells slots mc ms (F0 m pc ls st0) rest (va_Ql post B A1 a) (vx_X px BX AX) free) (hS : va_S A0 H0 H locs) (hA : ∀ q, q < H.size → A1 q → A0 q) (hf : ∀ q, free q → A0 q) (hAX : ∀ q, q < H.size → AX q → A0 q)
    (kx : ∀ (E : String) (ce : Cell) (q9 : Addr) (u : SX) (t : State) (H1 : Heap) (locs1 : List Loc), t.heap = H1 → s.vm.Alike t.vm → px u → BX E u t → H.size ≤ H1.size → (∀ q : Nat, q < H.size → ¬ AX q → H1[q]? = H[q]?) → va_S A0 H0 H1 locs1 → H1[q9]? = some ce → ce.vm = .none → s.vm.findClass E = some ce.cls → vx_W p l e R s m args below meth c H1 locs1 (cells + mc) (slots + ms) Q (F0 m pc ls rest) q9)
    (kk : ∀ (r : Int64) (u : S) (t : State) (H1 : Heap) (locs1 : List Loc), t.heap = H1 → s.vm.Alike t.vm → post r u → B u t → H.size ≤ H1.size → (∀ q : Nat, q < H.size → ¬ A1 q → H1[q]? = H[q]?) → va_S A0 H0 H1 locs1 → W p l e R s m args below meth c H1 locs1 (cells + mc) (slots + ms) Q (F0 m (pc + 3) ls (.long r :: rest))) : W p l e R s m args below meth c H locs cells slots Q (F0 m pc ls st0) := by
  intro T hT X
  rcases hr T hT X with ⟨v, st₀, t, T', L, h0, X', hL, e1, e2, ⟨⟨r, u, hv, hp, hb⟩, hF⟩, st⟩ | ⟨q, st₀, t, T', L, E, ce, h0, X', hL, e1, e2, ⟨u, hp, hb, hF⟩, hce, hcv, hcl, st⟩
  · cases hv
    obtain ⟨k1, k2, k3⟩ := vx_keep h0 e1 hS hA hf hL hF
    obtain ⟨t2, a1, b1⟩ := kk r u t T'.heap (locs ++ L) e1.symm (by rw [← e2]; exact X'.warmed.alike) hp hb k1 k2 k3 T' rfl X'
    exact ⟨t2, st t2 a1, b1⟩
  · obtain ⟨k1, k2, k3⟩ := vx_keep h0 e1 hS hAX hf hL hF
    obtain ⟨t2, a1, b1⟩ := kx E ce q u t T'.heap (locs ++ L) e1.symm (by rw [← e2]; exact X'.warmed.alike) hp hb k1 k2 k3 (by rw [e1]; exact hce) hcv hcl T' rfl X'
    exact ⟨t2, st.trans a1, b1⟩
theorem vx_callf {S SX : Type} {post : UInt32 → S → Prop} {px : SX → Prop} {B : S → State → Prop} {BX : String → SX → State → Prop} {AX : Nat → Prop} (hr : vx_Run p l e R s m args below meth c H locs cells slots mc ms (F0 m pc ls st0) rest (va_Qf post B A1 a) (vx_X px BX AX) free) (hS : va_S A0 H0 H locs) (hA : ∀ q, q < H.size → A1 q → A0 q) (hf : ∀ q, free q → A0 q) (hAX : ∀ q, q < H.size → AX q → A0 q)
    (kx : ∀ (E : String) (ce : Cell) (q9 : Addr) (u : SX) (t : State) (H1 : Heap) (locs1 : List Loc), t.heap = H1 → s.vm.Alike t.vm → px u → BX E u t → H.size ≤ H1.size → (∀ q : Nat, q < H.size → ¬ AX q → H1[q]? = H[q]?) → va_S A0 H0 H1 locs1 → H1[q9]? = some ce → ce.vm = .none → s.vm.findClass E = some ce.cls → vx_W p l e R s m args below meth c H1 locs1 (cells + mc) (slots + ms) Q (F0 m pc ls rest) q9)
    (kk : ∀ (r : UInt32) (u : S) (t : State) (H1 : Heap) (locs1 : List Loc), t.heap = H1 → s.vm.Alike t.vm → post r u → B u t → H.size ≤ H1.size → (∀ q : Nat, q < H.size → ¬ A1 q → H1[q]? = H[q]?) → va_S A0 H0 H1 locs1 → W p l e R s m args below meth c H1 locs1 (cells + mc) (slots + ms) Q (F0 m (pc + 3) ls (.float r :: rest))) : W p l e R s m args below meth c H locs cells slots Q (F0 m pc ls st0) := by
  intro T hT X
  rcases hr T hT X with ⟨v, st₀, t, T', L, h0, X', hL, e1, e2, ⟨⟨r, u, hv, hp, hb⟩, hF⟩, st⟩ | ⟨q, st₀, t, T', L, E, ce, h0, X', hL, e1, e2, ⟨u, hp, hb, hF⟩, hce, hcv, hcl, st⟩
  · cases hv
    obtain ⟨k1, k2, k3⟩ := vx_keep h0 e1 hS hA hf hL hF
    obtain ⟨t2, a1, b1⟩ := kk r u t T'.heap (locs ++ L) e1.symm (by rw [← e2]; exact X'.warmed.alike) hp hb k1 k2 k3 T' rfl X'
    exact ⟨t2, st t2 a1, b1⟩
  · obtain ⟨k1, k2, k3⟩ := vx_keep h0 e1 hS hAX hf hL hF
    obtain ⟨t2, a1, b1⟩ := kx E ce q u t T'.heap (locs ++ L) e1.symm (by rw [← e2]; exact X'.warmed.alike) hp hb k1 k2 k3 (by rw [e1]; exact hce) hcv hcl T' rfl X'
    exact ⟨t2, st.trans a1, b1⟩
theorem vx_calld {S SX : Type} {post : UInt64 → S → Prop} {px : SX → Prop} {B : S → State → Prop} {BX : String → SX → State → Prop} {AX : Nat → Prop} (hr : vx_Run p l e R s m args below meth c H locs cells slots mc ms (F0 m pc ls st0) rest (va_Qd post B A1 a) (vx_X px BX AX) free) (hS : va_S A0 H0 H locs) (hA : ∀ q, q < H.size → A1 q → A0 q) (hf : ∀ q, free q → A0 q) (hAX : ∀ q, q < H.size → AX q → A0 q)
    (kx : ∀ (E : String) (ce : Cell) (q9 : Addr) (u : SX) (t : State) (H1 : Heap) (locs1 : List Loc), t.heap = H1 → s.vm.Alike t.vm → px u → BX E u t → H.size ≤ H1.size → (∀ q : Nat, q < H.size → ¬ AX q → H1[q]? = H[q]?) → va_S A0 H0 H1 locs1 → H1[q9]? = some ce → ce.vm = .none → s.vm.findClass E = some ce.cls → vx_W p l e R s m args below meth c H1 locs1 (cells + mc) (slots + ms) Q (F0 m pc ls rest) q9)
    (kk : ∀ (r : UInt64) (u : S) (t : State) (H1 : Heap) (locs1 : List Loc), t.heap = H1 → s.vm.Alike t.vm → post r u → B u t → H.size ≤ H1.size → (∀ q : Nat, q < H.size → ¬ A1 q → H1[q]? = H[q]?) → va_S A0 H0 H1 locs1 → W p l e R s m args below meth c H1 locs1 (cells + mc) (slots + ms) Q (F0 m (pc + 3) ls (.double r :: rest))) : W p l e R s m args below meth c H locs cells slots Q (F0 m pc ls st0) := by
  intro T hT X
  rcases hr T hT X with ⟨v, st₀, t, T', L, h0, X', hL, e1, e2, ⟨⟨r, u, hv, hp, hb⟩, hF⟩, st⟩ | ⟨q, st₀, t, T', L, E, ce, h0, X', hL, e1, e2, ⟨u, hp, hb, hF⟩, hce, hcv, hcl, st⟩
  · cases hv
    obtain ⟨k1, k2, k3⟩ := vx_keep h0 e1 hS hA hf hL hF
    obtain ⟨t2, a1, b1⟩ := kk r u t T'.heap (locs ++ L) e1.symm (by rw [← e2]; exact X'.warmed.alike) hp hb k1 k2 k3 T' rfl X'
    exact ⟨t2, st t2 a1, b1⟩
  · obtain ⟨k1, k2, k3⟩ := vx_keep h0 e1 hS hAX hf hL hF
    obtain ⟨t2, a1, b1⟩ := kx E ce q u t T'.heap (locs ++ L) e1.symm (by rw [← e2]; exact X'.warmed.alike) hp hb k1 k2 k3 (by rw [e1]; exact hce) hcv hcl T' rfl X'
    exact ⟨t2, st.trans a1, b1⟩
theorem vx_callv {S SX : Type} {post : S → Prop} {px : SX → Prop} {B : S → State → Prop} {BX : String → SX → State → Prop} {AX : Nat → Prop} (hr : vx_Run p l e R s m args below meth c H locs cells slots mc ms (F0 m pc ls st0) rest (va_Qv post B A1 a) (vx_X px BX AX) free) (hS : va_S A0 H0 H locs) (hA : ∀ q, q < H.size → A1 q → A0 q) (hf : ∀ q, free q → A0 q) (hAX : ∀ q, q < H.size → AX q → A0 q)
    (kx : ∀ (E : String) (ce : Cell) (q9 : Addr) (u : SX) (t : State) (H1 : Heap) (locs1 : List Loc), t.heap = H1 → s.vm.Alike t.vm → px u → BX E u t → H.size ≤ H1.size → (∀ q : Nat, q < H.size → ¬ AX q → H1[q]? = H[q]?) → va_S A0 H0 H1 locs1 → H1[q9]? = some ce → ce.vm = .none → s.vm.findClass E = some ce.cls → vx_W p l e R s m args below meth c H1 locs1 (cells + mc) (slots + ms) Q (F0 m pc ls rest) q9)
    (kk : ∀ (u : S) (t : State) (H1 : Heap) (locs1 : List Loc), t.heap = H1 → s.vm.Alike t.vm → post u → B u t → H.size ≤ H1.size → (∀ q : Nat, q < H.size → ¬ A1 q → H1[q]? = H[q]?) → va_S A0 H0 H1 locs1 → W p l e R s m args below meth c H1 locs1 (cells + mc) (slots + ms) Q (F0 m (pc + 3) ls (rest))) : W p l e R s m args below meth c H locs cells slots Q (F0 m pc ls st0) := by
  intro T hT X
  rcases hr T hT X with ⟨v, st₀, t, T', L, h0, X', hL, e1, e2, ⟨⟨u, hv, hp, hb⟩, hF⟩, st⟩ | ⟨q, st₀, t, T', L, E, ce, h0, X', hL, e1, e2, ⟨u, hp, hb, hF⟩, hce, hcv, hcl, st⟩
  · cases hv
    obtain ⟨k1, k2, k3⟩ := vx_keep h0 e1 hS hA hf hL hF
    obtain ⟨t2, a1, b1⟩ := kk u t T'.heap (locs ++ L) e1.symm (by rw [← e2]; exact X'.warmed.alike) hp hb k1 k2 k3 T' rfl X'
    exact ⟨t2, st t2 a1, b1⟩
  · obtain ⟨k1, k2, k3⟩ := vx_keep h0 e1 hS hAX hf hL hF
    obtain ⟨t2, a1, b1⟩ := kx E ce q u t T'.heap (locs ++ L) e1.symm (by rw [← e2]; exact X'.warmed.alike) hp hb k1 k2 k3 (by rw [e1]; exact hce) hcv hcl T' rfl X'
    exact ⟨t2, st.trans a1, b1⟩
/-- caught by the row x of this method's table; the rows ahead don't take it -/
theorem vx_catch {own name : String} {E : String} {ce : Cell} {q : Addr} (hown : s.vm.findClass own = some m.cls) (pre : List ExceptionTableEntry) (x : ExceptionTableEntry) (suf : List ExceptionTableEntry) (hsplit : c.exceptionTable.toList = pre ++ x :: suf)
    (hpass : ∀ z ∈ pre, covers z pc = false ∨ (z.catchType ≠ 0 ∧ ∃ nm : String, (Cond.classLink own z.catchType nm).before args s = true ∧ va_Nc E nm s)) (hx : covers x pc = true) (h0 : x.catchType ≠ 0)
    (hlink : (Cond.classLink own x.catchType name).before args s = true) (hcast : (Cond.castable E name).before args s = true) (hcell : H[q]? = some ce) (hv : ce.vm = .none) (hcl : s.vm.findClass E = some ce.cls)
    (kk : W p l e R s m args below meth c H locs cells slots Q (F0 m x.handlerPc ls [.ref q])) : vx_W p l e R s m args below meth c H locs cells slots Q (F0 m pc ls rest) q := by
  intro T hT X
  have hpl : e.platform.magicAccessors = ({} : Platform).magicAccessors := by rw [X.admits.platform]
  obtain ⟨c3, c4, hc3, hc4, hasg⟩ := Cond.castable_spec hcast
  cases Option.some.inj (hc3.symm.trans hcl)
  obtain ⟨c5, hc5, hcl5⟩ := Cond.classLink_spec hown hlink e.platform hpl
  cases Option.some.inj (hc4.symm.trans hc5)
  obtain ⟨vm', X', st⟩ := X.thenCaughtThrough q (g := F0 m pc ls rest) rfl (Steps.refl _) (by rw [hT]; exact hcell) (by rw [hv]; rfl) (by obtain ⟨k9, h9, -⟩ := Vm.findClass_spec hcl; exact ⟨k9, h9⟩) pre x suf hsplit
    (fun z hz => by
      rcases hpass z hz with h | ⟨hz0, nm, hl1, hn1⟩
      · exact Or.inl h
      · obtain ⟨c6, hc6, hcl6⟩ := Cond.classLink_spec hown hl1 e.platform hpl
        obtain ⟨a8, b8, h1, h2, h3⟩ := hn1
        cases Option.some.inj (h1.symm.trans hcl)
        cases Option.some.inj (h2.symm.trans hc6)
        exact Or.inr ⟨hz0, _, hcl6, h3⟩) hx (Or.inr ⟨h0, c4, hcl5, hasg⟩)
  obtain ⟨t, a1, b1⟩ := kk (T.setVm vm') hT X'
  exact ⟨t, st.trans a1, b1⟩
end Rows
section Ends
variable {p : Program} {l : Launch} {e : Env} {R : Room} {s : State} {m : MethodId} {args : Array Value} {below : List Frame} {meth : Method} {c : Code} {H : Heap} {locs : List Loc} {cells slots : Nat} {Q : State → Prop}
variable {mc ms : Nat} {free : Addr → Prop} {A0 A1 : Nat → Prop} {H0 : Heap} {a : Array Value} {ls : Array Slot} {st0 rest : List Value}
variable {Qc : Array Value → State → Outcome → State → Prop} {XC : String → State → State → Prop}
/-- what a body that may throw owes at its end -/
def vx_MQ (below : List Frame) (Qc : Array Value → State → Outcome → State → Prop) (XC : String → State → State → Prop) (a : Array Value) (s : State) (mc ms : Nat) (free : Addr → Prop) : State → Prop := fun t =>
  ∃ o, t.status = .running ∧ Ended t below o ∧ vx_Q Qc XC mc ms free a s o t
theorem vx_ret {g : JFrame} {mc ms : Nat} (k : W p l e R s m args below meth c H locs cells slots (MQ below Qc args s mc ms free) g) : W p l e R s m args below meth c H locs cells slots (vx_MQ below Qc XC args s mc ms free) g := by
  intro T hT X
  obtain ⟨t, a1, o, b1, b2, b3, b4⟩ := k T hT X
  exact ⟨t, a1, o, b1, b2, Or.inl ⟨b3, b4⟩⟩
/-- not caught here: it goes on to the caller -/
theorem vx_widen {g : JFrame} {q : Addr} {k n : Nat} (h1 : cells ≤ k) (h2 : slots ≤ n) (kk : vx_W p l e R s m args below meth c H locs k n Q g q) : vx_W p l e R s m args below meth c H locs cells slots Q g q := fun T hT X => kk T hT (stand_widen X h1 h2)
theorem vx_out {pc : Nat} {E : String} {ce : Cell} {q : Addr} {mc ms : Nat} (hout : ∀ x ∈ c.exceptionTable.toList, covers x pc = false) (hlocks : meth.locks = false) (hcell : H[q]? = some ce) (hv : ce.vm = .none) (hcl : s.vm.findClass E = some ce.cls)
    (hx : ∀ t : State, t.heap = H → s.vm.Alike t.vm → XC E s t) (hf : ∀ z ∈ locs, free z.base) (hc : cells ≤ mc) (hs : slots ≤ ms) :
    vx_W p l e R s m args below meth c H locs cells slots (vx_MQ below Qc XC args s mc ms free) (F0 m pc ls rest) q := by
  intro T hT X
  obtain ⟨st1, hrun, hend, hW, hsm⟩ := X.leaveThrown q (g := F0 m pc ls rest) rfl rfl rfl hout hlocks
  have hcell9 : (T.setFrames (.throwing q :: below)).heap[q]? = some ce := by
    show T.heap[q]? = some ce
    rw [hT]; exact hcell
  exact ⟨_, st1, .threw q, hrun, hend, Or.inr ⟨q, rfl, E, ce, locs, hx _ hT hW.alike, hcell9, hv, hcl, hW, hsm.mono hc hs, hf⟩⟩
theorem vx_frame {U : State} {k n : Nat} (h : s.sameButNew ({ U with vm := s.vm } : State) locs k n) : s.heap.size ≤ U.heap.size ∧ ∀ q : Nat, q < s.heap.size → (∀ z ∈ locs, z.base ≠ q) → U.heap[q]? = s.heap[q]? := by
  obtain ⟨-, h2, -, -, -, h6⟩ := h
  refine ⟨h2, fun q hq hz => ?_⟩
  obtain ⟨c9, e1, e2, e3, e4⟩ := h6 q _ (Array.getElem?_eq_getElem hq)
  have hs : c9.slots = (s.heap[q]).slots := Array.ext_getElem? fun i => e4 i fun hm => hz _ hm rfl
  have h9 : c9 = s.heap[q] := by
    rw [hs] at e2
    exact e2
  have e5 : U.heap[q]? = some c9 := e1
  rw [e5, h9, Array.getElem?_eq_getElem hq]
/-- the words of a throw but the four that speak of the heap -/
def vx_no (w : Cond) : Bool := decide (w ≠ .isRef (.static Bundle.tN "UNASSIGNED_STACK" Bundle.steD)) && decide (w ≠ .isRef (.static Bundle.tN "SUPPRESSED_SENTINEL" Bundle.listD)) && decide (w ≠ .laysStatic Bundle.tN "UNASSIGNED_STACK" Bundle.steD) && decide (w ≠ .laysStatic Bundle.tN "SUPPRESSED_SENTINEL" Bundle.listD)
def vx_at0 (own : String) (ic : Nat) (X : String) (names : List String) : List Cond := (Bundle.ownAtoms0 own ic X names).filter vx_no
def vx_atS (own : String) (ic : Nat) (X : String) (names : List String) : List Cond := (Bundle.ownAtoms own ic X names).filter vx_no
/-- a word that the tables alone decide, or a good one -/
def vx_ot (w : Cond) : Bool := w.onTables || goodWord w
theorem vx_ot_at {args a' : Array Value} {s U : State} {w : Cond} (hW : s.WarmedH U.vm) (hvm : s.vm = U.vm) (hg : vx_ot w = true) (h : w.before args s = true) : w.before a' U = true := by
  simp only [vx_ot, Bool.or_eq_true] at hg
  rcases hg with hg | hg
  · exact va_tabs hg hvm h
  · exact word_at hW (good_of_word hg) h
/-- a list's words: the good ones out of the method's own list, the others by premises of their own -/
theorem vx_hat {args : Array Value} {s : State} {L B : List Cond} (h1 : ∀ w ∈ L.filter goodWord, w.before args s = true) (h2 : ∀ w ∈ L.filter (fun w => !goodWord w), w ∈ B) (h3 : ∀ w ∈ B, w.before args s = true) : ∀ w ∈ L, w.before args s = true := by
  intro w hw
  by_cases g : goodWord w = true
  · exact h1 w (List.mem_filter.mpr ⟨hw, g⟩)
  · refine h3 w (h2 w (List.mem_filter.mpr ⟨hw, ?_⟩))
    show (!goodWord w) = true
    cases hgw : goodWord w
    · rfl
    · exact absurd hgw g
theorem vx_c {args : Array Value} {s : State} {w : Cond} {B : List Cond} (h : w.before args s = true) (t : ∀ w ∈ B, w.before args s = true) : ∀ w' ∈ w :: B, w'.before args s = true := fun w' h' => (List.mem_cons.mp h').elim (fun e => by rw [e]; exact h) (t w')
theorem vx_n {args : Array Value} {s : State} : ∀ w ∈ ([] : List Cond), w.before args s = true := fun _ h => nomatch h
theorem vx_own {args : Array Value} {s : State} {L : List Cond} (h1 : ∀ w ∈ L.filter vx_no, w.before args s = true)
    (hU : (Cond.isRef (.static Bundle.tN "UNASSIGNED_STACK" Bundle.steD)).before args s = true) (hN : (Cond.isRef (.static Bundle.tN "SUPPRESSED_SENTINEL" Bundle.listD)).before args s = true)
    (lU : (Cond.laysStatic Bundle.tN "UNASSIGNED_STACK" Bundle.steD).before args s = true) (lN : (Cond.laysStatic Bundle.tN "SUPPRESSED_SENTINEL" Bundle.listD).before args s = true) : ∀ w ∈ L, w.before args s = true := by
  intro w hw
  by_cases e1 : w = .isRef (.static Bundle.tN "UNASSIGNED_STACK" Bundle.steD)
  · rw [e1]; exact hU
  · by_cases e2 : w = .isRef (.static Bundle.tN "SUPPRESSED_SENTINEL" Bundle.listD)
    · rw [e2]; exact hN
    · by_cases e3 : w = .laysStatic Bundle.tN "UNASSIGNED_STACK" Bundle.steD
      · rw [e3]; exact lU
      · by_cases e4 : w = .laysStatic Bundle.tN "SUPPRESSED_SENTINEL" Bundle.listD
        · rw [e4]; exact lN
        · exact h1 w (List.mem_filter.mpr ⟨hw, by unfold vx_no; rw [decide_eq_true e1, decide_eq_true e2, decide_eq_true e3, decide_eq_true e4]; rfl⟩)
/-- where a static field lies, its class's statics cell in H -/
def vx_L (C n d : String) (A : Nat → Prop) (U : State) (H : Heap) : Prop := ∃ (c : ClassId) (k : Class) (i : Nat) (f : Field) (a : Nat) (cell : Cell), U.vm.findClass C = some c ∧ U.fieldFound? C n d = some (c, k, i, f) ∧ f.isStatic = true ∧ k.statics = some a ∧ H[a]? = some cell ∧ cell.vm.isStatics = true ∧ cell.cls = c ∧ f.slot < cell.slots.size ∧ k.staticTypes[f.slot]? = some f.type ∧ ¬ A a
theorem vx_L.moved {C n d : String} {A : Nat → Prop} {u U : State} {H : Heap} (hvm : u.vm.Alike U.vm) (h : vx_L C n d A u H) : vx_L C n d A U H := by
  obtain ⟨c, k, i, f, a, cell, h1, h2, h3, h4, h5, h6, h7, h8, h9, h10⟩ := h
  obtain ⟨k', hi', he⟩ := State.fieldFound?_setVm hvm h2
  exact ⟨c, k', i, f, a, cell, by rw [hvm.findClass]; exact h1, hi', h3, by rw [he]; exact h4, h5, h6, h7, h8, by rw [he]; exact h9, h10⟩
theorem vx_L.kept {C n d : String} {A : Nat → Prop} {U : State} {H H1 : Heap} (h : vx_L C n d A U H) (hq : ∀ a : Nat, a < H.size → ¬ A a → H1[a]? = H[a]?) : vx_L C n d A U H1 := by
  obtain ⟨c, k, i, f, a, cell, h1, h2, h3, h4, h5, h6, h7, h8, h9, h10⟩ := h
  exact ⟨c, k, i, f, a, cell, h1, h2, h3, h4, by rw [hq a (Array.getElem?_eq_some_iff.mp h5).1 h10]; exact h5, h6, h7, h8, h9, h10⟩
theorem vx_L.narrow {C n d : String} {A B : Nat → Prop} {U : State} {H : Heap} (h : vx_L C n d A U H) (hAB : ∀ q, B q → A q) : vx_L C n d B U H := by
  obtain ⟨c, k, i, f, a, cell, h1, h2, h3, h4, h5, h6, h7, h8, h9, h10⟩ := h
  exact ⟨c, k, i, f, a, cell, h1, h2, h3, h4, h5, h6, h7, h8, h9, fun z => h10 (hAB _ z)⟩
theorem vx_L.word {C n d : String} {A : Nat → Prop} {s : State} {args : Array Value} (h : vx_L C n d A s s.heap) : (Cond.laysStatic C n d).before args s = true := by
  obtain ⟨c, k, i, f, a, cell, h1, h2, h3, h4, h5, h6, h7, h8, h9, -⟩ := h
  show (Cond.laysStatic C n d).holds args s none s [] = true
  exact Cond.laysStatic_of h1 h2 h3 h4 h5 h6 h7 h8 h9
/-- .. and what it holds: null or some reference -/
def vx_Zq (C n d : String) (A : Nat → Prop) (U : State) (H : Heap) : Prop := va_Zq C n d A U H ∧ vx_L C n d A U H
theorem vx_Zq.moved {C n d : String} {A : Nat → Prop} {u U : State} {H : Heap} (hvm : u.vm.Alike U.vm) (h : vx_Zq C n d A u H) : vx_Zq C n d A U H := ⟨va_Zq.moved hvm h.1, vx_L.moved hvm h.2⟩
theorem vx_Zq.kept {C n d : String} {A : Nat → Prop} {U : State} {H H1 : Heap} (h : vx_Zq C n d A U H) (hq : ∀ a : Nat, a < H.size → ¬ A a → H1[a]? = H[a]?) : vx_Zq C n d A U H1 := ⟨va_Zq.kept h.1 hq, vx_L.kept h.2 hq⟩
theorem vx_Zq.narrow {C n d : String} {A B : Nat → Prop} {U : State} {H : Heap} (h : vx_Zq C n d A U H) (hAB : ∀ q, B q → A q) : vx_Zq C n d B U H := ⟨va_Zq.narrow h.1 hAB, vx_L.narrow h.2 hAB⟩
theorem vx_Zqof {args : Array Value} {s : State} {C n d : String} {A : Nat → Prop} (hl : (Cond.laysStatic C n d).before args s = true) (hini : (Cond.initialized C).before args s = true) (h : (Cond.isRef (.static C n d)).before args s = true) (hA : ∀ a : Nat, a < s.heap.size → ¬ A a) : vx_Zq C n d A s s.heap := by
  refine ⟨va_Zqof hl hini h hA, ?_⟩
  obtain ⟨c, k, i, f, a, cell, h1, h2, h3, h4, h5, h6, h7, h8, h9⟩ := Cond.laysStatic_spec hl
  exact ⟨c, k, i, f, a, cell, h1, h2, h3, h4, h5, h6, h7, h8, h9, hA a (Array.getElem?_eq_some_iff.mp h5).1⟩
theorem vx_isRef {C n d : String} {v : Value} {A : Nat → Prop} {s : State} {args : Array Value} (h : va_Z C n d v A s s.heap) (hv : v.isRef = true) : (Cond.isRef (.static C n d)).before args s = true := by
  obtain ⟨cf, kf, fi, f, a, cell, h1, h2, h3, h4, h5, h6, h7, -⟩ := h
  have he : (Term.static C n d).eval args s none [] s = some v := by
    simp [Term.eval, State.fieldNamed?, h1, h2, h4, h5, h6, h7]
  simp only [Cond.before, Cond.holds, Cond.value, he]
  cases v <;> simp_all [Value.isRef]
theorem vx_isRefq {C n d : String} {A : Nat → Prop} {s : State} {args : Array Value} (h : va_Zq C n d A s s.heap) : (Cond.isRef (.static C n d)).before args s = true := by
  rcases h with h | ⟨t, h⟩
  · exact vx_isRef h rfl
  · exact vx_isRef h rfl
/-- the same frame, seen from here: as if the method were called anew in this heap -/
theorem vx_rebase {T : State} (X : Stand p l e R s m args below meth c T locs cells slots) {R' : Room} (hf : R'.frames ≤ R.frames) (hl : R'.locals ≤ R.locals) (hc : cells + R'.cells ≤ R.cells) (hs : slots + R'.slots ≤ R.slots) :
    Stand p l e R' ((T.setVm s.vm).setFrames (.invoking m args :: below)) m args below meth c T [] 0 0 := by
  have htop : (T.setVm s.vm).topJava?.isSome := X.here.top
  have hF : ((T.setVm s.vm).setFrames (.invoking m args :: below)).frames = .invoking m args :: below := State.frames_setFrames _ (State.cur_lt_of_top htop)
  obtain ⟨g₀, hg0⟩ := Option.isSome_iff_exists.mp htop
  obtain ⟨r, hr⟩ := State.topJava?_eq_some.mp hg0
  have hl9 : e.platform.stackLimits (T.setVm s.vm).me = e.platform.stackLimits s.me := X.limits
  have hb9 : (T.setVm s.vm).me.stackBytes = s.me.stackBytes := X.bytes
  refine ⟨X.admits, X.cas, X.clock, hF, ?_, X.hears, X.method, X.code, X.here, X.tail, X.warmed, ?_, ?_, ?_⟩
  · have h := X.room
    have hU : ((T.setVm s.vm).setFrames (.invoking m args :: below)).localsInUse = s.localsInUse := by
      rw [State.localsInUse_invoking hF (meth := meth) (c := c) X.method X.code, State.localsInUse_invoking X.frames X.method X.code]
    simp only [State.hasRoom, Bool.and_eq_true, decide_eq_true_eq] at h ⊢
    obtain ⟨⟨⟨⟨h1, h2, h3, h4, h5, h6⟩, h7⟩, h8⟩, h9⟩ := h
    rw [X.frames, List.length_cons] at h2 h3
    have q1 := X.heapSize
    have q2 := X.used
    simp only [hF, hU, List.length_cons, State.stackLimits_setFrames, State.stackBytes_setFrames, hl9, hb9]
    refine ⟨⟨⟨⟨by omega, by omega, by omega, by omega, by omega, h6⟩, ?_⟩, ?_⟩, X.book⟩
    · show T.heap.size + R'.cells ≤ e.platform.maxCells
      omega
    · show T.slotsUsed + R'.slots ≤ e.platform.maxSlots
      omega
  · rw [State.stackLimits_setFrames]; rfl
  · rw [State.stackBytes_setFrames]; rfl
  · refine ⟨?_, Nat.le_refl _, Nat.le_refl _, ?_, ?_, fun a c9 h9 => ⟨c9, h9, rfl, rfl, fun _ _ => rfl⟩⟩
    · obtain ⟨t, ht, -⟩ := State.frames_cons hr
      show T.setVm s.vm = { ((T.setVm s.vm).setFrames (.invoking m args :: below)).setFrames (T.setVm s.vm).frames with heap := T.heap, slotsUsed := T.slotsUsed }
      rw [State.setFrames_setFrames, State.setFrames_self ht]
      rfl
    · show T.slotsUsed = T.slotsUsed + ((T.heap.toList.drop T.heap.size).map (·.slots.size)).sum
      rw [List.drop_eq_nil_of_le (Nat.le_of_eq Array.length_toList)]
      rfl
    · show ((T.heap.toList.drop T.heap.size).map (·.slots.size)).sum ≤ 0
      rw [List.drop_eq_nil_of_le (Nat.le_of_eq Array.length_toList)]
      exact Nat.le_refl _
/-- 'throw new E()': new; dup; invokespecial; athrow -/
theorem vx_throw0 {cc : ByteArray} {pc : Nat} (hexec : p.tables.exec = Jvm.exec) (hb : c.code = cc) (hl : l.stackTraces = false) {own cls : String} {names : List String} {ik ic mc ms : Nat} {A : Nat → Prop}
    (hown : s.vm.findClass own = some m.cls) (hcls : Bundle.fit cls = true) (hnames : ∀ n ∈ names, Bundle.fit n = true)
    (hk : (Cond.classLink own ik cls).before args s = true) (hini : (Cond.initialized cls).before args s = true) (hat : ∀ w ∈ vx_at0 own ic cls names, w.before args s = true)
    (hgood : ∀ w ∈ Cond.classLink own ik cls :: Cond.initialized cls :: vx_at0 own ic cls names, vx_ot w = true)
    (hU : vx_Zq Bundle.tN "UNASSIGNED_STACK" Bundle.steD A s s.heap) (hN : vx_Zq Bundle.tN "SUPPRESSED_SENTINEL" Bundle.listD A s s.heap) (hS : va_S A s.heap H locs) (hsize : ls.size = c.maxLocals)
    (d0 : decode cc pc = .ok (.new ik, 3)) (d3 : decode cc (pc + 3) = .ok (.dup, 1)) (d4 : decode cc (pc + 4) = .ok (.invokespecial ic, 3)) (d7 : decode cc (pc + 7) = .ok (.athrow, 1))
    (hout : ∀ x ∈ c.exceptionTable.toList, covers x (pc + 7) = false)
    (hRframes : names.length + 3 < R.frames) (hRlocals : (rest.map fun v => v.category).sum + (13 * (names.length + 1) + 42) ≤ R.locals) (hRcells : cells + 1 ≤ R.cells) (hRslots : slots + 6 ≤ R.slots) (hlocks : meth.locks = false)
    (hx : ∀ t : State, s.vm.Alike t.vm → H.size ≤ t.heap.size → (∀ q : Nat, q < H.size → t.heap[q]? = H[q]?) → XC cls s t)
    (hf : ∀ z ∈ locs, free z.base) (hc : cells + 1 ≤ mc) (hs : slots + 6 ≤ ms) :
    W p l e R s m args below meth c H locs cells slots (vx_MQ below Qc XC args s mc ms free) (F0 m pc ls rest) := by
  intro T hT X
  have htr : e.platform.stackTraces = false := (show e.platform.stackTraces = l.stackTraces by rw [X.admits.platform]).trans hl
  have Y := vx_rebase X (R' := { frames := R.frames, locals := R.locals, cells := 1, slots := 6 }) (Nat.le_refl _) (Nat.le_refl _) hRcells hRslots
  obtain ⟨s', hA⟩ : ∃ z, z = (T.setVm s.vm).setFrames (.invoking m args :: below) := ⟨_, rfl⟩
  rw [← hA] at Y
  have hvm : s'.vm = s.vm := by rw [hA]; rfl
  have hhp : s'.heap = H := by rw [hA]; exact hT
  have hW0 : s.WarmedH s'.vm := by rw [hvm]; exact State.WarmedH.refl s
  have hat' : ∀ w ∈ vx_at0 own ic cls names, w.before args s' = true := fun w hw => vx_ot_at hW0 hvm.symm (hgood w (List.mem_cons_of_mem _ (List.mem_cons_of_mem _ hw))) (hat w hw)
  have hk' : (Cond.classLink own ik cls).before args s' = true := vx_ot_at hW0 hvm.symm (hgood _ List.mem_cons_self) hk
  have hini' : (Cond.initialized cls).before args s' = true := vx_ot_at hW0 hvm.symm (hgood _ (List.mem_cons_of_mem _ List.mem_cons_self)) hini
  have hU' : vx_Zq Bundle.tN "UNASSIGNED_STACK" Bundle.steD A s' s'.heap := by rw [hhp]; exact vx_Zq.moved hW0.alike (hU.kept hS.2.1)
  have hN' : vx_Zq Bundle.tN "SUPPRESSED_SENTINEL" Bundle.listD A s' s'.heap := by rw [hhp]; exact vx_Zq.moved hW0.alike (hN.kept hS.2.1)
  have h : ∀ w ∈ Bundle.ownAtoms0 own ic cls names, w.before args s' = true := vx_own hat' (vx_isRefq hU'.1) (vx_isRefq hN'.1) hU'.2.word hN'.2.word
  have hown' : s'.vm.findClass own = some m.cls := by rw [hvm]; exact hown
  have hins : (Cond.instantiable cls 6).before args s' = true := h _ (by simp [Bundle.ownAtoms0])
  obtain ⟨vm₁, cX, kX, hfX, hkX, -, -, X₁, st1⟩ := Y.newCold hexec (own := own) (C := cls) (index := ik) (n := 6) hown' hk' hins hini'
    (g := F0 m pc ls rest) rfl (by rw [hb]; exact d0) (Nat.le_refl _) (Nat.le_refl _)
  generalize hT1 : (T.setVm vm₁).pushCell { cls := cX, slots := kX.instanceTypes.map defaultValue, vm := .none } = T1 at X₁ st1
  have hcat : (Value.ref T.heap.size).category = 1 := rfl
  have hcellA : T1.heap[T.heap.size]? = some (freshCell cX kX) := by rw [← hT1]; exact State.heap_pushCell_size _ _
  have d3' : decode c.code (pc + 3) = .ok (.dup, 1) := by rw [hb]; exact d3
  obtain ⟨U, hsteps, hrun, hend, hW, hsame, ce, hce, hO⟩ := X₁.ctorThrow0 hexec htr (own := own) (cls := cls) (names := names) (ic := ic) hown' hcls hnames h (fun x hx => nomatch hx) hfX hkX hcellA (by rw [hhp, hT]; exact Nat.le_refl _)
    (g := { method := m, pc := pc + 4, locals := ls, stack := .ref T.heap.size :: .ref T.heap.size :: rest, locked := none }) rfl hsize rfl rfl (rest := rest) rfl
    (by rw [hb]; exact d4) (by rw [hb]; exact d7) hout hRframes (by simp only [List.map_cons, List.sum_cons, hcat]; omega) hlocks
  obtain ⟨f1, f2⟩ := vx_frame hsame
  rw [hhp] at f1 f2
  have hWs : s.WarmedH U.vm := State.WarmedH.trans hW0 hW
  have hcl : s.vm.findClass cls = some ce.cls := by
    have h9 := hO.cls
    rw [hvm] at h9
    exact h9
  have hall : s.sameButNew ({ U with vm := s.vm } : State) locs mc ms := by
    subst hA
    obtain ⟨e1, e2⟩ := hsame
    rw [State.setFrames_setFrames] at e1
    have h2 : (T.setVm s.vm).sameButNew ({ U with vm := s.vm } : State) [] (0 + 1) (0 + 6) := ⟨e1, e2⟩
    have h3 := X.same.trans h2
    rw [List.append_nil] at h3
    exact h3.mono hc hs
  refine ⟨U, ?_, .threw T.heap.size, hrun, hend, Or.inr ⟨T.heap.size, rfl, cls, ce, locs, hx U hWs.alike f1 (fun q hq => f2 q hq (fun z hz => nomatch hz)), hce, hO.vm, hcl, hWs, hall, hf⟩⟩
  refine st1 _ ?_
  show Steps p.tables e below (T1.setTop { method := m, pc := pc + 3, locals := ls, stack := .ref T.heap.size :: rest, locked := none }) _
  jvm_step X₁.here [X₁.here.top, hexec, d3', Value.category]
  exact hsteps
/-- 'throw new E("text")': new; dup; ldc; invokespecial; athrow -/
theorem vx_throwS {cc : ByteArray} {pc : Nat} (hexec : p.tables.exec = Jvm.exec) (hb : c.code = cc) (hl : l.stackTraces = false) {own cls text : String} {names : List String} {ik is ic mc ms sa : Nat} {A : Nat → Prop}
    (hown : s.vm.findClass own = some m.cls) (hcls : Bundle.fit cls = true) (hnames : ∀ n ∈ names, Bundle.fit n = true)
    (hk : (Cond.classLink own ik cls).before args s = true) (hini : (Cond.initialized cls).before args s = true) (hstr : vk_R own is text sa s) (hat : ∀ w ∈ vx_atS own ic cls names, w.before args s = true)
    (hgood : ∀ w ∈ Cond.classLink own ik cls :: Cond.initialized cls :: vx_atS own ic cls names, vx_ot w = true)
    (hU : vx_Zq Bundle.tN "UNASSIGNED_STACK" Bundle.steD A s s.heap) (hN : vx_Zq Bundle.tN "SUPPRESSED_SENTINEL" Bundle.listD A s s.heap) (hS : va_S A s.heap H locs) (hsize : ls.size = c.maxLocals)
    (d0 : decode cc pc = .ok (.new ik, 3)) (d3 : decode cc (pc + 3) = .ok (.dup, 1)) (d4 : decode cc (pc + 4) = .ok (.ldc is, 2)) (d6 : decode cc (pc + 6) = .ok (.invokespecial ic, 3)) (d9 : decode cc (pc + 9) = .ok (.athrow, 1))
    (hout : ∀ x ∈ c.exceptionTable.toList, covers x (pc + 9) = false)
    (hRframes : names.length + 3 < R.frames) (hRlocals : (rest.map fun v => v.category).sum + (13 * (names.length + 1) + 43) ≤ R.locals) (hRcells : cells + 1 ≤ R.cells) (hRslots : slots + 6 ≤ R.slots) (hlocks : meth.locks = false)
    (hx : ∀ t : State, s.vm.Alike t.vm → H.size ≤ t.heap.size → (∀ q : Nat, q < H.size → t.heap[q]? = H[q]?) → XC cls s t)
    (hf : ∀ z ∈ locs, free z.base) (hc : cells + 1 ≤ mc) (hs : slots + 6 ≤ ms) :
    W p l e R s m args below meth c H locs cells slots (vx_MQ below Qc XC args s mc ms free) (F0 m pc ls rest) := by
  intro T hT X
  have htr : e.platform.stackTraces = false := (show e.platform.stackTraces = l.stackTraces by rw [X.admits.platform]).trans hl
  have Y := vx_rebase X (R' := { frames := R.frames, locals := R.locals, cells := 1, slots := 6 }) (Nat.le_refl _) (Nat.le_refl _) hRcells hRslots
  obtain ⟨s', hA⟩ : ∃ z, z = (T.setVm s.vm).setFrames (.invoking m args :: below) := ⟨_, rfl⟩
  rw [← hA] at Y
  have hvm : s'.vm = s.vm := by rw [hA]; rfl
  have hhp : s'.heap = H := by rw [hA]; exact hT
  have hW0 : s.WarmedH s'.vm := by rw [hvm]; exact State.WarmedH.refl s
  have hat' : ∀ w ∈ vx_atS own ic cls names, w.before args s' = true := fun w hw => vx_ot_at hW0 hvm.symm (hgood w (List.mem_cons_of_mem _ (List.mem_cons_of_mem _ hw))) (hat w hw)
  have hk' : (Cond.classLink own ik cls).before args s' = true := vx_ot_at hW0 hvm.symm (hgood _ List.mem_cons_self) hk
  have hini' : (Cond.initialized cls).before args s' = true := vx_ot_at hW0 hvm.symm (hgood _ (List.mem_cons_of_mem _ List.mem_cons_self)) hini
  have hU' : vx_Zq Bundle.tN "UNASSIGNED_STACK" Bundle.steD A s' s'.heap := by rw [hhp]; exact vx_Zq.moved hW0.alike (hU.kept hS.2.1)
  have hN' : vx_Zq Bundle.tN "SUPPRESSED_SENTINEL" Bundle.listD A s' s'.heap := by rw [hhp]; exact vx_Zq.moved hW0.alike (hN.kept hS.2.1)
  have h : ∀ w ∈ Bundle.ownAtoms own ic cls names, w.before args s' = true := vx_own hat' (vx_isRefq hU'.1) (vx_isRefq hN'.1) hU'.2.word hN'.2.word
  have hown' : s'.vm.findClass own = some m.cls := by rw [hvm]; exact hown
  have hins : (Cond.instantiable cls 6).before args s' = true := h _ (by simp [Bundle.ownAtoms])
  obtain ⟨vm₁, cX, kX, hfX, hkX, -, -, X₁, st1⟩ := Y.newCold hexec (own := own) (C := cls) (index := ik) (n := 6) hown' hk' hins hini'
    (g := F0 m pc ls rest) rfl (by rw [hb]; exact d0) (Nat.le_refl _) (Nat.le_refl _)
  generalize hT1 : (T.setVm vm₁).pushCell { cls := cX, slots := kX.instanceTypes.map defaultValue, vm := .none } = T1 at X₁ st1
  have hcat : (Value.ref T.heap.size).category = 1 := rfl
  have hcellA : T1.heap[T.heap.size]? = some (freshCell cX kX) := by rw [← hT1]; exact State.heap_pushCell_size _ _
  have d3' : decode c.code (pc + 3) = .ok (.dup, 1) := by rw [hb]; exact d3
  have d4' : decode c.code (pc + 4) = .ok (.ldc is, 2) := by rw [hb]; exact d4
  have hstr' : vk_R own is text sa s' := vk_R.warm hW0 hstr
  obtain ⟨U, hsteps, hrun, hend, hW, hsame, ce, hce, hO⟩ := X₁.ctorThrowS hexec htr (own := own) (cls := cls) (names := names) (ic := ic) hown' hcls hnames h (fun x hx => nomatch hx) hfX hkX hcellA (by rw [hhp, hT]; exact Nat.le_refl _) (msg := .ref sa) rfl
    (g := { method := m, pc := pc + 6, locals := ls, stack := .ref sa :: .ref T.heap.size :: .ref T.heap.size :: rest, locked := none }) rfl hsize rfl rfl (rest := rest) rfl
    (by rw [hb]; exact d6) (by rw [hb]; exact d9) hout hRframes (by simp only [List.map_cons, List.sum_cons, hcat]; omega) hlocks
  obtain ⟨f1, f2⟩ := vx_frame hsame
  rw [hhp] at f1 f2
  have hWs : s.WarmedH U.vm := State.WarmedH.trans hW0 hW
  have hcl : s.vm.findClass cls = some ce.cls := by
    have h9 := hO.cls
    rw [hvm] at h9
    exact h9
  have hall : s.sameButNew ({ U with vm := s.vm } : State) locs mc ms := by
    subst hA
    obtain ⟨e1, e2⟩ := hsame
    rw [State.setFrames_setFrames] at e1
    have h2 : (T.setVm s.vm).sameButNew ({ U with vm := s.vm } : State) [] (0 + 1) (0 + 6) := ⟨e1, e2⟩
    have h3 := X.same.trans h2
    rw [List.append_nil] at h3
    exact h3.mono hc hs
  refine ⟨U, ?_, .threw T.heap.size, hrun, hend, Or.inr ⟨T.heap.size, rfl, cls, ce, locs, hx U hWs.alike f1 (fun q hq => f2 q hq (fun z hz => nomatch hz)), hce, hO.vm, hcl, hWs, hall, hf⟩⟩
  refine st1 _ ?_
  show Steps p.tables e below (T1.setTop { method := m, pc := pc + 3, locals := ls, stack := .ref T.heap.size :: rest, locked := none }) _
  jvm_step X₁.here [X₁.here.top, hexec, d3', Value.category]
  exact X₁.ldcString hexec (own := own) (text := text) (index := is) (a := sa) hown' hstr'.1 hstr'.2
    (g := { method := m, pc := pc + 4, locals := ls, stack := .ref T.heap.size :: .ref T.heap.size :: rest, locked := none }) rfl d4' _ hsteps
/-- 'throw new E("text")', the text by a wide index -/
theorem vx_throwSW {cc : ByteArray} {pc : Nat} (hexec : p.tables.exec = Jvm.exec) (hb : c.code = cc) (hl : l.stackTraces = false) {own cls text : String} {names : List String} {ik is ic mc ms sa : Nat} {A : Nat → Prop}
    (hown : s.vm.findClass own = some m.cls) (hcls : Bundle.fit cls = true) (hnames : ∀ n ∈ names, Bundle.fit n = true)
    (hk : (Cond.classLink own ik cls).before args s = true) (hini : (Cond.initialized cls).before args s = true) (hstr : vk_R own is text sa s) (hat : ∀ w ∈ vx_atS own ic cls names, w.before args s = true)
    (hgood : ∀ w ∈ Cond.classLink own ik cls :: Cond.initialized cls :: vx_atS own ic cls names, vx_ot w = true)
    (hU : vx_Zq Bundle.tN "UNASSIGNED_STACK" Bundle.steD A s s.heap) (hN : vx_Zq Bundle.tN "SUPPRESSED_SENTINEL" Bundle.listD A s s.heap) (hS : va_S A s.heap H locs) (hsize : ls.size = c.maxLocals)
    (d0 : decode cc pc = .ok (.new ik, 3)) (d3 : decode cc (pc + 3) = .ok (.dup, 1)) (d4 : decode cc (pc + 4) = .ok (.ldc_w is, 3)) (d7 : decode cc (pc + 7) = .ok (.invokespecial ic, 3)) (d10 : decode cc (pc + 10) = .ok (.athrow, 1))
    (hout : ∀ x ∈ c.exceptionTable.toList, covers x (pc + 10) = false)
    (hRframes : names.length + 3 < R.frames) (hRlocals : (rest.map fun v => v.category).sum + (13 * (names.length + 1) + 43) ≤ R.locals) (hRcells : cells + 1 ≤ R.cells) (hRslots : slots + 6 ≤ R.slots) (hlocks : meth.locks = false)
    (hx : ∀ t : State, s.vm.Alike t.vm → H.size ≤ t.heap.size → (∀ q : Nat, q < H.size → t.heap[q]? = H[q]?) → XC cls s t)
    (hf : ∀ z ∈ locs, free z.base) (hc : cells + 1 ≤ mc) (hs : slots + 6 ≤ ms) :
    W p l e R s m args below meth c H locs cells slots (vx_MQ below Qc XC args s mc ms free) (F0 m pc ls rest) := by
  intro T hT X
  have htr : e.platform.stackTraces = false := (show e.platform.stackTraces = l.stackTraces by rw [X.admits.platform]).trans hl
  have Y := vx_rebase X (R' := { frames := R.frames, locals := R.locals, cells := 1, slots := 6 }) (Nat.le_refl _) (Nat.le_refl _) hRcells hRslots
  obtain ⟨s', hA⟩ : ∃ z, z = (T.setVm s.vm).setFrames (.invoking m args :: below) := ⟨_, rfl⟩
  rw [← hA] at Y
  have hvm : s'.vm = s.vm := by rw [hA]; rfl
  have hhp : s'.heap = H := by rw [hA]; exact hT
  have hW0 : s.WarmedH s'.vm := by rw [hvm]; exact State.WarmedH.refl s
  have hat' : ∀ w ∈ vx_atS own ic cls names, w.before args s' = true := fun w hw => vx_ot_at hW0 hvm.symm (hgood w (List.mem_cons_of_mem _ (List.mem_cons_of_mem _ hw))) (hat w hw)
  have hk' : (Cond.classLink own ik cls).before args s' = true := vx_ot_at hW0 hvm.symm (hgood _ List.mem_cons_self) hk
  have hini' : (Cond.initialized cls).before args s' = true := vx_ot_at hW0 hvm.symm (hgood _ (List.mem_cons_of_mem _ List.mem_cons_self)) hini
  have hU' : vx_Zq Bundle.tN "UNASSIGNED_STACK" Bundle.steD A s' s'.heap := by rw [hhp]; exact vx_Zq.moved hW0.alike (hU.kept hS.2.1)
  have hN' : vx_Zq Bundle.tN "SUPPRESSED_SENTINEL" Bundle.listD A s' s'.heap := by rw [hhp]; exact vx_Zq.moved hW0.alike (hN.kept hS.2.1)
  have h : ∀ w ∈ Bundle.ownAtoms own ic cls names, w.before args s' = true := vx_own hat' (vx_isRefq hU'.1) (vx_isRefq hN'.1) hU'.2.word hN'.2.word
  have hown' : s'.vm.findClass own = some m.cls := by rw [hvm]; exact hown
  have hins : (Cond.instantiable cls 6).before args s' = true := h _ (by simp [Bundle.ownAtoms])
  obtain ⟨vm₁, cX, kX, hfX, hkX, -, -, X₁, st1⟩ := Y.newCold hexec (own := own) (C := cls) (index := ik) (n := 6) hown' hk' hins hini'
    (g := F0 m pc ls rest) rfl (by rw [hb]; exact d0) (Nat.le_refl _) (Nat.le_refl _)
  generalize hT1 : (T.setVm vm₁).pushCell { cls := cX, slots := kX.instanceTypes.map defaultValue, vm := .none } = T1 at X₁ st1
  have hcat : (Value.ref T.heap.size).category = 1 := rfl
  have hcellA : T1.heap[T.heap.size]? = some (freshCell cX kX) := by rw [← hT1]; exact State.heap_pushCell_size _ _
  have d3' : decode c.code (pc + 3) = .ok (.dup, 1) := by rw [hb]; exact d3
  have d4' : decode c.code (pc + 4) = .ok (.ldc_w is, 3) := by rw [hb]; exact d4
  have hstr' : vk_R own is text sa s' := vk_R.warm hW0 hstr
  obtain ⟨U, hsteps, hrun, hend, hW, hsame, ce, hce, hO⟩ := X₁.ctorThrowS hexec htr (own := own) (cls := cls) (names := names) (ic := ic) hown' hcls hnames h (fun x hx => nomatch hx) hfX hkX hcellA (by rw [hhp, hT]; exact Nat.le_refl _) (msg := .ref sa) rfl
    (g := { method := m, pc := pc + 7, locals := ls, stack := .ref sa :: .ref T.heap.size :: .ref T.heap.size :: rest, locked := none }) rfl hsize rfl rfl (rest := rest) rfl
    (by rw [hb]; exact d7) (by rw [hb]; exact d10) hout hRframes (by simp only [List.map_cons, List.sum_cons, hcat]; omega) hlocks
  obtain ⟨f1, f2⟩ := vx_frame hsame
  rw [hhp] at f1 f2
  have hWs : s.WarmedH U.vm := State.WarmedH.trans hW0 hW
  have hcl : s.vm.findClass cls = some ce.cls := by
    have h9 := hO.cls
    rw [hvm] at h9
    exact h9
  have hall : s.sameButNew ({ U with vm := s.vm } : State) locs mc ms := by
    subst hA
    obtain ⟨e1, e2⟩ := hsame
    rw [State.setFrames_setFrames] at e1
    have h2 : (T.setVm s.vm).sameButNew ({ U with vm := s.vm } : State) [] (0 + 1) (0 + 6) := ⟨e1, e2⟩
    have h3 := X.same.trans h2
    rw [List.append_nil] at h3
    exact h3.mono hc hs
  refine ⟨U, ?_, .threw T.heap.size, hrun, hend, Or.inr ⟨T.heap.size, rfl, cls, ce, locs, hx U hWs.alike f1 (fun q hq => f2 q hq (fun z hz => nomatch hz)), hce, hO.vm, hcl, hWs, hall, hf⟩⟩
  refine st1 _ ?_
  show Steps p.tables e below (T1.setTop { method := m, pc := pc + 3, locals := ls, stack := .ref T.heap.size :: rest, locked := none }) _
  jvm_step X₁.here [X₁.here.top, hexec, d3', Value.category]
  exact X₁.ldcStringW hexec (own := own) (text := text) (index := is) (a := sa) hown' hstr'.1 hstr'.2
    (g := { method := m, pc := pc + 4, locals := ls, stack := .ref T.heap.size :: .ref T.heap.size :: rest, locked := none }) rfl d4' _ hsteps
end Ends
section Bodies
variable {l : Launch}
theorem vx_ofW {y : MethodName} {ws ws' : List Cond} {rm : Room} {Pc : Array Value → State → Prop} {Qc : Array Value → State → Outcome → State → Prop} {XC : String → State → State → Prop} {mc ms : Nat} {free : Addr → Prop} {cc : ByteArray} {maxL : Nat} {ret : Option FieldType}
    (hy : plainName y.cls = true) (hw : ws = Cond.code y cc maxL ret :: ws')
    (body : ∀ p e s m args below meth c s₁, BodyLoose p l y (headSpec ws rm) cc maxL ret e s m args below meth c s₁ → c.maxLocals = maxL → (∀ x ∈ c.exceptionTable.toList, False) → Pc args s →
      W p l e (headSpec ws rm).room s m args below meth c s.heap [] 0 0 (vx_MQ below Qc XC args s mc ms free) (entryFrame m args maxL)) : vx_Met l y ws rm Pc Qc XC mc ms free := by
  refine MetFree.of_bodyS (code := cc) (maxLocals := maxL) (ret := ret) hy ?_ ?_
  · intro args s m h hn
    obtain ⟨meth, c, h1, h2, h3, h4, h5, h6, -, -⟩ := Cond.code_spec hn (atoms_spec (ws := ws) h _ (by rw [hw]; exact List.mem_cons_self))
    exact ⟨meth, c, h1, h2, h3, h4, h5, h6⟩
  · intro p e s m args below meth c s₁ B hml hP _
    have hh0 : s₁.heap = s.heap := by rw [B.state]; rfl
    have ht : ∀ x ∈ c.exceptionTable.toList, False := by
      obtain ⟨meth9, c9, h1, h2, -, -, -, -, h7, -⟩ := Cond.code_spec B.named (atoms_spec (ws := ws) B.pre _ (by rw [hw]; exact List.mem_cons_self))
      cases Option.some.inj (h1.symm.trans B.method)
      cases Option.some.inj (h2.symm.trans (Stand.of_body B).code)
      intro x hx
      rw [Array.isEmpty_iff.mp h7] at hx
      cases hx
    obtain ⟨t, a1, o, b1, b2, b3⟩ := body p e s m args below meth c s₁ B hml ht hP s₁ hh0 (Stand.of_body B)
    exact ⟨t, o, a1, b1, b2, b3⟩
/-- the table of a body with handlers -/
theorem vx_table {p : Program} {x y : MethodName} {S : Spec} {cc bytes : ByteArray} {maxL maxL' : Nat} {ret ret' : Option FieldType} {e : Env} {s s₁ : State} {m : MethodId} {args : Array Value} {below : List Frame} {meth : Method} {c : Code} {hh : List (Nat × Nat × Nat × Nat)}
    (B : BodyLoose p l y S cc maxL ret e s m args below meth c s₁) (h : (Cond.codeWith y bytes maxL' ret' hh).before args s = true) : c.exceptionTable.toList = tableOf hh := by
  obtain ⟨m9, meth9, c9, hn9, h1, h2, -, -, h6, -⟩ := Cond.codeWith_spec h
  cases Option.some.inj (hn9.symm.trans B.named)
  cases Option.some.inj (h1.symm.trans B.method)
  cases Option.some.inj (h2.symm.trans (Stand.of_body B).code)
  rw [← h6, table_eq]
end Bodies
end VXA
/-! ===== END ===== -/
/-! ===== BEGIN a static call of a method with an exception table ===== -/
section VXS
variable {p : Program} {l : Launch} {e : Env} {R : Room} {s : State} {m : MethodId} {args : Array Value} {below : List Frame} {meth : Method} {c : Code} {T : State} {H : Heap} {locs : List Loc} {cells slots : Nat}
abbrev vx_CSW (R : Room) (s : State) (args : Array Value) (own : String) (index : Nat) (y : MethodName) (bytes : ByteArray) (maxL : Nat) (ret : Option FieldType) (hh : List (Nat × Nat × Nat × Nat)) (ws : List Cond) (rm : Room) (mc ms n : Nat) : Prop :=
  (rm.cells = mc ∧ rm.slots = ms ∧ rm.frames + 1 ≤ R.frames ∧ 8 + (maxL + 11) + rm.locals ≤ R.locals ∧ (∀ w ∈ ws, ∀ (a' : Array Value) (U : State), s.WarmedH U.vm → w.before a' U = true) ∧ Cond.codeWith y bytes maxL ret hh ∈ ws) ∧
  (Cond.codeWith y bytes maxL ret hh).before args s = true ∧ (Cond.initialized y.cls).before args s = true ∧ (y.cls ≠ "java/lang/invoke/MethodHandle" ∧ y.cls ≠ "java/lang/invoke/VarHandle") ∧
  (∀ sig, parseMethodDescriptor y.desc = some sig → n = sig.parameters.length) ∧ (Cond.methodLink own index y).before args s = true ∧ (Cond.static y).before args s = true
theorem vx_cwSW {own : String} {index maxL mc ms : Nat} {y : MethodName} {bytes : ByteArray} {ret : Option FieldType} {hh : List (Nat × Nat × Nat × Nat)} {Ts ws ws' : List Cond} {rm : Room} (n : Nat) (ht : ∀ w ∈ Ts, w.before args s = true) (hT : GoodIn Ts (va_wsS own index y ws)) (hw : ws = Cond.codeWith y bytes maxL ret hh :: ws') (hrc : rm.cells = mc) (hrs : rm.slots = ms)
    (hd : y.cls ≠ "java/lang/invoke/MethodHandle" ∧ y.cls ≠ "java/lang/invoke/VarHandle" ∧ (parseMethodDescriptor y.desc).map (fun d => d.parameters.length) = some n) (hR : rm.frames + 1 ≤ R.frames ∧ 8 + (maxL + 11) + rm.locals ≤ R.locals) :
    vx_CSW R s args own index y bytes maxL ret hh ws rm mc ms n := by
  have ok : ∀ w ∈ va_wsS own index y ws, w.before args s = true := fun w h => ht w (hT w h).1
  have hG : GoodIn Ts ws := fun w h => hT w (by unfold va_wsS; exact List.mem_append_right _ h)
  have hc : Cond.codeWith y bytes maxL ret hh ∈ ws := by rw [hw]; exact List.mem_cons_self
  refine ⟨⟨hrc, hrs, hR.1, hR.2, pay_in ht hG, hc⟩, ht _ (hG _ hc).1, ok _ (by simp [va_wsS]), ⟨hd.1, hd.2.1⟩, fun sig h => ?_, ok _ (by simp [va_wsS]), ok _ (by simp [va_wsS])⟩
  have h2 := hd.2.2
  rw [h] at h2
  exact (Option.some.inj h2).symm
theorem vx_callSW (X : Stand p l e R s m args below meth c T locs cells slots) (hexec : p.tables.exec = Jvm.exec) {own : String} {index : Nat} {y : MethodName} {bytes : ByteArray} {maxL : Nat} {ret : Option FieldType} {hh : List (Nat × Nat × Nat × Nat)}
    (hown : s.vm.findClass own = some m.cls) (hlink : (Cond.methodLink own index y).before args s = true) (hstat : (Cond.static y).before args s = true) (hinit : (Cond.initialized y.cls).before args s = true)
    (hcode : (Cond.codeWith y bytes maxL ret hh).before args s = true) (hy : y.cls ≠ "java/lang/invoke/MethodHandle" ∧ y.cls ≠ "java/lang/invoke/VarHandle")
    {W9 : Nat} {Pre : Pt → Array Value → Prop} {Post : Pt → Array Value → Option Value → Pt → Prop} (hK : Back l R p e below s args y 3 W9 Pre Post)
    {g : JFrame} (hg : g.method = m) (hsize : g.locals.size = c.maxLocals) {argsL rest : List Value} (hlen : ∀ sig, parseMethodDescriptor y.desc = some sig → argsL.length = sig.parameters.length)
    (hstack : g.stack = argsL.reverse ++ rest) (hW : 2 * g.monitorRoom + (rest.map fun v => v.category).sum ≤ W9) (hdg : decode c.code g.pc = .ok (.invokestatic index, 3))
    (hpre : ∀ vm₁, s.WarmedH vm₁ → Pre ⟨T.setVm vm₁, locs, cells, slots⟩ argsL.toArray) :
    ∃ (v : Option Value) (vm₁ : Vm) (B : Pt), s.WarmedH vm₁ ∧ Stand p l e R s m args below meth c B.U B.locs B.cells B.slots ∧ Post ⟨T.setVm vm₁, locs, cells, slots⟩ argsL.toArray v B ∧
      ∀ target, Steps p.tables e below (B.U.setTop { g with pc := g.pc + 3, stack := v.toList ++ rest }) target → Steps p.tables e below (T.setTop g) target := by
  obtain ⟨mk, methM, cM, hnamed, hmethM, -, -, -, -, -, -, hsigM⟩ := Cond.codeWith_spec hcode
  have hstatic : methM.isStatic = true := Cond.static_spec hnamed hmethM hstat
  obtain ⟨kP, hkP, -⟩ := className_of_methodNamed hnamed
  have hinitP : kP.init = .initialized := Cond.initialized_spec (findClass_of_methodNamed hnamed) hkP hinit
  obtain ⟨vm₁, X₁, hstep₁⟩ := X.invokestatic hexec hown hlink hnamed hmethM hstatic hkP hinitP hy (g := g) hg (argsL := argsL) (rest := rest) (hlen _ hsigM) hstack hdg
  obtain ⟨v, B, X', hpost, hsteps⟩ := hK m meth c ⟨T.setVm vm₁, locs, cells, slots⟩ { g with stack := rest } (.invokestatic index) mk argsL.toArray X₁ hg hsize hdg hW (X₁.named hnamed) (hpre vm₁ X₁.warmed)
  exact ⟨v, vm₁, B, X₁.warmed, X', hpost, fun target h => hstep₁ _ fun acts => by rw [doInvoke_state]; exact hsteps.trans h⟩
theorem vx_runSW {y : MethodName} {bytes cc : ByteArray} {maxL nL mc ms n index : Nat} {ret : Option FieldType} {hh : List (Nat × Nat × Nat × Nat)} {ws : List Cond} {rm : Room} {Pc : Array Value → State → Prop} {Qc : Array Value → State → Outcome → State → Prop} {free : Addr → Prop} {Ts : List Cond} {own : String} {As rest : List Value} {g : JFrame}
    (S : CallFix p m c cc nL s args Ts own) (hM : Met l y ws rm Pc Qc mc ms free) (cw : vx_CSW R s args own index y bytes maxL ret hh ws rm mc ms n) (hp : PreS s H Pc As)
    (hg : g.method = m) (hn : As.length = n) (hsize : g.locals.size = nL) (hstack : g.stack = As.reverse ++ rest) (hW : 2 * g.monitorRoom + (rest.map fun v => v.category).sum ≤ 8) (hdg : decode cc g.pc = .ok (.invokestatic index, 3)) (hf : cells + mc ≤ R.cells ∧ slots + ms ≤ R.slots) :
    va_Run p l e R s m args below meth c H locs cells slots mc ms g rest (Qc As.toArray) (free) := by
  obtain ⟨⟨hrc, hrs, hfr, hlo, hws, hcw⟩, hcode, hini, hy, hlen, hl, hstt⟩ := cw
  have hK : Back l R p e below s args y 3 8 (PreOf R mc ms Pc) (PostOf Qc mc ms free) := va_backW (hh := hh) (bytes := bytes) (maxL := maxL) (ret := ret) hM hp.1 hrc hrs hfr hlo hws hcw (fun a' U hW => word_at hW (Or.inl (by first | rfl | simp [Cond.onTables, Cond.keeps, Cond.steady])) hini)
  obtain ⟨hx, hb, hml, ho, -⟩ := S
  intro T hT X
  obtain ⟨v, vm₁, ⟨U', l2, c2, s2⟩, hW₁, X', ⟨g', mk, t, L, e1, e2, hq, h1, hL, h2, h3⟩, st⟩ := vx_callSW X hx (hh := hh) (bytes := bytes) (maxL := maxL) (ret := ret) ho hl hstt hini hcode hy hK hg (hsize.trans hml.symm) (argsL := As) (rest := rest) (fun sig h => hn.trans (hlen sig h)) hstack hW (by rw [hb]; exact hdg)
    (fun vm₁ hW₁ => ⟨hf.1, hf.2, hp.2 (T.setVm vm₁) hT hW₁⟩)
  dsimp only [Pt.U, Pt.locs, Pt.cells, Pt.slots] at X' e1 e2 h1 h2 h3 st
  subst h1; subst h2; subst h3
  exact ⟨v, (T.setVm vm₁).calling g' mk As.toArray, t, U', L, hT, X', hL, e1, e2, hq, st⟩
/-- not caught here, past rows that name other classes: it goes on to the caller -/
theorem vx_outP {p : Program} {l : Launch} {e : Env} {R : Room} {s : State} {m : MethodId} {args : Array Value} {below : List Frame} {meth : Method} {c : Code} {H : Heap} {locs : List Loc} {cells slots : Nat} {free : Addr → Prop} {ls : Array Slot} {rest : List Value} {Qc : Array Value → State → Outcome → State → Prop} {XC : String → State → State → Prop}
    {pc : Nat} {own E : String} {ce : Cell} {q : Addr} {mc ms : Nat} (hown : s.vm.findClass own = some m.cls) (hlocks : meth.locks = false)
    (hpass : ∀ z ∈ c.exceptionTable.toList, covers z pc = false ∨ (z.catchType ≠ 0 ∧ ∃ nm : String, (Cond.classLink own z.catchType nm).before args s = true ∧ va_Nc E nm s)) (hcell : H[q]? = some ce) (hv : ce.vm = .none) (hcl : s.vm.findClass E = some ce.cls)
    (hx : ∀ t : State, t.heap = H → s.vm.Alike t.vm → XC E s t) (hf : ∀ z ∈ locs, free z.base) (hc : cells ≤ mc) (hs : slots ≤ ms) :
    vx_W p l e R s m args below meth c H locs cells slots (vx_MQ below Qc XC args s mc ms free) (F0 m pc ls rest) q := by
  intro T hT X
  have hpl : e.platform.magicAccessors = ({} : Platform).magicAccessors := by rw [X.admits.platform]
  obtain ⟨vm', hW', X', st⟩ := X.outThrough hlocks q (g := F0 m pc ls rest) rfl rfl rfl (cell := ce) (by rw [hT]; exact hcell) (by rw [hv]; rfl)
    (by obtain ⟨k9, h9, -⟩ := Vm.findClass_spec hcl; exact ⟨k9, h9⟩) (fun z hz => by
      rcases hpass z hz with h | ⟨hz0, nm, hl1, hn1⟩
      · exact Or.inl h
      · obtain ⟨c6, hc6, hcl6⟩ := Cond.classLink_spec hown hl1 e.platform hpl
        obtain ⟨a8, b8, h1, h2, h3⟩ := hn1
        cases Option.some.inj (h1.symm.trans hcl)
        cases Option.some.inj (h2.symm.trans hc6)
        exact Or.inr ⟨hz0, _, hcl6, h3⟩)
  obtain ⟨g₀, hfr⟩ := X'.frames_eq
  have hcell9 : ((T.setVm vm').setFrames (.throwing q :: below)).heap[q]? = some ce := by
    show T.heap[q]? = some ce
    rw [hT]; exact hcell
  have hend : Ended ((T.setVm vm').setFrames (.throwing q :: below)) below (.threw q) := State.frames_setFrames _ (State.cur_lt_of_frames hfr)
  refine ⟨(T.setVm vm').setFrames (.throwing q :: below), ?_, .threw q, X'.here.running, hend, Or.inr ⟨q, rfl, E, ce, locs, hx _ hT (X'.ends _).1.alike, hcell9, hv, hcl, (X'.ends _).1, (X'.ends _).2.mono hc hs, hf⟩⟩
  rw [X.pushThrowing_eq]
  exact st
/-- a thing of a world lies in the heap -/
theorem vx_lt {D : va_G} {cl : List vw_C} {ws : va_W} {H1 : Heap} (h : va_P D cl ws H1) {k : Nat} {q : Nat × va_E} (hk : ws[k]? = some q) : q.1 < H1.size := (h k q hk).lt
end VXS
/-! ===== END ===== -/
/-! ===== BEGIN methods with a table of their own: called by a name, returning or throwing ===== -/
section VXH
/-! vx_backW, vx_callVX, vx_callSX, vx_callVW, vx_runVW, vx_runVX, vx_runSX, vx_ofWH follow the same proofs as their sisters above (Free/Laws.lean, Shelf42/LK1.lean); vx_outP calls Shelf42/NT130.lean (outThrough). -/
section
variable {l : Launch} {R : Room} {p : Program} {e : Env} {below : List Frame} {s : State} {sargs : Array Value} {y : MethodName} {len W9 : Nat}
theorem vx_backW {ws : List Cond} {rm : Room} {Pc : Array Value → State → Prop} {Qc : Array Value → State → Outcome → State → Prop} {XC : String → State → State → Prop} {mc ms : Nat} {free : Addr → Prop} {bytes : ByteArray} {maxL : Nat} {ret : Option FieldType} {hh : List (Nat × Nat × Nat × Nat)}
    (hM : vx_Met l y ws rm Pc Qc XC mc ms free) (hblind : FrameBlind Pc) (hrc : rm.cells = mc) (hrs : rm.slots = ms)
    (hframes : rm.frames + 1 ≤ R.frames) (hlocals : W9 + (maxL + 11) + rm.locals ≤ R.locals)
    (hws : ∀ w ∈ ws, ∀ a' U, s.WarmedH U.vm → w.before a' U = true) (hcode : Cond.codeWith y bytes maxL ret hh ∈ ws) (hinit : ∀ a' U, s.WarmedH U.vm → (Cond.initialized y.cls).before a' U = true) :
    vx_Back l R p e below s sargs y len W9 (PreOf R mc ms Pc) (PostOf Qc mc ms free) (vx_Post XC mc ms free) := by
  intro m meth c A g ig mk a X hg hsize hdg hW hn hp
  have h1 : (headSpec ws rm).pre.before a A.U = true := atoms_intro fun w hw => hws w hw _ _ X.warmed
  have h2 : (Cond.codeWith y bytes maxL ret hh).before a A.U = true := hws _ hcode _ _ X.warmed
  have h3 : (Cond.initialized y.cls).before a A.U = true := hinit _ _ X.warmed
  have h4 : A.cells + (headSpec ws rm).room.cells ≤ R.cells := by rw [show (headSpec ws rm).room.cells = mc from hrc]; exact hp.1
  have h5 : A.slots + (headSpec ws rm).room.slots ≤ R.slots := by rw [show (headSpec ws rm).room.slots = ms from hrs]; exact hp.2.1
  have hPc : Pc a (A.U.calling g mk a) := hblind _ _ _ _ hp.2.2
  obtain ⟨U, Ls, c0, s0⟩ := A
  dsimp only [Pt.U, Pt.locs, Pt.cells, Pt.slots] at h1 h2 h3 h4 h5 X hn hPc ⊢
  obtain ⟨m9, methY, cY, hn9, hmY, hcY, -, hlY, -⟩ := Cond.codeWith_spec h2
  cases Option.some.inj (hn9.symm.trans hn)
  obtain ⟨kY, hkY, -⟩ := className_of_methodNamed hn
  have hinitY : kY.init = .initialized := Cond.initialized_spec (findClass_of_methodNamed hn) hkY h3
  have h : At U g.method c below := by rw [hg]; exact X.here
  have hlocals9 : W9 + (maxL + 11) + (headSpec ws rm).room.locals ≤ R.locals := hlocals
  have happ : (headSpec ws rm).appliesLoose y e.platform (U.calling g mk a) = true :=
    Spec.appliesLoose_calling (g := g) h hdg hn hkY hinitY
      (X.room_calling (g := g) (R' := (headSpec ws rm).room) hsize hmY hcY hframes (by rw [hlY]; omega) h4 h5) h1
  obtain ⟨mid, hmid⟩ := h.above
  have hfr : (U.setTop g).frames = (.java g :: mid) ++ below := by rw [State.frames_setTop' g h.top, hmid]; rfl
  obtain ⟨o, s₂, hsteps, -, hend, hq⟩ := Steps.callFree hM p X.admits X.cas X.clock (acts := []) hfr happ hPc trivial
  have hq' : vx_Q Qc XC mc ms free a (U.calling g mk a) o s₂ := hq
  rw [State.frames_setTop' g h.top] at hend
  obtain ⟨g₀, hg0⟩ := Option.isSome_iff_exists.mp h.top
  obtain ⟨r, hr⟩ := State.topJava?_eq_some.mp hg0
  have hr' : (({ U with heap := s₂.heap, slotsUsed := s₂.slotsUsed } : State).setVm s₂.vm).frames = .java g₀ :: r := hr
  rcases hq' with ⟨hqc, L, hfe, hL⟩ | ⟨q, rfl, E, ce, L, hx, hce, hcv, hcl, hW₂, hsm, hL⟩
  · obtain ⟨⟨v, rfl⟩, hW₂, e2, q2, q3, q4, q5, q6⟩ := id hfe
    have e3 : s₂ = ({ (U.calling g mk a).setFrames s₂.frames with heap := s₂.heap, slotsUsed := s₂.slotsUsed } : State).setVm s₂.vm := by
      have : s₂ = ({ s₂ with vm := (U.calling g mk a).vm } : State).setVm s₂.vm := rfl
      rw [e2] at this
      exact this
    obtain ⟨c₂, i₂, len₂, hc₂, hd₂, hf₂⟩ := hend
    have hW' : U.WarmedH s₂.vm := hW₂
    have hcc : c₂ = c := by
      have h1 : s₂.code? g.method = U.code? g.method := by
        rw [State.code?_eq, State.code?_eq, hW'.alike.method?]
      exact Option.some.inj (hc₂.symm.trans (h1.trans h.code))
    subst hcc
    have hlen : len₂ = len := by rw [hdg] at hd₂; cases hd₂; rfl
    subst hlen
    have hs₂ : s₂ = (({ U with heap := s₂.heap, slotsUsed := s₂.slotsUsed } : State).setVm s₂.vm).setTop { g with pc := g.pc + len₂, stack := v.toList ++ g.stack } := by
      refine e3.trans ?_
      rw [hf₂, State.calling_eq h.top, State.setFrames_setFrames, State.setTop_of_frames _ hr', hr]
      rfl
    have hsame : U.sameButNew ({ U with heap := s₂.heap, slotsUsed := s₂.slotsUsed } : State) L mc ms := by
      refine ⟨?_, q2, q3, q4, q5, q6⟩
      obtain ⟨t, ht, -⟩ := State.frames_cons hr
      show ({ U with heap := s₂.heap, slotsUsed := s₂.slotsUsed } : State) = { U.setFrames U.frames with heap := s₂.heap, slotsUsed := s₂.slotsUsed }
      rw [State.setFrames_self ht]
    subst hg
    refine Or.inl ⟨v, ⟨(({ U with heap := s₂.heap, slotsUsed := s₂.slotsUsed } : State).setVm s₂.vm), Ls ++ L, c0 + mc, s0 + ms⟩,
      ⟨X.admits, X.cas, X.clock, X.frames, X.room, X.hears, X.method, X.code, (X.here.setHeapUsed s₂.heap s₂.slotsUsed).setVm hW'.alike, X.tail, State.WarmedH.trans X.warmed hW', X.limits, X.bytes, X.same.trans (hsame.setVm s.vm)⟩,
      ⟨g, mk, s₂, L, rfl, rfl, hqc, rfl, hL, rfl, rfl⟩, ?_⟩
    show Steps p.tables e below _ ((({ U with heap := s₂.heap, slotsUsed := s₂.slotsUsed } : State).setVm s₂.vm).setTop { g with pc := g.pc + len₂, stack := v.toList ++ g.stack })
    rw [← hs₂]
    exact hsteps
  · obtain ⟨e2, q2, q3, q4, q5, q6⟩ := id hsm
    have e3 : s₂ = ({ (U.calling g mk a).setFrames s₂.frames with heap := s₂.heap, slotsUsed := s₂.slotsUsed } : State).setVm s₂.vm := by
      have : s₂ = ({ s₂ with vm := (U.calling g mk a).vm } : State).setVm s₂.vm := rfl
      rw [e2] at this
      exact this
    have hf₂ : s₂.frames = .throwing q :: .java g :: U.frames.tail := hend
    have hW' : U.WarmedH s₂.vm := hW₂
    have hs₂ : s₂ = ((({ U with heap := s₂.heap, slotsUsed := s₂.slotsUsed } : State).setVm s₂.vm).setTop g).pushFrame (.throwing q) := by
      refine e3.trans ?_
      rw [hf₂, State.calling_eq h.top, State.setFrames_setFrames, State.pushFrame, State.frames_setTop _ hr', State.setTop_of_frames _ hr', State.setFrames_setFrames, hr]
      rfl
    have hsame : U.sameButNew ({ U with heap := s₂.heap, slotsUsed := s₂.slotsUsed } : State) L mc ms := by
      refine ⟨?_, q2, q3, q4, q5, q6⟩
      obtain ⟨t, ht, -⟩ := State.frames_cons hr
      show ({ U with heap := s₂.heap, slotsUsed := s₂.slotsUsed } : State) = { U.setFrames U.frames with heap := s₂.heap, slotsUsed := s₂.slotsUsed }
      rw [State.setFrames_self ht]
    subst hg
    refine Or.inr ⟨q, ⟨(({ U with heap := s₂.heap, slotsUsed := s₂.slotsUsed } : State).setVm s₂.vm), Ls ++ L, c0 + mc, s0 + ms⟩,
      ⟨X.admits, X.cas, X.clock, X.frames, X.room, X.hears, X.method, X.code, (X.here.setHeapUsed s₂.heap s₂.slotsUsed).setVm hW'.alike, X.tail, State.WarmedH.trans X.warmed hW', X.limits, X.bytes, X.same.trans (hsame.setVm s.vm)⟩,
      ⟨g, mk, s₂, L, E, ce, rfl, rfl, hx, hce, hcv, hcl, rfl, hL, rfl, rfl⟩, ?_⟩
    show Steps p.tables e below _ (((({ U with heap := s₂.heap, slotsUsed := s₂.slotsUsed } : State).setVm s₂.vm).setTop g).pushFrame (.throwing q))
    rw [← hs₂]
    exact hsteps
end
variable {p : Program} {l : Launch} {e : Env} {R : Room} {s : State} {m : MethodId} {args : Array Value} {below : List Frame} {meth : Method} {c : Code} {T : State} {H : Heap} {locs : List Loc} {cells slots : Nat}
theorem vx_callVX (X : Stand p l e R s m args below meth c T locs cells slots) (hexec : p.tables.exec = Jvm.exec) {own C : String} {index : Nat} {y : MethodName} {bytes : ByteArray} {maxL : Nat} {ret : Option FieldType} {hh : List (Nat × Nat × Nat × Nat)}
    (hown : s.vm.findClass own = some m.cls) (hlink : (Cond.methodLink own index y).before args s = true) (hinst : (Cond.instanceMethod y).before args s = true) (hsel : (Cond.selects C y y).before args s = true)
    (hcode : (Cond.codeWith y bytes maxL ret hh).before args s = true) (hy : y.cls ≠ "java/lang/invoke/MethodHandle" ∧ y.cls ≠ "java/lang/invoke/VarHandle")
    {W9 : Nat} {Pre : Pt → Array Value → Prop} {Post : Pt → Array Value → Option Value → Pt → Prop} {PostX : Pt → Array Value → Addr → Pt → Prop} (hK : vx_Back l R p e below s args y 3 W9 Pre Post PostX)
    {b : Addr} {cellB : Cell} (hcell : T.heap[b]? = some cellB) (hobj : cellB.vm.isStatics = false) (hcls : s.vm.findClass C = some cellB.cls)
    {g : JFrame} (hg : g.method = m) (hsize : g.locals.size = c.maxLocals) {argsL rest : List Value} (hlen : ∀ sig, parseMethodDescriptor y.desc = some sig → argsL.length = sig.parameters.length)
    (hstack : g.stack = argsL.reverse ++ .ref b :: rest) (hW : 2 * g.monitorRoom + (rest.map fun v => v.category).sum ≤ W9) (hdg : decode c.code g.pc = .ok (.invokevirtual index, 3))
    (hpre : ∀ vm₁, s.WarmedH vm₁ → Pre ⟨T.setVm vm₁, locs, cells, slots⟩ (Value.ref b :: argsL).toArray) :
    (∃ (v : Option Value) (vm₁ : Vm) (B : Pt), s.WarmedH vm₁ ∧ Stand p l e R s m args below meth c B.U B.locs B.cells B.slots ∧ Post ⟨T.setVm vm₁, locs, cells, slots⟩ (Value.ref b :: argsL).toArray v B ∧
      ∀ target, Steps p.tables e below (B.U.setTop { g with pc := g.pc + 3, stack := v.toList ++ rest }) target → Steps p.tables e below (T.setTop g) target) ∨
    (∃ (q : Addr) (vm₁ : Vm) (B : Pt), s.WarmedH vm₁ ∧ Stand p l e R s m args below meth c B.U B.locs B.cells B.slots ∧ PostX ⟨T.setVm vm₁, locs, cells, slots⟩ (Value.ref b :: argsL).toArray q B ∧
      Steps p.tables e below (T.setTop g) ((B.U.setTop { g with stack := rest }).pushFrame (.throwing q))) := by
  obtain ⟨mk, methM, hnamed, hmethM, hstM, habM⟩ := Cond.instanceMethod_spec hinst
  obtain ⟨m8, methM', cM, hn8, hmethM', -, -, -, -, -, -, hsigM⟩ := Cond.codeWith_spec hcode
  cases Option.some.inj (hn8.symm.trans hnamed)
  cases hmethM.symm.trans hmethM'
  obtain ⟨c2, r2, m2, q1, q2, q3, q4, kP, hkP, hkPi⟩ := Cond.selects_spec hsel
  cases hcls.symm.trans q1
  cases (State.methodFound?_of_named hnamed hy).symm.trans q2
  cases hnamed.symm.trans q3
  have hselP : selectMethod e.platform s.vm cellB.cls mk = .method mk := by rw [Launch.admits_selectMethod X.admits]; exact q4
  obtain ⟨vm₁, X₁, hstep₁⟩ := X.invokevirtual hexec hown hlink hnamed hmethM hstM hkP hkPi hy (a := b) (cell := cellB) hcell
    (fun z h => by rw [h] at hobj; cases hobj) hselP hmethM habM hkP hkPi (g := g) hg (argsL := argsL) (rest := rest) (hlen _ hsigM) hstack hdg
  rcases hK m meth c ⟨T.setVm vm₁, locs, cells, slots⟩ { g with stack := rest } (.invokevirtual index) mk (Value.ref b :: argsL).toArray X₁ hg hsize hdg hW (X₁.named hnamed) (hpre vm₁ X₁.warmed) with ⟨v, B, X', hpost, hsteps⟩ | ⟨q, B, X', hpost, hsteps⟩
  · exact Or.inl ⟨v, vm₁, B, X₁.warmed, X', hpost, fun target h => hstep₁ _ fun acts => by rw [doInvoke_state]; exact hsteps.trans h⟩
  · exact Or.inr ⟨q, vm₁, B, X₁.warmed, X', hpost, hstep₁ _ fun acts => by rw [doInvoke_state]; exact hsteps⟩
theorem vx_callSX (X : Stand p l e R s m args below meth c T locs cells slots) (hexec : p.tables.exec = Jvm.exec) {own : String} {index : Nat} {y : MethodName} {bytes : ByteArray} {maxL : Nat} {ret : Option FieldType} {hh : List (Nat × Nat × Nat × Nat)}
    (hown : s.vm.findClass own = some m.cls) (hlink : (Cond.methodLink own index y).before args s = true) (hstat : (Cond.static y).before args s = true) (hinit : (Cond.initialized y.cls).before args s = true)
    (hcode : (Cond.codeWith y bytes maxL ret hh).before args s = true) (hy : y.cls ≠ "java/lang/invoke/MethodHandle" ∧ y.cls ≠ "java/lang/invoke/VarHandle")
    {W9 : Nat} {Pre : Pt → Array Value → Prop} {Post : Pt → Array Value → Option Value → Pt → Prop} {PostX : Pt → Array Value → Addr → Pt → Prop} (hK : vx_Back l R p e below s args y 3 W9 Pre Post PostX)
    {g : JFrame} (hg : g.method = m) (hsize : g.locals.size = c.maxLocals) {argsL rest : List Value} (hlen : ∀ sig, parseMethodDescriptor y.desc = some sig → argsL.length = sig.parameters.length)
    (hstack : g.stack = argsL.reverse ++ rest) (hW : 2 * g.monitorRoom + (rest.map fun v => v.category).sum ≤ W9) (hdg : decode c.code g.pc = .ok (.invokestatic index, 3))
    (hpre : ∀ vm₁, s.WarmedH vm₁ → Pre ⟨T.setVm vm₁, locs, cells, slots⟩ argsL.toArray) :
    (∃ (v : Option Value) (vm₁ : Vm) (B : Pt), s.WarmedH vm₁ ∧ Stand p l e R s m args below meth c B.U B.locs B.cells B.slots ∧ Post ⟨T.setVm vm₁, locs, cells, slots⟩ argsL.toArray v B ∧
      ∀ target, Steps p.tables e below (B.U.setTop { g with pc := g.pc + 3, stack := v.toList ++ rest }) target → Steps p.tables e below (T.setTop g) target) ∨
    (∃ (q : Addr) (vm₁ : Vm) (B : Pt), s.WarmedH vm₁ ∧ Stand p l e R s m args below meth c B.U B.locs B.cells B.slots ∧ PostX ⟨T.setVm vm₁, locs, cells, slots⟩ argsL.toArray q B ∧
      Steps p.tables e below (T.setTop g) ((B.U.setTop { g with stack := rest }).pushFrame (.throwing q))) := by
  obtain ⟨mk, methM, cM, hnamed, hmethM, -, -, -, -, -, -, hsigM⟩ := Cond.codeWith_spec hcode
  have hstatic : methM.isStatic = true := Cond.static_spec hnamed hmethM hstat
  obtain ⟨kP, hkP, -⟩ := className_of_methodNamed hnamed
  have hinitP : kP.init = .initialized := Cond.initialized_spec (findClass_of_methodNamed hnamed) hkP hinit
  obtain ⟨vm₁, X₁, hstep₁⟩ := X.invokestatic hexec hown hlink hnamed hmethM hstatic hkP hinitP hy (g := g) hg (argsL := argsL) (rest := rest) (hlen _ hsigM) hstack hdg
  rcases hK m meth c ⟨T.setVm vm₁, locs, cells, slots⟩ { g with stack := rest } (.invokestatic index) mk argsL.toArray X₁ hg hsize hdg hW (X₁.named hnamed) (hpre vm₁ X₁.warmed) with ⟨v, B, X', hpost, hsteps⟩ | ⟨q, B, X', hpost, hsteps⟩
  · exact Or.inl ⟨v, vm₁, B, X₁.warmed, X', hpost, fun target h => hstep₁ _ fun acts => by rw [doInvoke_state]; exact hsteps.trans h⟩
  · exact Or.inr ⟨q, vm₁, B, X₁.warmed, X', hpost, hstep₁ _ fun acts => by rw [doInvoke_state]; exact hsteps⟩
theorem vx_callVW (X : Stand p l e R s m args below meth c T locs cells slots) (hexec : p.tables.exec = Jvm.exec) {own C : String} {index : Nat} {y : MethodName} {bytes : ByteArray} {maxL : Nat} {ret : Option FieldType} {hh : List (Nat × Nat × Nat × Nat)}
    (hown : s.vm.findClass own = some m.cls) (hlink : (Cond.methodLink own index y).before args s = true) (hinst : (Cond.instanceMethod y).before args s = true) (hsel : (Cond.selects C y y).before args s = true)
    (hcode : (Cond.codeWith y bytes maxL ret hh).before args s = true) (hy : y.cls ≠ "java/lang/invoke/MethodHandle" ∧ y.cls ≠ "java/lang/invoke/VarHandle")
    {W9 : Nat} {Pre : Pt → Array Value → Prop} {Post : Pt → Array Value → Option Value → Pt → Prop} (hK : Back l R p e below s args y 3 W9 Pre Post)
    {b : Addr} {cellB : Cell} (hcell : T.heap[b]? = some cellB) (hobj : cellB.vm.isStatics = false) (hcls : s.vm.findClass C = some cellB.cls)
    {g : JFrame} (hg : g.method = m) (hsize : g.locals.size = c.maxLocals) {argsL rest : List Value} (hlen : ∀ sig, parseMethodDescriptor y.desc = some sig → argsL.length = sig.parameters.length)
    (hstack : g.stack = argsL.reverse ++ .ref b :: rest) (hW : 2 * g.monitorRoom + (rest.map fun v => v.category).sum ≤ W9) (hdg : decode c.code g.pc = .ok (.invokevirtual index, 3))
    (hpre : ∀ vm₁, s.WarmedH vm₁ → Pre ⟨T.setVm vm₁, locs, cells, slots⟩ (Value.ref b :: argsL).toArray) :
    ∃ (v : Option Value) (vm₁ : Vm) (B : Pt), s.WarmedH vm₁ ∧ Stand p l e R s m args below meth c B.U B.locs B.cells B.slots ∧ Post ⟨T.setVm vm₁, locs, cells, slots⟩ (Value.ref b :: argsL).toArray v B ∧
      ∀ target, Steps p.tables e below (B.U.setTop { g with pc := g.pc + 3, stack := v.toList ++ rest }) target → Steps p.tables e below (T.setTop g) target := by
  obtain ⟨mk, methM, hnamed, hmethM, hstM, habM⟩ := Cond.instanceMethod_spec hinst
  obtain ⟨m8, methM', cM, hn8, hmethM', -, -, -, -, -, -, hsigM⟩ := Cond.codeWith_spec hcode
  cases Option.some.inj (hn8.symm.trans hnamed)
  cases hmethM.symm.trans hmethM'
  obtain ⟨c2, r2, m2, q1, q2, q3, q4, kP, hkP, hkPi⟩ := Cond.selects_spec hsel
  cases hcls.symm.trans q1
  cases (State.methodFound?_of_named hnamed hy).symm.trans q2
  cases hnamed.symm.trans q3
  have hselP : selectMethod e.platform s.vm cellB.cls mk = .method mk := by rw [Launch.admits_selectMethod X.admits]; exact q4
  obtain ⟨vm₁, X₁, hstep₁⟩ := X.invokevirtual hexec hown hlink hnamed hmethM hstM hkP hkPi hy (a := b) (cell := cellB) hcell
    (fun z h => by rw [h] at hobj; cases hobj) hselP hmethM habM hkP hkPi (g := g) hg (argsL := argsL) (rest := rest) (hlen _ hsigM) hstack hdg
  obtain ⟨v, B, X', hpost, hsteps⟩ := hK m meth c ⟨T.setVm vm₁, locs, cells, slots⟩ { g with stack := rest } (.invokevirtual index) mk (Value.ref b :: argsL).toArray X₁ hg hsize hdg hW (X₁.named hnamed) (hpre vm₁ X₁.warmed)
  exact ⟨v, vm₁, B, X₁.warmed, X', hpost, fun target h => hstep₁ _ fun acts => by rw [doInvoke_state]; exact hsteps.trans h⟩
abbrev vx_CVW (R : Room) (s : State) (args : Array Value) (own C : String) (index : Nat) (y : MethodName) (bytes : ByteArray) (maxL : Nat) (ret : Option FieldType) (hh : List (Nat × Nat × Nat × Nat)) (ws : List Cond) (rm : Room) (mc ms n : Nat) : Prop :=
  (rm.cells = mc ∧ rm.slots = ms ∧ rm.frames + 1 ≤ R.frames ∧ 8 + (maxL + 11) + rm.locals ≤ R.locals ∧ (∀ w ∈ ws, ∀ (a' : Array Value) (U : State), s.WarmedH U.vm → w.before a' U = true) ∧ Cond.codeWith y bytes maxL ret hh ∈ ws) ∧
  (Cond.codeWith y bytes maxL ret hh).before args s = true ∧ (Cond.initialized y.cls).before args s = true ∧ (y.cls ≠ "java/lang/invoke/MethodHandle" ∧ y.cls ≠ "java/lang/invoke/VarHandle") ∧
  (∀ sig, parseMethodDescriptor y.desc = some sig → n = sig.parameters.length) ∧ (Cond.methodLink own index y).before args s = true ∧ (Cond.instanceMethod y).before args s = true ∧ (Cond.selects C y y).before args s = true
theorem vx_cwVW {own C : String} {index maxL mc ms : Nat} {y : MethodName} {bytes : ByteArray} {ret : Option FieldType} {hh : List (Nat × Nat × Nat × Nat)} {Ts ws ws' : List Cond} {rm : Room} (n : Nat) (ht : ∀ w ∈ Ts, w.before args s = true) (hT : GoodIn Ts (wsV own index C y ws)) (hw : ws = Cond.codeWith y bytes maxL ret hh :: ws') (hrc : rm.cells = mc) (hrs : rm.slots = ms)
    (hd : y.cls = C ∧ y.cls ≠ "java/lang/invoke/MethodHandle" ∧ y.cls ≠ "java/lang/invoke/VarHandle" ∧ (parseMethodDescriptor y.desc).map (fun d => d.parameters.length) = some n) (hR : rm.frames + 1 ≤ R.frames ∧ 8 + (maxL + 11) + rm.locals ≤ R.locals) :
    vx_CVW R s args own C index y bytes maxL ret hh ws rm mc ms n := by
  obtain ⟨hC, hd⟩ := hd
  subst hC
  have ok : ∀ w ∈ wsV own index y.cls y ws, w.before args s = true := fun w h => ht w (hT w h).1
  have hG : GoodIn Ts ws := fun w h => hT w (by unfold wsV; exact List.mem_append_right _ h)
  have hc : Cond.codeWith y bytes maxL ret hh ∈ ws := by rw [hw]; exact List.mem_cons_self
  refine ⟨⟨hrc, hrs, hR.1, hR.2, pay_in ht hG, hc⟩, ht _ (hG _ hc).1, ok _ (by simp [wsV]), ⟨hd.1, hd.2.1⟩, fun sig h => ?_, ok _ (by simp [wsV]), ok _ (by simp [wsV]), ok _ (by simp [wsV])⟩
  have h2 := hd.2.2
  rw [h] at h2
  exact (Option.some.inj h2).symm
theorem vx_runVW {y : MethodName} {bytes cc : ByteArray} {maxL nL mc ms n index : Nat} {ret : Option FieldType} {hh : List (Nat × Nat × Nat × Nat)} {ws : List Cond} {rm : Room} {Pc : Array Value → State → Prop} {Qc : Array Value → State → Outcome → State → Prop} {free : Addr → Prop} {Ts : List Cond} {own C : String} {b : Addr} {As rest : List Value} {g : JFrame}
    (S : CallFix p m c cc nL s args Ts own) (hM : Met l y ws rm Pc Qc mc ms free) (cw : vx_CVW R s args own C index y bytes maxL ret hh ws rm mc ms n) (hp : PreV s H C b Pc As)
    (hg : g.method = m) (hn : As.length = n) (hsize : g.locals.size = nL) (hstack : g.stack = As.reverse ++ .ref b :: rest) (hW : 2 * g.monitorRoom + (rest.map fun v => v.category).sum ≤ 8) (hdg : decode cc g.pc = .ok (.invokevirtual index, 3)) (hf : cells + mc ≤ R.cells ∧ slots + ms ≤ R.slots) :
    va_Run p l e R s m args below meth c H locs cells slots mc ms g rest (Qc (Value.ref b :: As).toArray) free := by
  obtain ⟨⟨hrc, hrs, hfr, hlo, hws, hcw⟩, hcode, hini, hy, hlen, hl, hin, hse⟩ := cw
  have hK : Back l R p e below s args y 3 8 (PreOf R mc ms Pc) (PostOf Qc mc ms free) := va_backW (hh := hh) (bytes := bytes) (maxL := maxL) (ret := ret) hM hp.1 hrc hrs hfr hlo hws hcw (fun a' U hW => word_at hW (Or.inl (by first | rfl | simp [Cond.onTables, Cond.keeps, Cond.steady])) hini)
  obtain ⟨hx, hb, hml, ho, -⟩ := S
  obtain ⟨-, ⟨cellB, hcB, hoB, hclB⟩, hPc⟩ := hp
  intro T hT X
  obtain ⟨v, vm₁, ⟨U', l2, c2, s2⟩, hW₁, X', ⟨g', mk, t, L, e1, e2, hq, h1, hL, h2, h3⟩, st⟩ := vx_callVW X hx (C := C) (hh := hh) (bytes := bytes) (maxL := maxL) (ret := ret) ho hl hin hse hcode hy hK (by rw [hT]; exact hcB) hoB hclB hg (hsize.trans hml.symm) (argsL := As) (rest := rest) (fun sig h => hn.trans (hlen sig h)) hstack hW (by rw [hb]; exact hdg)
    (fun vm₁ hW₁ => ⟨hf.1, hf.2, hPc (T.setVm vm₁) hT hW₁⟩)
  dsimp only [Pt.U, Pt.locs, Pt.cells, Pt.slots] at X' e1 e2 h1 h2 h3 st
  subst h1; subst h2; subst h3
  exact ⟨v, (T.setVm vm₁).calling g' mk (Value.ref b :: As).toArray, t, U', L, hT, X', hL, e1, e2, hq, st⟩
section
variable {y : MethodName} {bytes cc : ByteArray} {maxL nL mc ms n index : Nat} {ret : Option FieldType} {ws : List Cond} {rm : Room} {Pc : Array Value → State → Prop} {Qc : Array Value → State → Outcome → State → Prop} {XC : String → State → State → Prop} {free : Addr → Prop} {Ts : List Cond} {own C : String} {b : Addr} {As rest : List Value} {g : JFrame}
theorem vx_runVX {hh : List (Nat × Nat × Nat × Nat)} (S : CallFix p m c cc nL s args Ts own) (hM : vx_Met l y ws rm Pc Qc XC mc ms free) (cw : vx_CVW R s args own C index y bytes maxL ret hh ws rm mc ms n) (hp : PreV s H C b Pc As)
    (hg : g.method = m) (hn : As.length = n) (hsize : g.locals.size = nL) (hstack : g.stack = As.reverse ++ .ref b :: rest) (hW : 2 * g.monitorRoom + (rest.map fun v => v.category).sum ≤ 8) (hdg : decode cc g.pc = .ok (.invokevirtual index, 3)) (hf : cells + mc ≤ R.cells ∧ slots + ms ≤ R.slots) :
    vx_Run p l e R s m args below meth c H locs cells slots mc ms g rest (Qc (Value.ref b :: As).toArray) XC free := by
  obtain ⟨⟨hrc, hrs, hfr, hlo, hws, hcw⟩, hcode, hini, hy, hlen, hl, hin, hse⟩ := cw
  have hK : vx_Back l R p e below s args y 3 8 (PreOf R mc ms Pc) (PostOf Qc mc ms free) (vx_Post XC mc ms free) := vx_backW (hh := hh) (bytes := bytes) (maxL := maxL) (ret := ret) hM hp.1 hrc hrs hfr hlo hws hcw (fun a' U hW => word_at hW (Or.inl (by first | rfl | simp [Cond.onTables, Cond.keeps, Cond.steady])) hini)
  obtain ⟨hx, hb, hml, ho, -⟩ := S
  obtain ⟨-, ⟨cellB, hcB, hoB, hclB⟩, hPc⟩ := hp
  intro T hT X
  rcases vx_callVX X hx (C := C) (hh := hh) (bytes := bytes) (maxL := maxL) (ret := ret) ho hl hin hse hcode hy hK (by rw [hT]; exact hcB) hoB hclB hg (hsize.trans hml.symm) (argsL := As) (rest := rest) (fun sig h => hn.trans (hlen sig h)) hstack hW (by rw [hb]; exact hdg)
    (fun vm₁ hW₁ => ⟨hf.1, hf.2, hPc (T.setVm vm₁) hT hW₁⟩) with ⟨v, vm₁, ⟨U', l2, c2, s2⟩, hW₁, X', ⟨g', mk, t, L, e1, e2, hq, h1, hL, h2, h3⟩, st⟩ | ⟨q, vm₁, ⟨U', l2, c2, s2⟩, hW₁, X', ⟨g', mk, t, L, E, ce, e1, e2, hq, hce, hcv, hcl, h1, hL, h2, h3⟩, st⟩
  · dsimp only [Pt.U, Pt.locs, Pt.cells, Pt.slots] at X' e1 e2 h1 h2 h3 st
    subst h1; subst h2; subst h3
    exact Or.inl ⟨v, (T.setVm vm₁).calling g' mk (Value.ref b :: As).toArray, t, U', L, hT, X', hL, e1, e2, hq, st⟩
  · dsimp only [Pt.U, Pt.locs, Pt.cells, Pt.slots] at X' e1 e2 h1 h2 h3 st hcl
    subst h1; subst h2; subst h3
    exact Or.inr ⟨q, (T.setVm vm₁).calling g' mk (Value.ref b :: As).toArray, t, U', L, E, ce, hT, X', hL, e1, e2, hq, hce, hcv, vx_cls hW₁ hcl, st⟩
theorem vx_runSX {hh : List (Nat × Nat × Nat × Nat)} (S : CallFix p m c cc nL s args Ts own) (hM : vx_Met l y ws rm Pc Qc XC mc ms free) (cw : vx_CSW R s args own index y bytes maxL ret hh ws rm mc ms n) (hp : PreS s H Pc As)
    (hg : g.method = m) (hn : As.length = n) (hsize : g.locals.size = nL) (hstack : g.stack = As.reverse ++ rest) (hW : 2 * g.monitorRoom + (rest.map fun v => v.category).sum ≤ 8) (hdg : decode cc g.pc = .ok (.invokestatic index, 3)) (hf : cells + mc ≤ R.cells ∧ slots + ms ≤ R.slots) :
    vx_Run p l e R s m args below meth c H locs cells slots mc ms g rest (Qc As.toArray) XC free := by
  obtain ⟨⟨hrc, hrs, hfr, hlo, hws, hcw⟩, hcode, hini, hy, hlen, hl, hstt⟩ := cw
  have hK : vx_Back l R p e below s args y 3 8 (PreOf R mc ms Pc) (PostOf Qc mc ms free) (vx_Post XC mc ms free) := vx_backW (hh := hh) (bytes := bytes) (maxL := maxL) (ret := ret) hM hp.1 hrc hrs hfr hlo hws hcw (fun a' U hW => word_at hW (Or.inl (by first | rfl | simp [Cond.onTables, Cond.keeps, Cond.steady])) hini)
  obtain ⟨hx, hb, hml, ho, -⟩ := S
  intro T hT X
  rcases vx_callSX X hx (hh := hh) (bytes := bytes) (maxL := maxL) (ret := ret) ho hl hstt hini hcode hy hK hg (hsize.trans hml.symm) (argsL := As) (rest := rest) (fun sig h => hn.trans (hlen sig h)) hstack hW (by rw [hb]; exact hdg)
    (fun vm₁ hW₁ => ⟨hf.1, hf.2, hp.2 (T.setVm vm₁) hT hW₁⟩) with ⟨v, vm₁, ⟨U', l2, c2, s2⟩, hW₁, X', ⟨g', mk, t, L, e1, e2, hq, h1, hL, h2, h3⟩, st⟩ | ⟨q, vm₁, ⟨U', l2, c2, s2⟩, hW₁, X', ⟨g', mk, t, L, E, ce, e1, e2, hq, hce, hcv, hcl, h1, hL, h2, h3⟩, st⟩
  · dsimp only [Pt.U, Pt.locs, Pt.cells, Pt.slots] at X' e1 e2 h1 h2 h3 st
    subst h1; subst h2; subst h3
    exact Or.inl ⟨v, (T.setVm vm₁).calling g' mk As.toArray, t, U', L, hT, X', hL, e1, e2, hq, st⟩
  · dsimp only [Pt.U, Pt.locs, Pt.cells, Pt.slots] at X' e1 e2 h1 h2 h3 st hcl
    subst h1; subst h2; subst h3
    exact Or.inr ⟨q, (T.setVm vm₁).calling g' mk As.toArray, t, U', L, E, ce, hT, X', hL, e1, e2, hq, hce, hcv, vx_cls hW₁ hcl, st⟩
end
end VXH
theorem vx_ofWH {l : Launch} {y : MethodName} {ws ws' : List Cond} {rm : Room} {Pc : Array Value → State → Prop} {Qc : Array Value → State → Outcome → State → Prop} {XC : String → State → State → Prop} {mc ms : Nat} {free : Addr → Prop} {cc : ByteArray} {maxL : Nat} {ret : Option FieldType} {hh : List (Nat × Nat × Nat × Nat)}
    (hy : plainName y.cls = true) (hw : ws = Cond.codeWith y cc maxL ret hh :: ws')
    (body : ∀ p e s m args below meth c s₁, BodyLoose p l y (headSpec ws rm) cc maxL ret e s m args below meth c s₁ → c.maxLocals = maxL → Pc args s →
      W p l e (headSpec ws rm).room s m args below meth c s.heap [] 0 0 (vx_MQ below Qc XC args s mc ms free) (entryFrame m args maxL)) : vx_Met l y ws rm Pc Qc XC mc ms free := by
  refine MetFree.of_bodyS (code := cc) (maxLocals := maxL) (ret := ret) hy ?_ ?_
  · intro args s m h hn
    obtain ⟨m9, meth, c, hn9, h1, h2, h3, h4, -, h5, h6, -⟩ := Cond.codeWith_spec (atoms_spec (ws := ws) h _ (by rw [hw]; exact List.mem_cons_self))
    cases hn.symm.trans hn9
    exact ⟨meth, c, h1, h2, h3, h4, h5, h6⟩
  · intro p e s m args below meth c s₁ B hml hP _
    have hh0 : s₁.heap = s.heap := by rw [B.state]; rfl
    obtain ⟨t, a1, o, b1, b2, b3⟩ := body p e s m args below meth c s₁ B hml hP s₁ hh0 (Stand.of_body B)
    exact ⟨t, o, a1, b1, b2, b3⟩
/-! ===== END ===== -/
end
section
/-! ===== BEGIN printed: names, fields, word lists, decode rows ===== -/
def RX0 : String := "DefaultReasoner$Priorities"
def TX0 : u_T := fun k => match k with
  | 0 => ("DefaultReasoner$Priorities", "given", "[I", true)
  | _ => ("DefaultReasoner$Priorities", "reached", "[I", true)
def tyX0 : Nat → FieldType := fun k => match k with
  | 0 => .array .int
  | _ => .array .int
abbrev wsX00 : List Cond := u_ws RX0 TX0 2
theorem nmX0 : ∀ a, a < 2 → ∀ b, b < 2 → a ≠ b → (TX0 a).2.1 ≠ (TX0 b).2.1 := by decide +kernel
theorem tyX0_ok : ∀ k, k < 2 → parseFieldDescriptor (TX0 k).2.2.1 = some (tyX0 k) := by decide +kernel
abbrev cX0_init : ByteArray := prog_2_method_1_code
def yX0_init : MethodName := ⟨RX0, "<init>", "()V"⟩
abbrev cX0_comesBefore : ByteArray := prog_2_method_2_code
def yX0_comesBefore : MethodName := ⟨RX0, "comesBefore", "(II)Z"⟩
abbrev cX0_comesBeforeOneOf : ByteArray := prog_2_method_3_code
def yX0_comesBeforeOneOf : MethodName := ⟨RX0, "comesBeforeOneOf", "(II)Z"⟩
abbrev cX0_put : ByteArray := prog_2_method_4_code
def yX0_put : MethodName := ⟨RX0, "put", "(II)V"⟩
abbrev cX0_removeAllWith : ByteArray := prog_2_method_5_code
def yX0_removeAllWith : MethodName := ⟨RX0, "removeAllWith", "(I)V"⟩
abbrev cX0_clear : ByteArray := prog_2_method_6_code
def yX0_clear : MethodName := ⟨RX0, "clear", "()V"⟩
abbrev cX0_pairs : ByteArray := prog_2_method_7_code
def yX0_pairs : MethodName := ⟨RX0, "pairs", "()I"⟩
abbrev cX0_followChains : ByteArray := prog_2_method_8_code
def yX0_followChains : MethodName := ⟨RX0, "followChains", "()V"⟩
def RX1 : String := "DefaultReasoner"
def TX1 : u_T := fun k => match k with
  | 0 => ("DefaultReasoner", "factSet", "I", false)
  | 1 => ("DefaultReasoner", "ruleTotal", "I", false)
  | 2 => ("DefaultReasoner", "bodies", "[I", true)
  | 3 => ("DefaultReasoner", "heads", "[I", true)
  | 4 => ("DefaultReasoner", "defaultTotal", "I", false)
  | 5 => ("DefaultReasoner", "prerequisites", "[I", true)
  | 6 => ("DefaultReasoner", "justifications", "[I", true)
  | 7 => ("DefaultReasoner", "conclusions", "[I", true)
  | 8 => ("DefaultReasoner", "priorities", "LDefaultReasoner$Priorities;", true)
  | 9 => ("DefaultReasoner", "latestWalk", "[I", true)
  | 10 => ("DefaultReasoner", "latestTotal", "I", false)
  | 11 => ("DefaultReasoner", "lineup", "[I", true)
  | 12 => ("DefaultReasoner", "held", "[I", true)
  | 13 => ("DefaultReasoner", "usable", "[I", true)
  | 14 => ("DefaultReasoner", "extensions", "[I", true)
  | 15 => ("DefaultReasoner", "extensionTotal", "I", false)
  | 16 => ("DefaultReasoner", "extensionsKnown", "Z", false)
  | 17 => ("DefaultReasoner", "preferred", "[Z", true)
  | 18 => ("DefaultReasoner", "preferredTotal", "I", false)
  | _ => ("DefaultReasoner", "preferredKnown", "Z", false)
def tyX1 : Nat → FieldType := fun k => match k with
  | 0 => .int
  | 1 => .int
  | 2 => .array .int
  | 3 => .array .int
  | 4 => .int
  | 5 => .array .int
  | 6 => .array .int
  | 7 => .array .int
  | 8 => .object "DefaultReasoner$Priorities"
  | 9 => .array .int
  | 10 => .int
  | 11 => .array .int
  | 12 => .array .int
  | 13 => .array .int
  | 14 => .array .int
  | 15 => .int
  | 16 => .boolean
  | 17 => .array .boolean
  | 18 => .int
  | _ => .boolean
abbrev wsX10 : List Cond := u_ws RX1 TX1 20
theorem nmX1 : ∀ a, a < 20 → ∀ b, b < 20 → a ≠ b → (TX1 a).2.1 ≠ (TX1 b).2.1 := by decide +kernel
theorem tyX1_ok : ∀ k, k < 20 → parseFieldDescriptor (TX1 k).2.2.1 = some (tyX1 k) := by decide +kernel
abbrev cX1_init : ByteArray := prog_1_method_1_code
def yX1_init : MethodName := ⟨RX1, "<init>", "()V"⟩
abbrev cX1_setFact : ByteArray := prog_1_method_2_code
def yX1_setFact : MethodName := ⟨RX1, "setFact", "(IZ)Z"⟩
abbrev cX1_addRule : ByteArray := prog_1_method_3_code
def yX1_addRule : MethodName := ⟨RX1, "addRule", "(II)I"⟩
abbrev cX1_addDefault : ByteArray := prog_1_method_4_code
def yX1_addDefault : MethodName := ⟨RX1, "addDefault", "(III)I"⟩
abbrev cX1_dropRule : ByteArray := prog_1_method_5_code
def yX1_dropRule : MethodName := ⟨RX1, "dropRule", "()I"⟩
abbrev cX1_dropDefault : ByteArray := prog_1_method_6_code
def yX1_dropDefault : MethodName := ⟨RX1, "dropDefault", "()I"⟩
abbrev cX1_prefer : ByteArray := prog_1_method_7_code
def yX1_prefer : MethodName := ⟨RX1, "prefer", "(II)Z"⟩
abbrev cX1_forgetPriorities : ByteArray := prog_1_method_8_code
def yX1_forgetPriorities : MethodName := ⟨RX1, "forgetPriorities", "()I"⟩
abbrev cX1_isBefore : ByteArray := prog_1_method_9_code
def yX1_isBefore : MethodName := ⟨RX1, "isBefore", "(II)Z"⟩
abbrev cX1_facts : ByteArray := prog_1_method_10_code
def yX1_facts : MethodName := ⟨RX1, "facts", "()I"⟩
abbrev cX1_defaultCount : ByteArray := prog_1_method_11_code
def yX1_defaultCount : MethodName := ⟨RX1, "defaultCount", "()I"⟩
abbrev cX1_closure : ByteArray := prog_1_method_12_code
def yX1_closure : MethodName := ⟨RX1, "closure", "(I)I"⟩
abbrev cX1_isOpen : ByteArray := prog_1_method_13_code
def yX1_isOpen : MethodName := ⟨RX1, "isOpen", "(II)Z"⟩
abbrev cX1_generatorsOf : ByteArray := prog_1_method_14_code
def yX1_generatorsOf : MethodName := ⟨RX1, "generatorsOf", "(I)I"⟩
abbrev cX1_isExtension : ByteArray := prog_1_method_15_code
def yX1_isExtension : MethodName := ⟨RX1, "isExtension", "(I)Z"⟩
abbrev cX1_extensionCount : ByteArray := prog_1_method_16_code
def yX1_extensionCount : MethodName := ⟨RX1, "extensionCount", "()I"⟩
abbrev cX1_extension : ByteArray := prog_1_method_17_code
def yX1_extension : MethodName := ⟨RX1, "extension", "(I)I"⟩
abbrev cX1_isPreferred : ByteArray := prog_1_method_18_code
def yX1_isPreferred : MethodName := ⟨RX1, "isPreferred", "(I)Z"⟩
abbrev cX1_preferredCount : ByteArray := prog_1_method_19_code
def yX1_preferredCount : MethodName := ⟨RX1, "preferredCount", "()I"⟩
abbrev cX1_supports : ByteArray := prog_1_method_20_code
def yX1_supports : MethodName := ⟨RX1, "supports", "(I)I"⟩
abbrev cX1_common : ByteArray := prog_1_method_21_code
def yX1_common : MethodName := ⟨RX1, "common", "(Z)I"⟩
abbrev cX1_share : ByteArray := prog_1_method_22_code
def yX1_share : MethodName := ⟨RX1, "share", "(I)D"⟩
abbrev cX1_walk : ByteArray := prog_1_method_23_code
def yX1_walk : MethodName := ⟨RX1, "walk", "(I)I"⟩
abbrev cX1_appliedCount : ByteArray := prog_1_method_24_code
def yX1_appliedCount : MethodName := ⟨RX1, "appliedCount", "()I"⟩
abbrev cX1_applied : ByteArray := prog_1_method_25_code
def yX1_applied : MethodName := ⟨RX1, "applied", "(I)I"⟩
abbrev cX1_respects : ByteArray := prog_1_method_26_code
def yX1_respects : MethodName := ⟨RX1, "respects", "(I)Z"⟩
abbrev cX1_digest : ByteArray := prog_1_method_27_code
def yX1_digest : MethodName := ⟨RX1, "digest", "()J"⟩
abbrev cX1_checkLiteral : ByteArray := prog_1_method_28_code
def yX1_checkLiteral : MethodName := ⟨RX1, "checkLiteral", "(I)V"⟩
abbrev cX1_checkSet : ByteArray := prog_1_method_29_code
def yX1_checkSet : MethodName := ⟨RX1, "checkSet", "(I)V"⟩
abbrev cX1_checkDefault : ByteArray := prog_1_method_30_code
def yX1_checkDefault : MethodName := ⟨RX1, "checkDefault", "(I)V"⟩
abbrev cX1_checkExtension : ByteArray := prog_1_method_31_code
def yX1_checkExtension : MethodName := ⟨RX1, "checkExtension", "(I)V"⟩
abbrev cX1_checkOrder : ByteArray := prog_1_method_32_code
def yX1_checkOrder : MethodName := ⟨RX1, "checkOrder", "(I)V"⟩
abbrev cX1_has : ByteArray := prog_1_method_33_code
def yX1_has : MethodName := ⟨RX1, "has", "(II)Z"⟩
abbrev cX1_contains : ByteArray := prog_1_method_34_code
def yX1_contains : MethodName := ⟨RX1, "contains", "(II)Z"⟩
abbrev cX1_complements : ByteArray := prog_1_method_35_code
def yX1_complements : MethodName := ⟨RX1, "complements", "(I)I"⟩
abbrev cX1_mix : ByteArray := prog_1_method_36_code
def yX1_mix : MethodName := ⟨RX1, "mix", "(JJ)J"⟩
abbrev cX1_closeUp : ByteArray := prog_1_method_37_code
def yX1_closeUp : MethodName := ⟨RX1, "closeUp", "(I)I"⟩
abbrev cX1_opens : ByteArray := prog_1_method_38_code
def yX1_opens : MethodName := ⟨RX1, "opens", "(II)Z"⟩
abbrev cX1_forgetFindings : ByteArray := prog_1_method_39_code
def yX1_forgetFindings : MethodName := ⟨RX1, "forgetFindings", "()V"⟩
abbrev cX1_findExtensions : ByteArray := prog_1_method_40_code
def yX1_findExtensions : MethodName := ⟨RX1, "findExtensions", "()V"⟩
abbrev cX1_conclusionsOf : ByteArray := prog_1_method_41_code
def yX1_conclusionsOf : MethodName := ⟨RX1, "conclusionsOf", "(I)I"⟩
abbrev cX1_usableFor : ByteArray := prog_1_method_42_code
def yX1_usableFor : MethodName := ⟨RX1, "usableFor", "(I)I"⟩
abbrev cX1_generatorsFor : ByteArray := prog_1_method_43_code
def yX1_generatorsFor : MethodName := ⟨RX1, "generatorsFor", "(I)I"⟩
abbrev cX1_insertExtension : ByteArray := prog_1_method_44_code
def yX1_insertExtension : MethodName := ⟨RX1, "insertExtension", "(I)V"⟩
abbrev cX1_findPreferred : ByteArray := prog_1_method_45_code
def yX1_findPreferred : MethodName := ⟨RX1, "findPreferred", "()V"⟩
abbrev cX1_markPreferred : ByteArray := prog_1_method_46_code
def yX1_markPreferred : MethodName := ⟨RX1, "markPreferred", "(I)V"⟩
abbrev cX1_layOut : ByteArray := prog_1_method_47_code
def yX1_layOut : MethodName := ⟨RX1, "layOut", "(I)V"⟩
abbrev cX1_keepsPriorities : ByteArray := prog_1_method_48_code
def yX1_keepsPriorities : MethodName := ⟨RX1, "keepsPriorities", "()Z"⟩
abbrev cX1_endOfWalk : ByteArray := prog_1_method_49_code
def yX1_endOfWalk : MethodName := ⟨RX1, "endOfWalk", "()I"⟩
abbrev cX1_firstUsable : ByteArray := prog_1_method_50_code
def yX1_firstUsable : MethodName := ⟨RX1, "firstUsable", "(I)I"⟩
def RX2 : String := "DefaultReasonerModel"
def TX2 : u_T := fun k => match k with
  | 0 => ("DefaultReasonerModel", "thrown", "I", false)
  | 1 => ("DefaultReasonerModel", "facts", "I", false)
  | 2 => ("DefaultReasonerModel", "rules", "I", false)
  | 3 => ("DefaultReasonerModel", "bodies", "[I", true)
  | 4 => ("DefaultReasonerModel", "heads", "[I", true)
  | 5 => ("DefaultReasonerModel", "defaults", "I", false)
  | 6 => ("DefaultReasonerModel", "needs", "[I", true)
  | 7 => ("DefaultReasonerModel", "justifications", "[I", true)
  | 8 => ("DefaultReasonerModel", "conclusions", "[I", true)
  | 9 => ("DefaultReasonerModel", "told", "[Z", true)
  | 10 => ("DefaultReasonerModel", "applied", "I", false)
  | 11 => ("DefaultReasonerModel", "path", "[I", true)
  | 12 => ("DefaultReasonerModel", "count", "I", false)
  | 13 => ("DefaultReasonerModel", "all", "[I", true)
  | _ => ("DefaultReasonerModel", "arePreferred", "[Z", true)
def tyX2 : Nat → FieldType := fun k => match k with
  | 0 => .int
  | 1 => .int
  | 2 => .int
  | 3 => .array .int
  | 4 => .array .int
  | 5 => .int
  | 6 => .array .int
  | 7 => .array .int
  | 8 => .array .int
  | 9 => .array .boolean
  | 10 => .int
  | 11 => .array .int
  | 12 => .int
  | 13 => .array .int
  | _ => .array .boolean
abbrev wsX20 : List Cond := u_ws RX2 TX2 15
theorem nmX2 : ∀ a, a < 15 → ∀ b, b < 15 → a ≠ b → (TX2 a).2.1 ≠ (TX2 b).2.1 := by decide +kernel
theorem tyX2_ok : ∀ k, k < 15 → parseFieldDescriptor (TX2 k).2.2.1 = some (tyX2 k) := by decide +kernel
abbrev cX2_init : ByteArray := prog_4_method_1_code
def yX2_init : MethodName := ⟨RX2, "<init>", "()V"⟩
abbrev cX2_thrown : ByteArray := prog_4_method_2_code
def yX2_thrown : MethodName := ⟨RX2, "thrown", "()I"⟩
abbrev cX2_fail : ByteArray := prog_4_method_3_code
def yX2_fail : MethodName := ⟨RX2, "fail", "(I)I"⟩
abbrev cX2_isLiteral : ByteArray := prog_4_method_4_code
def yX2_isLiteral : MethodName := ⟨RX2, "isLiteral", "(I)Z"⟩
abbrev cX2_isSet : ByteArray := prog_4_method_5_code
def yX2_isSet : MethodName := ⟨RX2, "isSet", "(I)Z"⟩
abbrev cX2_isDefault : ByteArray := prog_4_method_6_code
def yX2_isDefault : MethodName := ⟨RX2, "isDefault", "(I)Z"⟩
abbrev cX2_setFact : ByteArray := prog_4_method_7_code
def yX2_setFact : MethodName := ⟨RX2, "setFact", "(IZ)Z"⟩
abbrev cX2_addRule : ByteArray := prog_4_method_8_code
def yX2_addRule : MethodName := ⟨RX2, "addRule", "(II)I"⟩
abbrev cX2_addDefault : ByteArray := prog_4_method_9_code
def yX2_addDefault : MethodName := ⟨RX2, "addDefault", "(III)I"⟩
abbrev cX2_dropRule : ByteArray := prog_4_method_10_code
def yX2_dropRule : MethodName := ⟨RX2, "dropRule", "()I"⟩
abbrev cX2_dropDefault : ByteArray := prog_4_method_11_code
def yX2_dropDefault : MethodName := ⟨RX2, "dropDefault", "()I"⟩
abbrev cX2_leads : ByteArray := prog_4_method_12_code
def yX2_leads : MethodName := ⟨RX2, "leads", "(III)Z"⟩
abbrev cX2_before : ByteArray := prog_4_method_13_code
def yX2_before : MethodName := ⟨RX2, "before", "(II)Z"⟩
abbrev cX2_prefer : ByteArray := prog_4_method_14_code
def yX2_prefer : MethodName := ⟨RX2, "prefer", "(II)Z"⟩
abbrev cX2_forgetPriorities : ByteArray := prog_4_method_15_code
def yX2_forgetPriorities : MethodName := ⟨RX2, "forgetPriorities", "()I"⟩
abbrev cX2_isBefore : ByteArray := prog_4_method_16_code
def yX2_isBefore : MethodName := ⟨RX2, "isBefore", "(II)Z"⟩
abbrev cX2_facts : ByteArray := prog_4_method_17_code
def yX2_facts : MethodName := ⟨RX2, "facts", "()I"⟩
abbrev cX2_defaultCount : ByteArray := prog_4_method_18_code
def yX2_defaultCount : MethodName := ⟨RX2, "defaultCount", "()I"⟩
abbrev cX2_complements : ByteArray := prog_4_method_19_code
def yX2_complements : MethodName := ⟨RX2, "complements", "(I)I"⟩
abbrev cX2_close : ByteArray := prog_4_method_20_code
def yX2_close : MethodName := ⟨RX2, "close", "(I)I"⟩
abbrev cX2_open : ByteArray := prog_4_method_21_code
def yX2_open : MethodName := ⟨RX2, "open", "(II)Z"⟩
abbrev cX2_consequences : ByteArray := prog_4_method_22_code
def yX2_consequences : MethodName := ⟨RX2, "consequences", "(I)I"⟩
abbrev cX2_generators : ByteArray := prog_4_method_23_code
def yX2_generators : MethodName := ⟨RX2, "generators", "(I)I"⟩
abbrev cX2_isStable : ByteArray := prog_4_method_24_code
def yX2_isStable : MethodName := ⟨RX2, "isStable", "(I)Z"⟩
abbrev cX2_closure : ByteArray := prog_4_method_25_code
def yX2_closure : MethodName := ⟨RX2, "closure", "(I)I"⟩
abbrev cX2_isOpen : ByteArray := prog_4_method_26_code
def yX2_isOpen : MethodName := ⟨RX2, "isOpen", "(II)Z"⟩
abbrev cX2_generatorsOf : ByteArray := prog_4_method_27_code
def yX2_generatorsOf : MethodName := ⟨RX2, "generatorsOf", "(I)I"⟩
abbrev cX2_isExtension : ByteArray := prog_4_method_28_code
def yX2_isExtension : MethodName := ⟨RX2, "isExtension", "(I)Z"⟩
abbrev cX2_find : ByteArray := prog_4_method_29_code
def yX2_find : MethodName := ⟨RX2, "find", "()V"⟩
abbrev cX2_findPreferred : ByteArray := prog_4_method_30_code
def yX2_findPreferred : MethodName := ⟨RX2, "findPreferred", "()V"⟩
abbrev cX2_extensionCount : ByteArray := prog_4_method_31_code
def yX2_extensionCount : MethodName := ⟨RX2, "extensionCount", "()I"⟩
abbrev cX2_asks : ByteArray := prog_4_method_32_code
def yX2_asks : MethodName := ⟨RX2, "asks", "(I)Z"⟩
abbrev cX2_extension : ByteArray := prog_4_method_33_code
def yX2_extension : MethodName := ⟨RX2, "extension", "(I)I"⟩
abbrev cX2_isPreferred : ByteArray := prog_4_method_34_code
def yX2_isPreferred : MethodName := ⟨RX2, "isPreferred", "(I)Z"⟩
abbrev cX2_preferred : ByteArray := prog_4_method_35_code
def yX2_preferred : MethodName := ⟨RX2, "preferred", "()I"⟩
abbrev cX2_preferredCount : ByteArray := prog_4_method_36_code
def yX2_preferredCount : MethodName := ⟨RX2, "preferredCount", "()I"⟩
abbrev cX2_supports : ByteArray := prog_4_method_37_code
def yX2_supports : MethodName := ⟨RX2, "supports", "(I)I"⟩
abbrev cX2_common : ByteArray := prog_4_method_38_code
def yX2_common : MethodName := ⟨RX2, "common", "(Z)I"⟩
abbrev cX2_share : ByteArray := prog_4_method_39_code
def yX2_share : MethodName := ⟨RX2, "share", "(I)D"⟩
abbrev cX2_orders : ByteArray := prog_4_method_40_code
def yX2_orders : MethodName := ⟨RX2, "orders", "()I"⟩
abbrev cX2_setOrder : ByteArray := prog_4_method_41_code
def yX2_setOrder : MethodName := ⟨RX2, "setOrder", "([II)V"⟩
abbrev cX2_respects : ByteArray := prog_4_method_42_code
def yX2_respects : MethodName := ⟨RX2, "respects", "([I)Z"⟩
abbrev cX2_walk : ByteArray := prog_4_method_43_code
def yX2_walk : MethodName := ⟨RX2, "walk", "([I[I)I"⟩
abbrev cX2_first : ByteArray := prog_4_method_44_code
def yX2_first : MethodName := ⟨RX2, "first", "([II)I"⟩
abbrev cX2_isOrder : ByteArray := prog_4_method_45_code
def yX2_isOrder : MethodName := ⟨RX2, "isOrder", "(I)Z"⟩
abbrev cX2_walk_ : ByteArray := prog_4_method_46_code
def yX2_walk_ : MethodName := ⟨RX2, "walk", "(I)I"⟩
abbrev cX2_appliedCount : ByteArray := prog_4_method_47_code
def yX2_appliedCount : MethodName := ⟨RX2, "appliedCount", "()I"⟩
abbrev cX2_applied : ByteArray := prog_4_method_48_code
def yX2_applied : MethodName := ⟨RX2, "applied", "(I)I"⟩
abbrev cX2_respects_ : ByteArray := prog_4_method_49_code
def yX2_respects_ : MethodName := ⟨RX2, "respects", "(I)Z"⟩
abbrev cX2_digest : ByteArray := prog_4_method_50_code
def yX2_digest : MethodName := ⟨RX2, "digest", "()J"⟩
def RJ6 : String := "java/lang/Integer"
def TJ6 : u_T := fun k => match k with
  | _ => ("", "", "", false)
def tyJ6 : Nat → FieldType := fun k => match k with
  | _ => .int
abbrev wsJ60 : List Cond := u_ws RJ6 TJ6 0
theorem nmJ6 : ∀ a, a < 0 → ∀ b, b < 0 → a ≠ b → (TJ6 a).2.1 ≠ (TJ6 b).2.1 := by decide +kernel
theorem tyJ6_ok : ∀ k, k < 0 → parseFieldDescriptor (TJ6 k).2.2.1 = some (tyJ6 k) := by decide +kernel
abbrev cJ6_bitCount_0f7a4 : ByteArray := prog_9_method_49_code
def yJ6_bitCount_0f7a4 : MethodName := ⟨RJ6, "bitCount", "(I)I"⟩
def RJ0 : String := "java/lang/String"
def TJ0 : u_T := fun k => match k with
  | _ => ("", "", "", false)
def tyJ0 : Nat → FieldType := fun k => match k with
  | _ => .int
abbrev wsJ00 : List Cond := u_ws RJ0 TJ0 0
theorem nmJ0 : ∀ a, a < 0 → ∀ b, b < 0 → a ≠ b → (TJ0 a).2.1 ≠ (TJ0 b).2.1 := by decide +kernel
theorem tyJ0_ok : ∀ k, k < 0 → parseFieldDescriptor (TJ0 k).2.2.1 = some (tyJ0 k) := by decide +kernel
def RL : String := "DefaultReasonerLaw"
abbrev cL_setFact : ByteArray := method_3_code
def yL_setFact : MethodName := ⟨RL, "setFact", "(LDefaultReasoner;IZ[J)I"⟩
abbrev cL_addRule : ByteArray := method_4_code
def yL_addRule : MethodName := ⟨RL, "addRule", "(LDefaultReasoner;II[J)I"⟩
abbrev cL_addDefault : ByteArray := method_5_code
def yL_addDefault : MethodName := ⟨RL, "addDefault", "(LDefaultReasoner;III[J)I"⟩
abbrev cL_dropRule : ByteArray := method_6_code
def yL_dropRule : MethodName := ⟨RL, "dropRule", "(LDefaultReasoner;[J)I"⟩
abbrev cL_dropDefault : ByteArray := method_7_code
def yL_dropDefault : MethodName := ⟨RL, "dropDefault", "(LDefaultReasoner;[J)I"⟩
abbrev cL_prefer : ByteArray := method_8_code
def yL_prefer : MethodName := ⟨RL, "prefer", "(LDefaultReasoner;II[J)I"⟩
abbrev cL_isBefore : ByteArray := method_9_code
def yL_isBefore : MethodName := ⟨RL, "isBefore", "(LDefaultReasoner;II[J)I"⟩
abbrev cL_closure : ByteArray := method_10_code
def yL_closure : MethodName := ⟨RL, "closure", "(LDefaultReasoner;I[J)I"⟩
abbrev cL_isOpen : ByteArray := method_11_code
def yL_isOpen : MethodName := ⟨RL, "isOpen", "(LDefaultReasoner;II[J)I"⟩
abbrev cL_generatorsOf : ByteArray := method_12_code
def yL_generatorsOf : MethodName := ⟨RL, "generatorsOf", "(LDefaultReasoner;I[J)I"⟩
abbrev cL_isExtension : ByteArray := method_13_code
def yL_isExtension : MethodName := ⟨RL, "isExtension", "(LDefaultReasoner;I[J)I"⟩
abbrev cL_extension : ByteArray := method_14_code
def yL_extension : MethodName := ⟨RL, "extension", "(LDefaultReasoner;I[J)I"⟩
abbrev cL_isPreferred : ByteArray := method_15_code
def yL_isPreferred : MethodName := ⟨RL, "isPreferred", "(LDefaultReasoner;I[J)I"⟩
abbrev cL_supports : ByteArray := method_16_code
def yL_supports : MethodName := ⟨RL, "supports", "(LDefaultReasoner;I[J)I"⟩
abbrev cL_share : ByteArray := method_17_code
def yL_share : MethodName := ⟨RL, "share", "(LDefaultReasoner;I[D)I"⟩
abbrev cL_walk : ByteArray := method_18_code
def yL_walk : MethodName := ⟨RL, "walk", "(LDefaultReasoner;I[J)I"⟩
abbrev cL_applied : ByteArray := method_19_code
def yL_applied : MethodName := ⟨RL, "applied", "(LDefaultReasoner;I[J)I"⟩
abbrev cL_respects : ByteArray := method_20_code
def yL_respects : MethodName := ⟨RL, "respects", "(LDefaultReasoner;I[J)I"⟩
abbrev cL_law : ByteArray := code
def yL_law : MethodName := ⟨RL, "law", "([I)Z"⟩
def wsX0_init : List Cond := .code yX0_init cX0_init 1 none :: ([.methodLink RX0 3 objectInit, .instanceMethod objectInit, .code objectInit ⟨#[0xb1]⟩ 1 none, .arrayClass .int, .fieldLink RX0 9 "DefaultReasoner$Priorities" "given" "[I", .fieldLink RX0 15 "DefaultReasoner$Priorities" "reached" "[I"] ++ wsX00)
def wsX1_has : List Cond := .code yX1_has cX1_has 2 (some .boolean) :: ([])
def wsX0_comesBefore : List Cond := .code yX0_comesBefore cX0_comesBefore 3 (some .boolean) :: ([.fieldLink RX0 15 "DefaultReasoner$Priorities" "reached" "[I", .static yX1_has, .initialized RX1, .code yX1_has cX1_has 2 (some .boolean)] ++ wsX00)
def wsX0_comesBeforeOneOf : List Cond := .code yX0_comesBeforeOneOf cX0_comesBeforeOneOf 3 (some .boolean) :: ([.fieldLink RX0 15 "DefaultReasoner$Priorities" "reached" "[I"] ++ wsX00)
def wsX0_followChains : List Cond := .code yX0_followChains cX0_followChains 3 none :: ([.fieldLink RX0 15 "DefaultReasoner$Priorities" "reached" "[I", .fieldLink RX0 9 "DefaultReasoner$Priorities" "given" "[I", .static yX1_has, .initialized RX1, .code yX1_has cX1_has 2 (some .boolean)] ++ wsX00)
def wsX0_put : List Cond := .code yX0_put cX0_put 3 none :: ([.fieldLink RX0 9 "DefaultReasoner$Priorities" "given" "[I", .methodLink RX0 22 yX0_followChains, .instanceMethod yX0_followChains, .selects RX0 yX0_followChains yX0_followChains, .initialized RX0, .code yX0_followChains cX0_followChains 3 none, .fieldLink RX0 15 "DefaultReasoner$Priorities" "reached" "[I", .static yX1_has, .initialized RX1, .code yX1_has cX1_has 2 (some .boolean)] ++ wsX00)
def wsX0_removeAllWith : List Cond := .code yX0_removeAllWith cX0_removeAllWith 3 none :: ([.fieldLink RX0 9 "DefaultReasoner$Priorities" "given" "[I", .methodLink RX0 22 yX0_followChains, .instanceMethod yX0_followChains, .selects RX0 yX0_followChains yX0_followChains, .initialized RX0, .code yX0_followChains cX0_followChains 3 none, .fieldLink RX0 15 "DefaultReasoner$Priorities" "reached" "[I", .static yX1_has, .initialized RX1, .code yX1_has cX1_has 2 (some .boolean)] ++ wsX00)
def wsX0_clear : List Cond := .code yX0_clear cX0_clear 2 none :: ([.fieldLink RX0 9 "DefaultReasoner$Priorities" "given" "[I", .fieldLink RX0 15 "DefaultReasoner$Priorities" "reached" "[I"] ++ wsX00)
def wsJ6_bitCount_0f7a4 : List Cond := .code yJ6_bitCount_0f7a4 cJ6_bitCount_0f7a4 1 (some .int) :: ([.constant RJ6 265 (1431655765), .constant RJ6 266 (858993459), .constant RJ6 267 (252645135)])
def wsX0_pairs : List Cond := .code yX0_pairs cX0_pairs 3 (some .int) :: ([.fieldLink RX0 15 "DefaultReasoner$Priorities" "reached" "[I", .methodLink RX0 25 yJ6_bitCount_0f7a4, .static yJ6_bitCount_0f7a4, .initialized RJ6, .code yJ6_bitCount_0f7a4 cJ6_bitCount_0f7a4 1 (some .int), .constant RJ6 265 (1431655765), .constant RJ6 266 (858993459), .constant RJ6 267 (252645135)] ++ wsX00)
def wsX1_init_r1 : List Cond := [Cond.methodLink RX1 1 objectInit, Cond.instanceMethod objectInit, Cond.code objectInit ⟨#[0xb1]⟩ 1 none, Cond.arrayClass .int, Cond.fieldLink RX1 9 "DefaultReasoner" "bodies" "[I", Cond.fieldLink RX1 13 "DefaultReasoner" "heads" "[I", Cond.fieldLink RX1 16 "DefaultReasoner" "prerequisites" "[I", Cond.fieldLink RX1 19 "DefaultReasoner" "justifications" "[I", Cond.fieldLink RX1 22 "DefaultReasoner" "conclusions" "[I", Cond.classLink RX1 25 RX0, Cond.instantiable RX0 2, Cond.initialized RX0, Cond.fieldLink RX1 28 "DefaultReasoner" "priorities" "LDefaultReasoner$Priorities;", Cond.fieldLink RX1 32 "DefaultReasoner" "latestWalk" "[I", Cond.fieldLink RX1 35 "DefaultReasoner" "lineup" "[I", Cond.fieldLink RX1 38 "DefaultReasoner" "held" "[I", Cond.fieldLink RX1 41 "DefaultReasoner" "usable" "[I", Cond.fieldLink RX1 44 "DefaultReasoner" "extensions" "[I", Cond.arrayClass .boolean, Cond.fieldLink RX1 47 "DefaultReasoner" "preferred" "[Z", Cond.instanceMethod yX0_init, Cond.code yX0_init cX0_init 1 none, Cond.methodLink RX0 3 objectInit, Cond.fieldLink RX0 9 "DefaultReasoner$Priorities" "given" "[I"]
def wsX1_init_r2 : List Cond := [Cond.fieldLink RX0 15 "DefaultReasoner$Priorities" "reached" "[I"]
def wsX1_init : List Cond := .code yX1_init cX1_init 1 none :: ((wsX1_init_r1 ++ wsX1_init_r2) ++ wsX10 ++ wsX00)
def wsX1_checkLiteral : List Cond := .code yX1_checkLiteral cX1_checkLiteral 1 none :: ([.classLink RX1 155 "java/lang/IndexOutOfBoundsException", .initialized "java/lang/IndexOutOfBoundsException"] ++ (vx_atS RX1 159 "java/lang/IndexOutOfBoundsException" ["java/lang/RuntimeException", "java/lang/Exception"]).filter goodWord)
def wsX1_forgetFindings : List Cond := .code yX1_forgetFindings cX1_forgetFindings 1 none :: ([.fieldLink RX1 191 "DefaultReasoner" "extensionsKnown" "Z", .fieldLink RX1 106 "DefaultReasoner" "preferredKnown" "Z"] ++ wsX10)
def wsX1_setFact : List Cond := .code yX1_setFact cX1_setFact 4 (some .boolean) :: ([.fieldLink RX1 55 "DefaultReasoner" "factSet" "I", .methodLink RX1 51 yX1_checkLiteral, .static yX1_checkLiteral, .initialized RX1, .code yX1_checkLiteral cX1_checkLiteral 1 none, .classLink RX1 155 "java/lang/IndexOutOfBoundsException", .initialized "java/lang/IndexOutOfBoundsException", .methodLink RX1 59 yX1_has, .static yX1_has, .code yX1_has cX1_has 2 (some .boolean), .methodLink RX1 63 yX1_forgetFindings, .instanceMethod yX1_forgetFindings, .selects RX1 yX1_forgetFindings yX1_forgetFindings, .code yX1_forgetFindings cX1_forgetFindings 1 none, .fieldLink RX1 191 "DefaultReasoner" "extensionsKnown" "Z", .fieldLink RX1 106 "DefaultReasoner" "preferredKnown" "Z"] ++ wsX10 ++ (vx_atS RX1 159 "java/lang/IndexOutOfBoundsException" ["java/lang/RuntimeException", "java/lang/Exception"]).filter goodWord)
def wsX1_checkSet : List Cond := .code yX1_checkSet cX1_checkSet 1 none :: ([.classLink RX1 97 "java/lang/IllegalArgumentException", .initialized "java/lang/IllegalArgumentException", .constant RX1 142 (65535)] ++ (vx_atS RX1 101 "java/lang/IllegalArgumentException" ["java/lang/RuntimeException", "java/lang/Exception"]).filter goodWord)
def wsX1_addRule : List Cond := .code yX1_addRule cX1_addRule 4 (some .int) :: ([.classLink RX1 72 "java/lang/IllegalStateException", .initialized "java/lang/IllegalStateException", .fieldLink RX1 69 "DefaultReasoner" "ruleTotal" "I", .fieldLink RX1 9 "DefaultReasoner" "bodies" "[I", .fieldLink RX1 13 "DefaultReasoner" "heads" "[I", .methodLink RX1 51 yX1_checkLiteral, .static yX1_checkLiteral, .initialized RX1, .code yX1_checkLiteral cX1_checkLiteral 1 none, .classLink RX1 155 "java/lang/IndexOutOfBoundsException", .initialized "java/lang/IndexOutOfBoundsException", .methodLink RX1 66 yX1_checkSet, .static yX1_checkSet, .code yX1_checkSet cX1_checkSet 1 none, .classLink RX1 97 "java/lang/IllegalArgumentException", .initialized "java/lang/IllegalArgumentException", .constant RX1 142 (65535), .methodLink RX1 63 yX1_forgetFindings, .instanceMethod yX1_forgetFindings, .selects RX1 yX1_forgetFindings yX1_forgetFindings, .code yX1_forgetFindings cX1_forgetFindings 1 none, .fieldLink RX1 191 "DefaultReasoner" "extensionsKnown" "Z", .fieldLink RX1 106 "DefaultReasoner" "preferredKnown" "Z"] ++ wsX10 ++ (vx_atS RX1 76 "java/lang/IllegalStateException" ["java/lang/RuntimeException", "java/lang/Exception"]).filter goodWord ++ (vx_atS RX1 159 "java/lang/IndexOutOfBoundsException" ["java/lang/RuntimeException", "java/lang/Exception"]).filter goodWord ++ (vx_atS RX1 101 "java/lang/IllegalArgumentException" ["java/lang/RuntimeException", "java/lang/Exception"]).filter goodWord)
def wsX1_addDefault : List Cond := .code yX1_addDefault cX1_addDefault 5 (some .int) :: ([.classLink RX1 72 "java/lang/IllegalStateException", .initialized "java/lang/IllegalStateException", .fieldLink RX1 79 "DefaultReasoner" "defaultTotal" "I", .fieldLink RX1 16 "DefaultReasoner" "prerequisites" "[I", .fieldLink RX1 19 "DefaultReasoner" "justifications" "[I", .fieldLink RX1 22 "DefaultReasoner" "conclusions" "[I", .methodLink RX1 51 yX1_checkLiteral, .static yX1_checkLiteral, .initialized RX1, .code yX1_checkLiteral cX1_checkLiteral 1 none, .classLink RX1 155 "java/lang/IndexOutOfBoundsException", .initialized "java/lang/IndexOutOfBoundsException", .methodLink RX1 66 yX1_checkSet, .static yX1_checkSet, .code yX1_checkSet cX1_checkSet 1 none, .classLink RX1 97 "java/lang/IllegalArgumentException", .initialized "java/lang/IllegalArgumentException", .constant RX1 142 (65535), .methodLink RX1 63 yX1_forgetFindings, .instanceMethod yX1_forgetFindings, .selects RX1 yX1_forgetFindings yX1_forgetFindings, .code yX1_forgetFindings cX1_forgetFindings 1 none, .fieldLink RX1 191 "DefaultReasoner" "extensionsKnown" "Z", .fieldLink RX1 106 "DefaultReasoner" "preferredKnown" "Z"] ++ wsX10 ++ (vx_atS RX1 76 "java/lang/IllegalStateException" ["java/lang/RuntimeException", "java/lang/Exception"]).filter goodWord ++ (vx_atS RX1 159 "java/lang/IndexOutOfBoundsException" ["java/lang/RuntimeException", "java/lang/Exception"]).filter goodWord ++ (vx_atS RX1 101 "java/lang/IllegalArgumentException" ["java/lang/RuntimeException", "java/lang/Exception"]).filter goodWord)
def wsX1_dropRule : List Cond := .code yX1_dropRule cX1_dropRule 1 (some .int) :: ([.classLink RX1 72 "java/lang/IllegalStateException", .initialized "java/lang/IllegalStateException", .fieldLink RX1 69 "DefaultReasoner" "ruleTotal" "I", .methodLink RX1 63 yX1_forgetFindings, .instanceMethod yX1_forgetFindings, .selects RX1 yX1_forgetFindings yX1_forgetFindings, .initialized RX1, .code yX1_forgetFindings cX1_forgetFindings 1 none, .fieldLink RX1 191 "DefaultReasoner" "extensionsKnown" "Z", .fieldLink RX1 106 "DefaultReasoner" "preferredKnown" "Z"] ++ wsX10 ++ (vx_atS RX1 76 "java/lang/IllegalStateException" ["java/lang/RuntimeException", "java/lang/Exception"]).filter goodWord)
def wsX1_dropDefault : List Cond := .code yX1_dropDefault cX1_dropDefault 1 (some .int) :: ([.classLink RX1 72 "java/lang/IllegalStateException", .initialized "java/lang/IllegalStateException", .fieldLink RX1 79 "DefaultReasoner" "defaultTotal" "I", .fieldLink RX1 28 "DefaultReasoner" "priorities" "LDefaultReasoner$Priorities;", .instanceMethod yX0_removeAllWith, .initialized RX0, .selects RX0 yX0_removeAllWith yX0_removeAllWith, .code yX0_removeAllWith cX0_removeAllWith 3 none, .fieldLink RX0 9 "DefaultReasoner$Priorities" "given" "[I", .methodLink RX0 22 yX0_followChains, .instanceMethod yX0_followChains, .selects RX0 yX0_followChains yX0_followChains, .code yX0_followChains cX0_followChains 3 none, .fieldLink RX0 15 "DefaultReasoner$Priorities" "reached" "[I", .static yX1_has, .initialized RX1, .code yX1_has cX1_has 2 (some .boolean), .methodLink RX1 63 yX1_forgetFindings, .instanceMethod yX1_forgetFindings, .selects RX1 yX1_forgetFindings yX1_forgetFindings, .code yX1_forgetFindings cX1_forgetFindings 1 none, .fieldLink RX1 191 "DefaultReasoner" "extensionsKnown" "Z", .fieldLink RX1 106 "DefaultReasoner" "preferredKnown" "Z"] ++ wsX10 ++ wsX00 ++ (vx_atS RX1 76 "java/lang/IllegalStateException" ["java/lang/RuntimeException", "java/lang/Exception"]).filter goodWord)
def wsX1_checkDefault : List Cond := .code yX1_checkDefault cX1_checkDefault 2 none :: ([.classLink RX1 155 "java/lang/IndexOutOfBoundsException", .initialized "java/lang/IndexOutOfBoundsException", .fieldLink RX1 79 "DefaultReasoner" "defaultTotal" "I"] ++ wsX10 ++ (vx_atS RX1 159 "java/lang/IndexOutOfBoundsException" ["java/lang/RuntimeException", "java/lang/Exception"]).filter goodWord)
def wsX1_prefer_r1 : List Cond := [Cond.classLink RX1 97 "java/lang/IllegalArgumentException", Cond.initialized "java/lang/IllegalArgumentException", Cond.fieldLink RX1 28 "DefaultReasoner" "priorities" "LDefaultReasoner$Priorities;", Cond.fieldLink RX1 106 "DefaultReasoner" "preferredKnown" "Z", Cond.methodLink RX1 91 yX1_checkDefault, Cond.instanceMethod yX1_checkDefault, Cond.selects RX1 yX1_checkDefault yX1_checkDefault, Cond.initialized RX1, Cond.code yX1_checkDefault cX1_checkDefault 2 none, Cond.classLink RX1 155 "java/lang/IndexOutOfBoundsException", Cond.initialized "java/lang/IndexOutOfBoundsException", Cond.fieldLink RX1 79 "DefaultReasoner" "defaultTotal" "I", Cond.instanceMethod yX0_comesBefore, Cond.initialized RX0, Cond.selects RX0 yX0_comesBefore yX0_comesBefore, Cond.code yX0_comesBefore cX0_comesBefore 3 (some .boolean), Cond.fieldLink RX0 15 "DefaultReasoner$Priorities" "reached" "[I", Cond.static yX1_has, Cond.code yX1_has cX1_has 2 (some .boolean), Cond.instanceMethod yX0_put, Cond.selects RX0 yX0_put yX0_put, Cond.code yX0_put cX0_put 3 none, Cond.fieldLink RX0 9 "DefaultReasoner$Priorities" "given" "[I", Cond.methodLink RX0 22 yX0_followChains]
def wsX1_prefer_r2 : List Cond := [Cond.instanceMethod yX0_followChains, Cond.selects RX0 yX0_followChains yX0_followChains, Cond.code yX0_followChains cX0_followChains 3 none]
def wsX1_prefer : List Cond := .code yX1_prefer cX1_prefer 4 (some .boolean) :: ((wsX1_prefer_r1 ++ wsX1_prefer_r2) ++ wsX10 ++ wsX00 ++ (vx_atS RX1 101 "java/lang/IllegalArgumentException" ["java/lang/RuntimeException", "java/lang/Exception"]).filter goodWord ++ (vx_atS RX1 159 "java/lang/IndexOutOfBoundsException" ["java/lang/RuntimeException", "java/lang/Exception"]).filter goodWord)
def wsX1_forgetPriorities : List Cond := .code yX1_forgetPriorities cX1_forgetPriorities 2 (some .int) :: ([.fieldLink RX1 28 "DefaultReasoner" "priorities" "LDefaultReasoner$Priorities;", .fieldLink RX1 106 "DefaultReasoner" "preferredKnown" "Z", .instanceMethod yX0_pairs, .initialized RX0, .selects RX0 yX0_pairs yX0_pairs, .code yX0_pairs cX0_pairs 3 (some .int), .fieldLink RX0 15 "DefaultReasoner$Priorities" "reached" "[I", .methodLink RX0 25 yJ6_bitCount_0f7a4, .static yJ6_bitCount_0f7a4, .initialized RJ6, .code yJ6_bitCount_0f7a4 cJ6_bitCount_0f7a4 1 (some .int), .constant RJ6 265 (1431655765), .constant RJ6 266 (858993459), .constant RJ6 267 (252645135), .instanceMethod yX0_clear, .selects RX0 yX0_clear yX0_clear, .code yX0_clear cX0_clear 2 none, .fieldLink RX0 9 "DefaultReasoner$Priorities" "given" "[I"] ++ wsX10 ++ wsX00)
def wsX1_isBefore : List Cond := .code yX1_isBefore cX1_isBefore 3 (some .boolean) :: ([.fieldLink RX1 28 "DefaultReasoner" "priorities" "LDefaultReasoner$Priorities;", .methodLink RX1 91 yX1_checkDefault, .instanceMethod yX1_checkDefault, .selects RX1 yX1_checkDefault yX1_checkDefault, .initialized RX1, .code yX1_checkDefault cX1_checkDefault 2 none, .classLink RX1 155 "java/lang/IndexOutOfBoundsException", .initialized "java/lang/IndexOutOfBoundsException", .fieldLink RX1 79 "DefaultReasoner" "defaultTotal" "I", .instanceMethod yX0_comesBefore, .initialized RX0, .selects RX0 yX0_comesBefore yX0_comesBefore, .code yX0_comesBefore cX0_comesBefore 3 (some .boolean), .fieldLink RX0 15 "DefaultReasoner$Priorities" "reached" "[I", .static yX1_has, .code yX1_has cX1_has 2 (some .boolean)] ++ wsX10 ++ wsX00 ++ (vx_atS RX1 159 "java/lang/IndexOutOfBoundsException" ["java/lang/RuntimeException", "java/lang/Exception"]).filter goodWord)
def wsX1_facts : List Cond := .code yX1_facts cX1_facts 1 (some .int) :: ([.fieldLink RX1 55 "DefaultReasoner" "factSet" "I"] ++ wsX10)
def wsX1_defaultCount : List Cond := .code yX1_defaultCount cX1_defaultCount 1 (some .int) :: ([.fieldLink RX1 79 "DefaultReasoner" "defaultTotal" "I"] ++ wsX10)
def wsX1_contains : List Cond := .code yX1_contains cX1_contains 2 (some .boolean) :: ([])
def wsX1_complements : List Cond := .code yX1_complements cX1_complements 1 (some .int) :: ([])
def wsX1_closeUp : List Cond := .code yX1_closeUp cX1_closeUp 6 (some .int) :: ([.fieldLink RX1 69 "DefaultReasoner" "ruleTotal" "I", .fieldLink RX1 9 "DefaultReasoner" "bodies" "[I", .fieldLink RX1 13 "DefaultReasoner" "heads" "[I", .constant RX1 142 (65535), .methodLink RX1 185 yX1_contains, .static yX1_contains, .initialized RX1, .code yX1_contains cX1_contains 2 (some .boolean), .methodLink RX1 188 yX1_complements, .static yX1_complements, .code yX1_complements cX1_complements 1 (some .int)] ++ wsX10)
def wsX1_closure : List Cond := .code yX1_closure cX1_closure 2 (some .int) :: ([.methodLink RX1 66 yX1_checkSet, .static yX1_checkSet, .initialized RX1, .code yX1_checkSet cX1_checkSet 1 none, .classLink RX1 97 "java/lang/IllegalArgumentException", .initialized "java/lang/IllegalArgumentException", .constant RX1 142 (65535), .methodLink RX1 117 yX1_closeUp, .instanceMethod yX1_closeUp, .selects RX1 yX1_closeUp yX1_closeUp, .code yX1_closeUp cX1_closeUp 6 (some .int), .fieldLink RX1 69 "DefaultReasoner" "ruleTotal" "I", .fieldLink RX1 9 "DefaultReasoner" "bodies" "[I", .fieldLink RX1 13 "DefaultReasoner" "heads" "[I", .methodLink RX1 185 yX1_contains, .static yX1_contains, .code yX1_contains cX1_contains 2 (some .boolean), .methodLink RX1 188 yX1_complements, .static yX1_complements, .code yX1_complements cX1_complements 1 (some .int)] ++ wsX10 ++ (vx_atS RX1 101 "java/lang/IllegalArgumentException" ["java/lang/RuntimeException", "java/lang/Exception"]).filter goodWord)
def wsX1_opens : List Cond := .code yX1_opens cX1_opens 3 (some .boolean) :: ([.fieldLink RX1 19 "DefaultReasoner" "justifications" "[I", .methodLink RX1 188 yX1_complements, .static yX1_complements, .initialized RX1, .code yX1_complements cX1_complements 1 (some .int)] ++ wsX10)
def wsX1_isOpen : List Cond := .code yX1_isOpen cX1_isOpen 3 (some .boolean) :: ([.methodLink RX1 91 yX1_checkDefault, .instanceMethod yX1_checkDefault, .selects RX1 yX1_checkDefault yX1_checkDefault, .initialized RX1, .code yX1_checkDefault cX1_checkDefault 2 none, .classLink RX1 155 "java/lang/IndexOutOfBoundsException", .initialized "java/lang/IndexOutOfBoundsException", .fieldLink RX1 79 "DefaultReasoner" "defaultTotal" "I", .methodLink RX1 66 yX1_checkSet, .static yX1_checkSet, .code yX1_checkSet cX1_checkSet 1 none, .classLink RX1 97 "java/lang/IllegalArgumentException", .initialized "java/lang/IllegalArgumentException", .constant RX1 142 (65535), .methodLink RX1 121 yX1_opens, .instanceMethod yX1_opens, .selects RX1 yX1_opens yX1_opens, .code yX1_opens cX1_opens 3 (some .boolean), .fieldLink RX1 19 "DefaultReasoner" "justifications" "[I", .methodLink RX1 188 yX1_complements, .static yX1_complements, .code yX1_complements cX1_complements 1 (some .int)] ++ wsX10 ++ (vx_atS RX1 159 "java/lang/IndexOutOfBoundsException" ["java/lang/RuntimeException", "java/lang/Exception"]).filter goodWord ++ (vx_atS RX1 101 "java/lang/IllegalArgumentException" ["java/lang/RuntimeException", "java/lang/Exception"]).filter goodWord)
def wsX1_conclusionsOf : List Cond := .code yX1_conclusionsOf cX1_conclusionsOf 4 (some .int) :: ([.fieldLink RX1 79 "DefaultReasoner" "defaultTotal" "I", .fieldLink RX1 22 "DefaultReasoner" "conclusions" "[I", .methodLink RX1 59 yX1_has, .static yX1_has, .initialized RX1, .code yX1_has cX1_has 2 (some .boolean)] ++ wsX10)
def wsX1_usableFor : List Cond := .code yX1_usableFor cX1_usableFor 4 (some .int) :: ([.fieldLink RX1 79 "DefaultReasoner" "defaultTotal" "I", .fieldLink RX1 16 "DefaultReasoner" "prerequisites" "[I", .fieldLink RX1 22 "DefaultReasoner" "conclusions" "[I", .methodLink RX1 185 yX1_contains, .static yX1_contains, .initialized RX1, .code yX1_contains cX1_contains 2 (some .boolean), .methodLink RX1 121 yX1_opens, .instanceMethod yX1_opens, .selects RX1 yX1_opens yX1_opens, .code yX1_opens cX1_opens 3 (some .boolean), .fieldLink RX1 19 "DefaultReasoner" "justifications" "[I", .methodLink RX1 188 yX1_complements, .static yX1_complements, .code yX1_complements cX1_complements 1 (some .int), .methodLink RX1 59 yX1_has, .static yX1_has, .code yX1_has cX1_has 2 (some .boolean)] ++ wsX10)
def wsX1_generatorsFor : List Cond := .code yX1_generatorsFor cX1_generatorsFor 6 (some .int) :: ([.fieldLink RX1 79 "DefaultReasoner" "defaultTotal" "I", .fieldLink RX1 38 "DefaultReasoner" "held" "[I", .fieldLink RX1 16 "DefaultReasoner" "prerequisites" "[I", .methodLink RX1 121 yX1_opens, .instanceMethod yX1_opens, .selects RX1 yX1_opens yX1_opens, .initialized RX1, .code yX1_opens cX1_opens 3 (some .boolean), .fieldLink RX1 19 "DefaultReasoner" "justifications" "[I", .methodLink RX1 188 yX1_complements, .static yX1_complements, .code yX1_complements cX1_complements 1 (some .int), .methodLink RX1 185 yX1_contains, .static yX1_contains, .code yX1_contains cX1_contains 2 (some .boolean)] ++ wsX10)
def wsX1_insertExtension : List Cond := .code yX1_insertExtension cX1_insertExtension 3 none :: ([.fieldLink RX1 130 "DefaultReasoner" "extensionTotal" "I", .fieldLink RX1 44 "DefaultReasoner" "extensions" "[I"] ++ wsX10)
def wsX1_findExtensions_r1 : List Cond := [Cond.fieldLink RX1 191 "DefaultReasoner" "extensionsKnown" "Z", Cond.fieldLink RX1 79 "DefaultReasoner" "defaultTotal" "I", Cond.fieldLink RX1 38 "DefaultReasoner" "held" "[I", Cond.fieldLink RX1 55 "DefaultReasoner" "factSet" "I", Cond.fieldLink RX1 41 "DefaultReasoner" "usable" "[I", Cond.fieldLink RX1 130 "DefaultReasoner" "extensionTotal" "I", Cond.methodLink RX1 194 yX1_conclusionsOf, Cond.instanceMethod yX1_conclusionsOf, Cond.selects RX1 yX1_conclusionsOf yX1_conclusionsOf, Cond.initialized RX1, Cond.code yX1_conclusionsOf cX1_conclusionsOf 4 (some .int), Cond.fieldLink RX1 22 "DefaultReasoner" "conclusions" "[I", Cond.methodLink RX1 59 yX1_has, Cond.static yX1_has, Cond.code yX1_has cX1_has 2 (some .boolean), Cond.methodLink RX1 117 yX1_closeUp, Cond.instanceMethod yX1_closeUp, Cond.selects RX1 yX1_closeUp yX1_closeUp, Cond.code yX1_closeUp cX1_closeUp 6 (some .int), Cond.fieldLink RX1 69 "DefaultReasoner" "ruleTotal" "I", Cond.fieldLink RX1 9 "DefaultReasoner" "bodies" "[I", Cond.fieldLink RX1 13 "DefaultReasoner" "heads" "[I", Cond.constant RX1 142 (65535), Cond.methodLink RX1 185 yX1_contains]
def wsX1_findExtensions_r2 : List Cond := [Cond.static yX1_contains, Cond.code yX1_contains cX1_contains 2 (some .boolean), Cond.methodLink RX1 188 yX1_complements, Cond.static yX1_complements, Cond.code yX1_complements cX1_complements 1 (some .int), Cond.methodLink RX1 197 yX1_usableFor, Cond.instanceMethod yX1_usableFor, Cond.selects RX1 yX1_usableFor yX1_usableFor, Cond.code yX1_usableFor cX1_usableFor 4 (some .int), Cond.fieldLink RX1 16 "DefaultReasoner" "prerequisites" "[I", Cond.methodLink RX1 121 yX1_opens, Cond.instanceMethod yX1_opens, Cond.selects RX1 yX1_opens yX1_opens, Cond.code yX1_opens cX1_opens 3 (some .boolean), Cond.fieldLink RX1 19 "DefaultReasoner" "justifications" "[I", Cond.methodLink RX1 127 yX1_generatorsFor, Cond.instanceMethod yX1_generatorsFor, Cond.selects RX1 yX1_generatorsFor yX1_generatorsFor, Cond.code yX1_generatorsFor cX1_generatorsFor 6 (some .int), Cond.methodLink RX1 200 yX1_insertExtension, Cond.instanceMethod yX1_insertExtension, Cond.selects RX1 yX1_insertExtension yX1_insertExtension, Cond.code yX1_insertExtension cX1_insertExtension 3 none, Cond.fieldLink RX1 44 "DefaultReasoner" "extensions" "[I"]
def wsX1_findExtensions : List Cond := .code yX1_findExtensions cX1_findExtensions 3 none :: ((wsX1_findExtensions_r1 ++ wsX1_findExtensions_r2) ++ wsX10)
def wsX1_generatorsOf_r1 : List Cond := [Cond.methodLink RX1 66 yX1_checkSet, Cond.static yX1_checkSet, Cond.initialized RX1, Cond.code yX1_checkSet cX1_checkSet 1 none, Cond.classLink RX1 97 "java/lang/IllegalArgumentException", Cond.initialized "java/lang/IllegalArgumentException", Cond.constant RX1 142 (65535), Cond.methodLink RX1 124 yX1_findExtensions, Cond.instanceMethod yX1_findExtensions, Cond.selects RX1 yX1_findExtensions yX1_findExtensions, Cond.code yX1_findExtensions cX1_findExtensions 3 none, Cond.fieldLink RX1 191 "DefaultReasoner" "extensionsKnown" "Z", Cond.fieldLink RX1 79 "DefaultReasoner" "defaultTotal" "I", Cond.fieldLink RX1 38 "DefaultReasoner" "held" "[I", Cond.fieldLink RX1 55 "DefaultReasoner" "factSet" "I", Cond.fieldLink RX1 41 "DefaultReasoner" "usable" "[I", Cond.fieldLink RX1 130 "DefaultReasoner" "extensionTotal" "I", Cond.methodLink RX1 194 yX1_conclusionsOf, Cond.instanceMethod yX1_conclusionsOf, Cond.selects RX1 yX1_conclusionsOf yX1_conclusionsOf, Cond.code yX1_conclusionsOf cX1_conclusionsOf 4 (some .int), Cond.fieldLink RX1 22 "DefaultReasoner" "conclusions" "[I", Cond.methodLink RX1 59 yX1_has, Cond.static yX1_has]
def wsX1_generatorsOf_r2 : List Cond := [Cond.code yX1_has cX1_has 2 (some .boolean), Cond.methodLink RX1 117 yX1_closeUp, Cond.instanceMethod yX1_closeUp, Cond.selects RX1 yX1_closeUp yX1_closeUp, Cond.code yX1_closeUp cX1_closeUp 6 (some .int), Cond.fieldLink RX1 69 "DefaultReasoner" "ruleTotal" "I", Cond.fieldLink RX1 9 "DefaultReasoner" "bodies" "[I", Cond.fieldLink RX1 13 "DefaultReasoner" "heads" "[I", Cond.methodLink RX1 185 yX1_contains, Cond.static yX1_contains, Cond.code yX1_contains cX1_contains 2 (some .boolean), Cond.methodLink RX1 188 yX1_complements, Cond.static yX1_complements, Cond.code yX1_complements cX1_complements 1 (some .int), Cond.methodLink RX1 197 yX1_usableFor, Cond.instanceMethod yX1_usableFor, Cond.selects RX1 yX1_usableFor yX1_usableFor, Cond.code yX1_usableFor cX1_usableFor 4 (some .int), Cond.fieldLink RX1 16 "DefaultReasoner" "prerequisites" "[I", Cond.methodLink RX1 121 yX1_opens, Cond.instanceMethod yX1_opens, Cond.selects RX1 yX1_opens yX1_opens, Cond.code yX1_opens cX1_opens 3 (some .boolean), Cond.fieldLink RX1 19 "DefaultReasoner" "justifications" "[I"]
def wsX1_generatorsOf_r3 : List Cond := [Cond.methodLink RX1 127 yX1_generatorsFor, Cond.instanceMethod yX1_generatorsFor, Cond.selects RX1 yX1_generatorsFor yX1_generatorsFor, Cond.code yX1_generatorsFor cX1_generatorsFor 6 (some .int), Cond.methodLink RX1 200 yX1_insertExtension, Cond.instanceMethod yX1_insertExtension, Cond.selects RX1 yX1_insertExtension yX1_insertExtension, Cond.code yX1_insertExtension cX1_insertExtension 3 none, Cond.fieldLink RX1 44 "DefaultReasoner" "extensions" "[I"]
def wsX1_generatorsOf : List Cond := .code yX1_generatorsOf cX1_generatorsOf 2 (some .int) :: ((wsX1_generatorsOf_r1 ++ (wsX1_generatorsOf_r2 ++ wsX1_generatorsOf_r3)) ++ wsX10 ++ (vx_atS RX1 101 "java/lang/IllegalArgumentException" ["java/lang/RuntimeException", "java/lang/Exception"]).filter goodWord)
def wsX1_isExtension_r1 : List Cond := [Cond.fieldLink RX1 38 "DefaultReasoner" "held" "[I", Cond.methodLink RX1 66 yX1_checkSet, Cond.static yX1_checkSet, Cond.initialized RX1, Cond.code yX1_checkSet cX1_checkSet 1 none, Cond.classLink RX1 97 "java/lang/IllegalArgumentException", Cond.initialized "java/lang/IllegalArgumentException", Cond.constant RX1 142 (65535), Cond.methodLink RX1 124 yX1_findExtensions, Cond.instanceMethod yX1_findExtensions, Cond.selects RX1 yX1_findExtensions yX1_findExtensions, Cond.code yX1_findExtensions cX1_findExtensions 3 none, Cond.fieldLink RX1 191 "DefaultReasoner" "extensionsKnown" "Z", Cond.fieldLink RX1 79 "DefaultReasoner" "defaultTotal" "I", Cond.fieldLink RX1 55 "DefaultReasoner" "factSet" "I", Cond.fieldLink RX1 41 "DefaultReasoner" "usable" "[I", Cond.fieldLink RX1 130 "DefaultReasoner" "extensionTotal" "I", Cond.methodLink RX1 194 yX1_conclusionsOf, Cond.instanceMethod yX1_conclusionsOf, Cond.selects RX1 yX1_conclusionsOf yX1_conclusionsOf, Cond.code yX1_conclusionsOf cX1_conclusionsOf 4 (some .int), Cond.fieldLink RX1 22 "DefaultReasoner" "conclusions" "[I", Cond.methodLink RX1 59 yX1_has, Cond.static yX1_has]
def wsX1_isExtension_r2 : List Cond := [Cond.code yX1_has cX1_has 2 (some .boolean), Cond.methodLink RX1 117 yX1_closeUp, Cond.instanceMethod yX1_closeUp, Cond.selects RX1 yX1_closeUp yX1_closeUp, Cond.code yX1_closeUp cX1_closeUp 6 (some .int), Cond.fieldLink RX1 69 "DefaultReasoner" "ruleTotal" "I", Cond.fieldLink RX1 9 "DefaultReasoner" "bodies" "[I", Cond.fieldLink RX1 13 "DefaultReasoner" "heads" "[I", Cond.methodLink RX1 185 yX1_contains, Cond.static yX1_contains, Cond.code yX1_contains cX1_contains 2 (some .boolean), Cond.methodLink RX1 188 yX1_complements, Cond.static yX1_complements, Cond.code yX1_complements cX1_complements 1 (some .int), Cond.methodLink RX1 197 yX1_usableFor, Cond.instanceMethod yX1_usableFor, Cond.selects RX1 yX1_usableFor yX1_usableFor, Cond.code yX1_usableFor cX1_usableFor 4 (some .int), Cond.fieldLink RX1 16 "DefaultReasoner" "prerequisites" "[I", Cond.methodLink RX1 121 yX1_opens, Cond.instanceMethod yX1_opens, Cond.selects RX1 yX1_opens yX1_opens, Cond.code yX1_opens cX1_opens 3 (some .boolean), Cond.fieldLink RX1 19 "DefaultReasoner" "justifications" "[I"]
def wsX1_isExtension_r3 : List Cond := [Cond.methodLink RX1 127 yX1_generatorsFor, Cond.instanceMethod yX1_generatorsFor, Cond.selects RX1 yX1_generatorsFor yX1_generatorsFor, Cond.code yX1_generatorsFor cX1_generatorsFor 6 (some .int), Cond.methodLink RX1 200 yX1_insertExtension, Cond.instanceMethod yX1_insertExtension, Cond.selects RX1 yX1_insertExtension yX1_insertExtension, Cond.code yX1_insertExtension cX1_insertExtension 3 none, Cond.fieldLink RX1 44 "DefaultReasoner" "extensions" "[I"]
def wsX1_isExtension : List Cond := .code yX1_isExtension cX1_isExtension 2 (some .boolean) :: ((wsX1_isExtension_r1 ++ (wsX1_isExtension_r2 ++ wsX1_isExtension_r3)) ++ wsX10 ++ (vx_atS RX1 101 "java/lang/IllegalArgumentException" ["java/lang/RuntimeException", "java/lang/Exception"]).filter goodWord)
def wsX1_extensionCount_r1 : List Cond := [Cond.fieldLink RX1 130 "DefaultReasoner" "extensionTotal" "I", Cond.methodLink RX1 124 yX1_findExtensions, Cond.instanceMethod yX1_findExtensions, Cond.selects RX1 yX1_findExtensions yX1_findExtensions, Cond.initialized RX1, Cond.code yX1_findExtensions cX1_findExtensions 3 none, Cond.fieldLink RX1 191 "DefaultReasoner" "extensionsKnown" "Z", Cond.fieldLink RX1 79 "DefaultReasoner" "defaultTotal" "I", Cond.fieldLink RX1 38 "DefaultReasoner" "held" "[I", Cond.fieldLink RX1 55 "DefaultReasoner" "factSet" "I", Cond.fieldLink RX1 41 "DefaultReasoner" "usable" "[I", Cond.methodLink RX1 194 yX1_conclusionsOf, Cond.instanceMethod yX1_conclusionsOf, Cond.selects RX1 yX1_conclusionsOf yX1_conclusionsOf, Cond.code yX1_conclusionsOf cX1_conclusionsOf 4 (some .int), Cond.fieldLink RX1 22 "DefaultReasoner" "conclusions" "[I", Cond.methodLink RX1 59 yX1_has, Cond.static yX1_has, Cond.code yX1_has cX1_has 2 (some .boolean), Cond.methodLink RX1 117 yX1_closeUp, Cond.instanceMethod yX1_closeUp, Cond.selects RX1 yX1_closeUp yX1_closeUp, Cond.code yX1_closeUp cX1_closeUp 6 (some .int), Cond.fieldLink RX1 69 "DefaultReasoner" "ruleTotal" "I"]
def wsX1_extensionCount_r2 : List Cond := [Cond.fieldLink RX1 9 "DefaultReasoner" "bodies" "[I", Cond.fieldLink RX1 13 "DefaultReasoner" "heads" "[I", Cond.constant RX1 142 (65535), Cond.methodLink RX1 185 yX1_contains, Cond.static yX1_contains, Cond.code yX1_contains cX1_contains 2 (some .boolean), Cond.methodLink RX1 188 yX1_complements, Cond.static yX1_complements, Cond.code yX1_complements cX1_complements 1 (some .int), Cond.methodLink RX1 197 yX1_usableFor, Cond.instanceMethod yX1_usableFor, Cond.selects RX1 yX1_usableFor yX1_usableFor, Cond.code yX1_usableFor cX1_usableFor 4 (some .int), Cond.fieldLink RX1 16 "DefaultReasoner" "prerequisites" "[I", Cond.methodLink RX1 121 yX1_opens, Cond.instanceMethod yX1_opens, Cond.selects RX1 yX1_opens yX1_opens, Cond.code yX1_opens cX1_opens 3 (some .boolean), Cond.fieldLink RX1 19 "DefaultReasoner" "justifications" "[I", Cond.methodLink RX1 127 yX1_generatorsFor, Cond.instanceMethod yX1_generatorsFor, Cond.selects RX1 yX1_generatorsFor yX1_generatorsFor, Cond.code yX1_generatorsFor cX1_generatorsFor 6 (some .int), Cond.methodLink RX1 200 yX1_insertExtension]
def wsX1_extensionCount_r3 : List Cond := [Cond.instanceMethod yX1_insertExtension, Cond.selects RX1 yX1_insertExtension yX1_insertExtension, Cond.code yX1_insertExtension cX1_insertExtension 3 none, Cond.fieldLink RX1 44 "DefaultReasoner" "extensions" "[I"]
def wsX1_extensionCount : List Cond := .code yX1_extensionCount cX1_extensionCount 1 (some .int) :: ((wsX1_extensionCount_r1 ++ (wsX1_extensionCount_r2 ++ wsX1_extensionCount_r3)) ++ wsX10)
def wsX1_checkExtension : List Cond := .code yX1_checkExtension cX1_checkExtension 2 none :: ([.classLink RX1 155 "java/lang/IndexOutOfBoundsException", .initialized "java/lang/IndexOutOfBoundsException", .fieldLink RX1 130 "DefaultReasoner" "extensionTotal" "I"] ++ wsX10 ++ (vx_atS RX1 159 "java/lang/IndexOutOfBoundsException" ["java/lang/RuntimeException", "java/lang/Exception"]).filter goodWord)
def wsX1_extension_r1 : List Cond := [Cond.fieldLink RX1 44 "DefaultReasoner" "extensions" "[I", Cond.methodLink RX1 124 yX1_findExtensions, Cond.instanceMethod yX1_findExtensions, Cond.selects RX1 yX1_findExtensions yX1_findExtensions, Cond.initialized RX1, Cond.code yX1_findExtensions cX1_findExtensions 3 none, Cond.fieldLink RX1 191 "DefaultReasoner" "extensionsKnown" "Z", Cond.fieldLink RX1 79 "DefaultReasoner" "defaultTotal" "I", Cond.fieldLink RX1 38 "DefaultReasoner" "held" "[I", Cond.fieldLink RX1 55 "DefaultReasoner" "factSet" "I", Cond.fieldLink RX1 41 "DefaultReasoner" "usable" "[I", Cond.fieldLink RX1 130 "DefaultReasoner" "extensionTotal" "I", Cond.methodLink RX1 194 yX1_conclusionsOf, Cond.instanceMethod yX1_conclusionsOf, Cond.selects RX1 yX1_conclusionsOf yX1_conclusionsOf, Cond.code yX1_conclusionsOf cX1_conclusionsOf 4 (some .int), Cond.fieldLink RX1 22 "DefaultReasoner" "conclusions" "[I", Cond.methodLink RX1 59 yX1_has, Cond.static yX1_has, Cond.code yX1_has cX1_has 2 (some .boolean), Cond.methodLink RX1 117 yX1_closeUp, Cond.instanceMethod yX1_closeUp, Cond.selects RX1 yX1_closeUp yX1_closeUp, Cond.code yX1_closeUp cX1_closeUp 6 (some .int)]
def wsX1_extension_r2 : List Cond := [Cond.fieldLink RX1 69 "DefaultReasoner" "ruleTotal" "I", Cond.fieldLink RX1 9 "DefaultReasoner" "bodies" "[I", Cond.fieldLink RX1 13 "DefaultReasoner" "heads" "[I", Cond.constant RX1 142 (65535), Cond.methodLink RX1 185 yX1_contains, Cond.static yX1_contains, Cond.code yX1_contains cX1_contains 2 (some .boolean), Cond.methodLink RX1 188 yX1_complements, Cond.static yX1_complements, Cond.code yX1_complements cX1_complements 1 (some .int), Cond.methodLink RX1 197 yX1_usableFor, Cond.instanceMethod yX1_usableFor, Cond.selects RX1 yX1_usableFor yX1_usableFor, Cond.code yX1_usableFor cX1_usableFor 4 (some .int), Cond.fieldLink RX1 16 "DefaultReasoner" "prerequisites" "[I", Cond.methodLink RX1 121 yX1_opens, Cond.instanceMethod yX1_opens, Cond.selects RX1 yX1_opens yX1_opens, Cond.code yX1_opens cX1_opens 3 (some .boolean), Cond.fieldLink RX1 19 "DefaultReasoner" "justifications" "[I", Cond.methodLink RX1 127 yX1_generatorsFor, Cond.instanceMethod yX1_generatorsFor, Cond.selects RX1 yX1_generatorsFor yX1_generatorsFor, Cond.code yX1_generatorsFor cX1_generatorsFor 6 (some .int)]
def wsX1_extension_r3 : List Cond := [Cond.methodLink RX1 200 yX1_insertExtension, Cond.instanceMethod yX1_insertExtension, Cond.selects RX1 yX1_insertExtension yX1_insertExtension, Cond.code yX1_insertExtension cX1_insertExtension 3 none, Cond.methodLink RX1 133 yX1_checkExtension, Cond.instanceMethod yX1_checkExtension, Cond.selects RX1 yX1_checkExtension yX1_checkExtension, Cond.code yX1_checkExtension cX1_checkExtension 2 none, Cond.classLink RX1 155 "java/lang/IndexOutOfBoundsException", Cond.initialized "java/lang/IndexOutOfBoundsException"]
def wsX1_extension : List Cond := .code yX1_extension cX1_extension 2 (some .int) :: ((wsX1_extension_r1 ++ (wsX1_extension_r2 ++ wsX1_extension_r3)) ++ wsX10 ++ (vx_atS RX1 159 "java/lang/IndexOutOfBoundsException" ["java/lang/RuntimeException", "java/lang/Exception"]).filter goodWord)
def wsX1_layOut : List Cond := .code yX1_layOut cX1_layOut 7 none :: ([.fieldLink RX1 79 "DefaultReasoner" "defaultTotal" "I", .fieldLink RX1 178 "DefaultReasoner" "ORDERS" "[I", .fieldLink RX1 35 "DefaultReasoner" "lineup" "[I", .methodLink RX1 59 yX1_has, .static yX1_has, .initialized RX1, .code yX1_has cX1_has 2 (some .boolean)] ++ wsX10)
def wsX1_keepsPriorities : List Cond := .code yX1_keepsPriorities cX1_keepsPriorities 4 (some .boolean) :: ([.fieldLink RX1 79 "DefaultReasoner" "defaultTotal" "I", .fieldLink RX1 35 "DefaultReasoner" "lineup" "[I", .fieldLink RX1 28 "DefaultReasoner" "priorities" "LDefaultReasoner$Priorities;", .instanceMethod yX0_comesBeforeOneOf, .initialized RX0, .selects RX0 yX0_comesBeforeOneOf yX0_comesBeforeOneOf, .code yX0_comesBeforeOneOf cX0_comesBeforeOneOf 3 (some .boolean), .fieldLink RX0 15 "DefaultReasoner$Priorities" "reached" "[I"] ++ wsX10 ++ wsX00)
def wsX1_firstUsable : List Cond := .code yX1_firstUsable cX1_firstUsable 3 (some .int) :: ([.fieldLink RX1 79 "DefaultReasoner" "defaultTotal" "I", .fieldLink RX1 41 "DefaultReasoner" "usable" "[I", .fieldLink RX1 35 "DefaultReasoner" "lineup" "[I", .methodLink RX1 59 yX1_has, .static yX1_has, .initialized RX1, .code yX1_has cX1_has 2 (some .boolean)] ++ wsX10)
def wsX1_endOfWalk : List Cond := .code yX1_endOfWalk cX1_endOfWalk 4 (some .int) :: ([.fieldLink RX1 79 "DefaultReasoner" "defaultTotal" "I", .fieldLink RX1 38 "DefaultReasoner" "held" "[I", .methodLink RX1 152 yX1_firstUsable, .instanceMethod yX1_firstUsable, .selects RX1 yX1_firstUsable yX1_firstUsable, .initialized RX1, .code yX1_firstUsable cX1_firstUsable 3 (some .int), .fieldLink RX1 41 "DefaultReasoner" "usable" "[I", .fieldLink RX1 35 "DefaultReasoner" "lineup" "[I", .methodLink RX1 59 yX1_has, .static yX1_has, .code yX1_has cX1_has 2 (some .boolean)] ++ wsX10)
def wsX1_markPreferred : List Cond := .code yX1_markPreferred cX1_markPreferred 3 none :: ([.fieldLink RX1 130 "DefaultReasoner" "extensionTotal" "I", .fieldLink RX1 44 "DefaultReasoner" "extensions" "[I", .fieldLink RX1 47 "DefaultReasoner" "preferred" "[Z", .fieldLink RX1 139 "DefaultReasoner" "preferredTotal" "I"] ++ wsX10)
def wsX1_findPreferred_r1 : List Cond := [Cond.fieldLink RX1 106 "DefaultReasoner" "preferredKnown" "Z", Cond.fieldLink RX1 130 "DefaultReasoner" "extensionTotal" "I", Cond.fieldLink RX1 47 "DefaultReasoner" "preferred" "[Z", Cond.fieldLink RX1 139 "DefaultReasoner" "preferredTotal" "I", Cond.fieldLink RX1 178 "DefaultReasoner" "ORDERS" "[I", Cond.fieldLink RX1 79 "DefaultReasoner" "defaultTotal" "I", Cond.methodLink RX1 124 yX1_findExtensions, Cond.instanceMethod yX1_findExtensions, Cond.selects RX1 yX1_findExtensions yX1_findExtensions, Cond.initialized RX1, Cond.code yX1_findExtensions cX1_findExtensions 3 none, Cond.fieldLink RX1 191 "DefaultReasoner" "extensionsKnown" "Z", Cond.fieldLink RX1 38 "DefaultReasoner" "held" "[I", Cond.fieldLink RX1 55 "DefaultReasoner" "factSet" "I", Cond.fieldLink RX1 41 "DefaultReasoner" "usable" "[I", Cond.methodLink RX1 194 yX1_conclusionsOf, Cond.instanceMethod yX1_conclusionsOf, Cond.selects RX1 yX1_conclusionsOf yX1_conclusionsOf, Cond.code yX1_conclusionsOf cX1_conclusionsOf 4 (some .int), Cond.fieldLink RX1 22 "DefaultReasoner" "conclusions" "[I", Cond.methodLink RX1 59 yX1_has, Cond.static yX1_has, Cond.code yX1_has cX1_has 2 (some .boolean), Cond.methodLink RX1 117 yX1_closeUp]
def wsX1_findPreferred_r2 : List Cond := [Cond.instanceMethod yX1_closeUp, Cond.selects RX1 yX1_closeUp yX1_closeUp, Cond.code yX1_closeUp cX1_closeUp 6 (some .int), Cond.fieldLink RX1 69 "DefaultReasoner" "ruleTotal" "I", Cond.fieldLink RX1 9 "DefaultReasoner" "bodies" "[I", Cond.fieldLink RX1 13 "DefaultReasoner" "heads" "[I", Cond.constant RX1 142 (65535), Cond.methodLink RX1 185 yX1_contains, Cond.static yX1_contains, Cond.code yX1_contains cX1_contains 2 (some .boolean), Cond.methodLink RX1 188 yX1_complements, Cond.static yX1_complements, Cond.code yX1_complements cX1_complements 1 (some .int), Cond.methodLink RX1 197 yX1_usableFor, Cond.instanceMethod yX1_usableFor, Cond.selects RX1 yX1_usableFor yX1_usableFor, Cond.code yX1_usableFor cX1_usableFor 4 (some .int), Cond.fieldLink RX1 16 "DefaultReasoner" "prerequisites" "[I", Cond.methodLink RX1 121 yX1_opens, Cond.instanceMethod yX1_opens, Cond.selects RX1 yX1_opens yX1_opens, Cond.code yX1_opens cX1_opens 3 (some .boolean), Cond.fieldLink RX1 19 "DefaultReasoner" "justifications" "[I", Cond.methodLink RX1 127 yX1_generatorsFor]
def wsX1_findPreferred_r3 : List Cond := [Cond.instanceMethod yX1_generatorsFor, Cond.selects RX1 yX1_generatorsFor yX1_generatorsFor, Cond.code yX1_generatorsFor cX1_generatorsFor 6 (some .int), Cond.methodLink RX1 200 yX1_insertExtension, Cond.instanceMethod yX1_insertExtension, Cond.selects RX1 yX1_insertExtension yX1_insertExtension, Cond.code yX1_insertExtension cX1_insertExtension 3 none, Cond.fieldLink RX1 44 "DefaultReasoner" "extensions" "[I", Cond.methodLink RX1 146 yX1_layOut, Cond.instanceMethod yX1_layOut, Cond.selects RX1 yX1_layOut yX1_layOut, Cond.code yX1_layOut cX1_layOut 7 none, Cond.fieldLink RX1 35 "DefaultReasoner" "lineup" "[I", Cond.methodLink RX1 160 yX1_keepsPriorities, Cond.instanceMethod yX1_keepsPriorities, Cond.selects RX1 yX1_keepsPriorities yX1_keepsPriorities, Cond.code yX1_keepsPriorities cX1_keepsPriorities 4 (some .boolean), Cond.fieldLink RX1 28 "DefaultReasoner" "priorities" "LDefaultReasoner$Priorities;", Cond.instanceMethod yX0_comesBeforeOneOf, Cond.initialized RX0, Cond.selects RX0 yX0_comesBeforeOneOf yX0_comesBeforeOneOf, Cond.code yX0_comesBeforeOneOf cX0_comesBeforeOneOf 3 (some .boolean), Cond.fieldLink RX0 15 "DefaultReasoner$Priorities" "reached" "[I", Cond.methodLink RX1 203 yX1_endOfWalk]
def wsX1_findPreferred_r4 : List Cond := [Cond.instanceMethod yX1_endOfWalk, Cond.selects RX1 yX1_endOfWalk yX1_endOfWalk, Cond.code yX1_endOfWalk cX1_endOfWalk 4 (some .int), Cond.methodLink RX1 152 yX1_firstUsable, Cond.instanceMethod yX1_firstUsable, Cond.selects RX1 yX1_firstUsable yX1_firstUsable, Cond.code yX1_firstUsable cX1_firstUsable 3 (some .int), Cond.methodLink RX1 206 yX1_markPreferred, Cond.instanceMethod yX1_markPreferred, Cond.selects RX1 yX1_markPreferred yX1_markPreferred, Cond.code yX1_markPreferred cX1_markPreferred 3 none]
def wsX1_findPreferred : List Cond := .code yX1_findPreferred cX1_findPreferred 3 none :: ((wsX1_findPreferred_r1 ++ (wsX1_findPreferred_r2 ++ (wsX1_findPreferred_r3 ++ wsX1_findPreferred_r4))) ++ wsX10 ++ wsX00)
def wsX1_isPreferred_r1 : List Cond := [Cond.fieldLink RX1 47 "DefaultReasoner" "preferred" "[Z", Cond.methodLink RX1 136 yX1_findPreferred, Cond.instanceMethod yX1_findPreferred, Cond.selects RX1 yX1_findPreferred yX1_findPreferred, Cond.initialized RX1, Cond.code yX1_findPreferred cX1_findPreferred 3 none, Cond.fieldLink RX1 106 "DefaultReasoner" "preferredKnown" "Z", Cond.fieldLink RX1 130 "DefaultReasoner" "extensionTotal" "I", Cond.fieldLink RX1 139 "DefaultReasoner" "preferredTotal" "I", Cond.fieldLink RX1 178 "DefaultReasoner" "ORDERS" "[I", Cond.fieldLink RX1 79 "DefaultReasoner" "defaultTotal" "I", Cond.methodLink RX1 124 yX1_findExtensions, Cond.instanceMethod yX1_findExtensions, Cond.selects RX1 yX1_findExtensions yX1_findExtensions, Cond.code yX1_findExtensions cX1_findExtensions 3 none, Cond.fieldLink RX1 191 "DefaultReasoner" "extensionsKnown" "Z", Cond.fieldLink RX1 38 "DefaultReasoner" "held" "[I", Cond.fieldLink RX1 55 "DefaultReasoner" "factSet" "I", Cond.fieldLink RX1 41 "DefaultReasoner" "usable" "[I", Cond.methodLink RX1 194 yX1_conclusionsOf, Cond.instanceMethod yX1_conclusionsOf, Cond.selects RX1 yX1_conclusionsOf yX1_conclusionsOf, Cond.code yX1_conclusionsOf cX1_conclusionsOf 4 (some .int), Cond.fieldLink RX1 22 "DefaultReasoner" "conclusions" "[I"]
def wsX1_isPreferred_r2 : List Cond := [Cond.methodLink RX1 59 yX1_has, Cond.static yX1_has, Cond.code yX1_has cX1_has 2 (some .boolean), Cond.methodLink RX1 117 yX1_closeUp, Cond.instanceMethod yX1_closeUp, Cond.selects RX1 yX1_closeUp yX1_closeUp, Cond.code yX1_closeUp cX1_closeUp 6 (some .int), Cond.fieldLink RX1 69 "DefaultReasoner" "ruleTotal" "I", Cond.fieldLink RX1 9 "DefaultReasoner" "bodies" "[I", Cond.fieldLink RX1 13 "DefaultReasoner" "heads" "[I", Cond.constant RX1 142 (65535), Cond.methodLink RX1 185 yX1_contains, Cond.static yX1_contains, Cond.code yX1_contains cX1_contains 2 (some .boolean), Cond.methodLink RX1 188 yX1_complements, Cond.static yX1_complements, Cond.code yX1_complements cX1_complements 1 (some .int), Cond.methodLink RX1 197 yX1_usableFor, Cond.instanceMethod yX1_usableFor, Cond.selects RX1 yX1_usableFor yX1_usableFor, Cond.code yX1_usableFor cX1_usableFor 4 (some .int), Cond.fieldLink RX1 16 "DefaultReasoner" "prerequisites" "[I", Cond.methodLink RX1 121 yX1_opens, Cond.instanceMethod yX1_opens]
def wsX1_isPreferred_r3 : List Cond := [Cond.selects RX1 yX1_opens yX1_opens, Cond.code yX1_opens cX1_opens 3 (some .boolean), Cond.fieldLink RX1 19 "DefaultReasoner" "justifications" "[I", Cond.methodLink RX1 127 yX1_generatorsFor, Cond.instanceMethod yX1_generatorsFor, Cond.selects RX1 yX1_generatorsFor yX1_generatorsFor, Cond.code yX1_generatorsFor cX1_generatorsFor 6 (some .int), Cond.methodLink RX1 200 yX1_insertExtension, Cond.instanceMethod yX1_insertExtension, Cond.selects RX1 yX1_insertExtension yX1_insertExtension, Cond.code yX1_insertExtension cX1_insertExtension 3 none, Cond.fieldLink RX1 44 "DefaultReasoner" "extensions" "[I", Cond.methodLink RX1 146 yX1_layOut, Cond.instanceMethod yX1_layOut, Cond.selects RX1 yX1_layOut yX1_layOut, Cond.code yX1_layOut cX1_layOut 7 none, Cond.fieldLink RX1 35 "DefaultReasoner" "lineup" "[I", Cond.methodLink RX1 160 yX1_keepsPriorities, Cond.instanceMethod yX1_keepsPriorities, Cond.selects RX1 yX1_keepsPriorities yX1_keepsPriorities, Cond.code yX1_keepsPriorities cX1_keepsPriorities 4 (some .boolean), Cond.fieldLink RX1 28 "DefaultReasoner" "priorities" "LDefaultReasoner$Priorities;", Cond.instanceMethod yX0_comesBeforeOneOf, Cond.initialized RX0]
def wsX1_isPreferred_r4 : List Cond := [Cond.selects RX0 yX0_comesBeforeOneOf yX0_comesBeforeOneOf, Cond.code yX0_comesBeforeOneOf cX0_comesBeforeOneOf 3 (some .boolean), Cond.fieldLink RX0 15 "DefaultReasoner$Priorities" "reached" "[I", Cond.methodLink RX1 203 yX1_endOfWalk, Cond.instanceMethod yX1_endOfWalk, Cond.selects RX1 yX1_endOfWalk yX1_endOfWalk, Cond.code yX1_endOfWalk cX1_endOfWalk 4 (some .int), Cond.methodLink RX1 152 yX1_firstUsable, Cond.instanceMethod yX1_firstUsable, Cond.selects RX1 yX1_firstUsable yX1_firstUsable, Cond.code yX1_firstUsable cX1_firstUsable 3 (some .int), Cond.methodLink RX1 206 yX1_markPreferred, Cond.instanceMethod yX1_markPreferred, Cond.selects RX1 yX1_markPreferred yX1_markPreferred, Cond.code yX1_markPreferred cX1_markPreferred 3 none, Cond.methodLink RX1 133 yX1_checkExtension, Cond.instanceMethod yX1_checkExtension, Cond.selects RX1 yX1_checkExtension yX1_checkExtension, Cond.code yX1_checkExtension cX1_checkExtension 2 none, Cond.classLink RX1 155 "java/lang/IndexOutOfBoundsException", Cond.initialized "java/lang/IndexOutOfBoundsException"]
def wsX1_isPreferred : List Cond := .code yX1_isPreferred cX1_isPreferred 2 (some .boolean) :: ((wsX1_isPreferred_r1 ++ (wsX1_isPreferred_r2 ++ (wsX1_isPreferred_r3 ++ wsX1_isPreferred_r4))) ++ wsX10 ++ wsX00 ++ (vx_atS RX1 159 "java/lang/IndexOutOfBoundsException" ["java/lang/RuntimeException", "java/lang/Exception"]).filter goodWord)
def wsX1_preferredCount_r1 : List Cond := [Cond.fieldLink RX1 139 "DefaultReasoner" "preferredTotal" "I", Cond.methodLink RX1 136 yX1_findPreferred, Cond.instanceMethod yX1_findPreferred, Cond.selects RX1 yX1_findPreferred yX1_findPreferred, Cond.initialized RX1, Cond.code yX1_findPreferred cX1_findPreferred 3 none, Cond.fieldLink RX1 106 "DefaultReasoner" "preferredKnown" "Z", Cond.fieldLink RX1 130 "DefaultReasoner" "extensionTotal" "I", Cond.fieldLink RX1 47 "DefaultReasoner" "preferred" "[Z", Cond.fieldLink RX1 178 "DefaultReasoner" "ORDERS" "[I", Cond.fieldLink RX1 79 "DefaultReasoner" "defaultTotal" "I", Cond.methodLink RX1 124 yX1_findExtensions, Cond.instanceMethod yX1_findExtensions, Cond.selects RX1 yX1_findExtensions yX1_findExtensions, Cond.code yX1_findExtensions cX1_findExtensions 3 none, Cond.fieldLink RX1 191 "DefaultReasoner" "extensionsKnown" "Z", Cond.fieldLink RX1 38 "DefaultReasoner" "held" "[I", Cond.fieldLink RX1 55 "DefaultReasoner" "factSet" "I", Cond.fieldLink RX1 41 "DefaultReasoner" "usable" "[I", Cond.methodLink RX1 194 yX1_conclusionsOf, Cond.instanceMethod yX1_conclusionsOf, Cond.selects RX1 yX1_conclusionsOf yX1_conclusionsOf, Cond.code yX1_conclusionsOf cX1_conclusionsOf 4 (some .int), Cond.fieldLink RX1 22 "DefaultReasoner" "conclusions" "[I"]
def wsX1_preferredCount_r2 : List Cond := [Cond.methodLink RX1 59 yX1_has, Cond.static yX1_has, Cond.code yX1_has cX1_has 2 (some .boolean), Cond.methodLink RX1 117 yX1_closeUp, Cond.instanceMethod yX1_closeUp, Cond.selects RX1 yX1_closeUp yX1_closeUp, Cond.code yX1_closeUp cX1_closeUp 6 (some .int), Cond.fieldLink RX1 69 "DefaultReasoner" "ruleTotal" "I", Cond.fieldLink RX1 9 "DefaultReasoner" "bodies" "[I", Cond.fieldLink RX1 13 "DefaultReasoner" "heads" "[I", Cond.constant RX1 142 (65535), Cond.methodLink RX1 185 yX1_contains, Cond.static yX1_contains, Cond.code yX1_contains cX1_contains 2 (some .boolean), Cond.methodLink RX1 188 yX1_complements, Cond.static yX1_complements, Cond.code yX1_complements cX1_complements 1 (some .int), Cond.methodLink RX1 197 yX1_usableFor, Cond.instanceMethod yX1_usableFor, Cond.selects RX1 yX1_usableFor yX1_usableFor, Cond.code yX1_usableFor cX1_usableFor 4 (some .int), Cond.fieldLink RX1 16 "DefaultReasoner" "prerequisites" "[I", Cond.methodLink RX1 121 yX1_opens, Cond.instanceMethod yX1_opens]
def wsX1_preferredCount_r3 : List Cond := [Cond.selects RX1 yX1_opens yX1_opens, Cond.code yX1_opens cX1_opens 3 (some .boolean), Cond.fieldLink RX1 19 "DefaultReasoner" "justifications" "[I", Cond.methodLink RX1 127 yX1_generatorsFor, Cond.instanceMethod yX1_generatorsFor, Cond.selects RX1 yX1_generatorsFor yX1_generatorsFor, Cond.code yX1_generatorsFor cX1_generatorsFor 6 (some .int), Cond.methodLink RX1 200 yX1_insertExtension, Cond.instanceMethod yX1_insertExtension, Cond.selects RX1 yX1_insertExtension yX1_insertExtension, Cond.code yX1_insertExtension cX1_insertExtension 3 none, Cond.fieldLink RX1 44 "DefaultReasoner" "extensions" "[I", Cond.methodLink RX1 146 yX1_layOut, Cond.instanceMethod yX1_layOut, Cond.selects RX1 yX1_layOut yX1_layOut, Cond.code yX1_layOut cX1_layOut 7 none, Cond.fieldLink RX1 35 "DefaultReasoner" "lineup" "[I", Cond.methodLink RX1 160 yX1_keepsPriorities, Cond.instanceMethod yX1_keepsPriorities, Cond.selects RX1 yX1_keepsPriorities yX1_keepsPriorities, Cond.code yX1_keepsPriorities cX1_keepsPriorities 4 (some .boolean), Cond.fieldLink RX1 28 "DefaultReasoner" "priorities" "LDefaultReasoner$Priorities;", Cond.instanceMethod yX0_comesBeforeOneOf, Cond.initialized RX0]
def wsX1_preferredCount_r4 : List Cond := [Cond.selects RX0 yX0_comesBeforeOneOf yX0_comesBeforeOneOf, Cond.code yX0_comesBeforeOneOf cX0_comesBeforeOneOf 3 (some .boolean), Cond.fieldLink RX0 15 "DefaultReasoner$Priorities" "reached" "[I", Cond.methodLink RX1 203 yX1_endOfWalk, Cond.instanceMethod yX1_endOfWalk, Cond.selects RX1 yX1_endOfWalk yX1_endOfWalk, Cond.code yX1_endOfWalk cX1_endOfWalk 4 (some .int), Cond.methodLink RX1 152 yX1_firstUsable, Cond.instanceMethod yX1_firstUsable, Cond.selects RX1 yX1_firstUsable yX1_firstUsable, Cond.code yX1_firstUsable cX1_firstUsable 3 (some .int), Cond.methodLink RX1 206 yX1_markPreferred, Cond.instanceMethod yX1_markPreferred, Cond.selects RX1 yX1_markPreferred yX1_markPreferred, Cond.code yX1_markPreferred cX1_markPreferred 3 none]
def wsX1_preferredCount : List Cond := .code yX1_preferredCount cX1_preferredCount 1 (some .int) :: ((wsX1_preferredCount_r1 ++ (wsX1_preferredCount_r2 ++ (wsX1_preferredCount_r3 ++ wsX1_preferredCount_r4))) ++ wsX10 ++ wsX00)
def wsX1_supports_r1 : List Cond := [Cond.fieldLink RX1 130 "DefaultReasoner" "extensionTotal" "I", Cond.fieldLink RX1 44 "DefaultReasoner" "extensions" "[I", Cond.methodLink RX1 51 yX1_checkLiteral, Cond.static yX1_checkLiteral, Cond.initialized RX1, Cond.code yX1_checkLiteral cX1_checkLiteral 1 none, Cond.classLink RX1 155 "java/lang/IndexOutOfBoundsException", Cond.initialized "java/lang/IndexOutOfBoundsException", Cond.methodLink RX1 124 yX1_findExtensions, Cond.instanceMethod yX1_findExtensions, Cond.selects RX1 yX1_findExtensions yX1_findExtensions, Cond.code yX1_findExtensions cX1_findExtensions 3 none, Cond.fieldLink RX1 191 "DefaultReasoner" "extensionsKnown" "Z", Cond.fieldLink RX1 79 "DefaultReasoner" "defaultTotal" "I", Cond.fieldLink RX1 38 "DefaultReasoner" "held" "[I", Cond.fieldLink RX1 55 "DefaultReasoner" "factSet" "I", Cond.fieldLink RX1 41 "DefaultReasoner" "usable" "[I", Cond.methodLink RX1 194 yX1_conclusionsOf, Cond.instanceMethod yX1_conclusionsOf, Cond.selects RX1 yX1_conclusionsOf yX1_conclusionsOf, Cond.code yX1_conclusionsOf cX1_conclusionsOf 4 (some .int), Cond.fieldLink RX1 22 "DefaultReasoner" "conclusions" "[I", Cond.methodLink RX1 59 yX1_has, Cond.static yX1_has]
def wsX1_supports_r2 : List Cond := [Cond.code yX1_has cX1_has 2 (some .boolean), Cond.methodLink RX1 117 yX1_closeUp, Cond.instanceMethod yX1_closeUp, Cond.selects RX1 yX1_closeUp yX1_closeUp, Cond.code yX1_closeUp cX1_closeUp 6 (some .int), Cond.fieldLink RX1 69 "DefaultReasoner" "ruleTotal" "I", Cond.fieldLink RX1 9 "DefaultReasoner" "bodies" "[I", Cond.fieldLink RX1 13 "DefaultReasoner" "heads" "[I", Cond.constant RX1 142 (65535), Cond.methodLink RX1 185 yX1_contains, Cond.static yX1_contains, Cond.code yX1_contains cX1_contains 2 (some .boolean), Cond.methodLink RX1 188 yX1_complements, Cond.static yX1_complements, Cond.code yX1_complements cX1_complements 1 (some .int), Cond.methodLink RX1 197 yX1_usableFor, Cond.instanceMethod yX1_usableFor, Cond.selects RX1 yX1_usableFor yX1_usableFor, Cond.code yX1_usableFor cX1_usableFor 4 (some .int), Cond.fieldLink RX1 16 "DefaultReasoner" "prerequisites" "[I", Cond.methodLink RX1 121 yX1_opens, Cond.instanceMethod yX1_opens, Cond.selects RX1 yX1_opens yX1_opens, Cond.code yX1_opens cX1_opens 3 (some .boolean)]
def wsX1_supports_r3 : List Cond := [Cond.fieldLink RX1 19 "DefaultReasoner" "justifications" "[I", Cond.methodLink RX1 127 yX1_generatorsFor, Cond.instanceMethod yX1_generatorsFor, Cond.selects RX1 yX1_generatorsFor yX1_generatorsFor, Cond.code yX1_generatorsFor cX1_generatorsFor 6 (some .int), Cond.methodLink RX1 200 yX1_insertExtension, Cond.instanceMethod yX1_insertExtension, Cond.selects RX1 yX1_insertExtension yX1_insertExtension, Cond.code yX1_insertExtension cX1_insertExtension 3 none]
def wsX1_supports : List Cond := .code yX1_supports cX1_supports 4 (some .int) :: ((wsX1_supports_r1 ++ (wsX1_supports_r2 ++ wsX1_supports_r3)) ++ wsX10 ++ (vx_atS RX1 159 "java/lang/IndexOutOfBoundsException" ["java/lang/RuntimeException", "java/lang/Exception"]).filter goodWord)
def wsX1_common_r1 : List Cond := [Cond.constant RX1 142 (65535), Cond.fieldLink RX1 130 "DefaultReasoner" "extensionTotal" "I", Cond.fieldLink RX1 47 "DefaultReasoner" "preferred" "[Z", Cond.fieldLink RX1 44 "DefaultReasoner" "extensions" "[I", Cond.methodLink RX1 136 yX1_findPreferred, Cond.instanceMethod yX1_findPreferred, Cond.selects RX1 yX1_findPreferred yX1_findPreferred, Cond.initialized RX1, Cond.code yX1_findPreferred cX1_findPreferred 3 none, Cond.fieldLink RX1 106 "DefaultReasoner" "preferredKnown" "Z", Cond.fieldLink RX1 139 "DefaultReasoner" "preferredTotal" "I", Cond.fieldLink RX1 178 "DefaultReasoner" "ORDERS" "[I", Cond.fieldLink RX1 79 "DefaultReasoner" "defaultTotal" "I", Cond.methodLink RX1 124 yX1_findExtensions, Cond.instanceMethod yX1_findExtensions, Cond.selects RX1 yX1_findExtensions yX1_findExtensions, Cond.code yX1_findExtensions cX1_findExtensions 3 none, Cond.fieldLink RX1 191 "DefaultReasoner" "extensionsKnown" "Z", Cond.fieldLink RX1 38 "DefaultReasoner" "held" "[I", Cond.fieldLink RX1 55 "DefaultReasoner" "factSet" "I", Cond.fieldLink RX1 41 "DefaultReasoner" "usable" "[I", Cond.methodLink RX1 194 yX1_conclusionsOf, Cond.instanceMethod yX1_conclusionsOf, Cond.selects RX1 yX1_conclusionsOf yX1_conclusionsOf]
def wsX1_common_r2 : List Cond := [Cond.code yX1_conclusionsOf cX1_conclusionsOf 4 (some .int), Cond.fieldLink RX1 22 "DefaultReasoner" "conclusions" "[I", Cond.methodLink RX1 59 yX1_has, Cond.static yX1_has, Cond.code yX1_has cX1_has 2 (some .boolean), Cond.methodLink RX1 117 yX1_closeUp, Cond.instanceMethod yX1_closeUp, Cond.selects RX1 yX1_closeUp yX1_closeUp, Cond.code yX1_closeUp cX1_closeUp 6 (some .int), Cond.fieldLink RX1 69 "DefaultReasoner" "ruleTotal" "I", Cond.fieldLink RX1 9 "DefaultReasoner" "bodies" "[I", Cond.fieldLink RX1 13 "DefaultReasoner" "heads" "[I", Cond.methodLink RX1 185 yX1_contains, Cond.static yX1_contains, Cond.code yX1_contains cX1_contains 2 (some .boolean), Cond.methodLink RX1 188 yX1_complements, Cond.static yX1_complements, Cond.code yX1_complements cX1_complements 1 (some .int), Cond.methodLink RX1 197 yX1_usableFor, Cond.instanceMethod yX1_usableFor, Cond.selects RX1 yX1_usableFor yX1_usableFor, Cond.code yX1_usableFor cX1_usableFor 4 (some .int), Cond.fieldLink RX1 16 "DefaultReasoner" "prerequisites" "[I", Cond.methodLink RX1 121 yX1_opens]
def wsX1_common_r3 : List Cond := [Cond.instanceMethod yX1_opens, Cond.selects RX1 yX1_opens yX1_opens, Cond.code yX1_opens cX1_opens 3 (some .boolean), Cond.fieldLink RX1 19 "DefaultReasoner" "justifications" "[I", Cond.methodLink RX1 127 yX1_generatorsFor, Cond.instanceMethod yX1_generatorsFor, Cond.selects RX1 yX1_generatorsFor yX1_generatorsFor, Cond.code yX1_generatorsFor cX1_generatorsFor 6 (some .int), Cond.methodLink RX1 200 yX1_insertExtension, Cond.instanceMethod yX1_insertExtension, Cond.selects RX1 yX1_insertExtension yX1_insertExtension, Cond.code yX1_insertExtension cX1_insertExtension 3 none, Cond.methodLink RX1 146 yX1_layOut, Cond.instanceMethod yX1_layOut, Cond.selects RX1 yX1_layOut yX1_layOut, Cond.code yX1_layOut cX1_layOut 7 none, Cond.fieldLink RX1 35 "DefaultReasoner" "lineup" "[I", Cond.methodLink RX1 160 yX1_keepsPriorities, Cond.instanceMethod yX1_keepsPriorities, Cond.selects RX1 yX1_keepsPriorities yX1_keepsPriorities, Cond.code yX1_keepsPriorities cX1_keepsPriorities 4 (some .boolean), Cond.fieldLink RX1 28 "DefaultReasoner" "priorities" "LDefaultReasoner$Priorities;", Cond.instanceMethod yX0_comesBeforeOneOf, Cond.initialized RX0]
def wsX1_common_r4 : List Cond := [Cond.selects RX0 yX0_comesBeforeOneOf yX0_comesBeforeOneOf, Cond.code yX0_comesBeforeOneOf cX0_comesBeforeOneOf 3 (some .boolean), Cond.fieldLink RX0 15 "DefaultReasoner$Priorities" "reached" "[I", Cond.methodLink RX1 203 yX1_endOfWalk, Cond.instanceMethod yX1_endOfWalk, Cond.selects RX1 yX1_endOfWalk yX1_endOfWalk, Cond.code yX1_endOfWalk cX1_endOfWalk 4 (some .int), Cond.methodLink RX1 152 yX1_firstUsable, Cond.instanceMethod yX1_firstUsable, Cond.selects RX1 yX1_firstUsable yX1_firstUsable, Cond.code yX1_firstUsable cX1_firstUsable 3 (some .int), Cond.methodLink RX1 206 yX1_markPreferred, Cond.instanceMethod yX1_markPreferred, Cond.selects RX1 yX1_markPreferred yX1_markPreferred, Cond.code yX1_markPreferred cX1_markPreferred 3 none]
def wsX1_common : List Cond := .code yX1_common cX1_common 4 (some .int) :: ((wsX1_common_r1 ++ (wsX1_common_r2 ++ (wsX1_common_r3 ++ wsX1_common_r4))) ++ wsX10 ++ wsX00)
def wsX1_share_r1 : List Cond := [Cond.fieldLink RX1 139 "DefaultReasoner" "preferredTotal" "I", Cond.fieldLink RX1 130 "DefaultReasoner" "extensionTotal" "I", Cond.fieldLink RX1 47 "DefaultReasoner" "preferred" "[Z", Cond.fieldLink RX1 44 "DefaultReasoner" "extensions" "[I", Cond.methodLink RX1 51 yX1_checkLiteral, Cond.static yX1_checkLiteral, Cond.initialized RX1, Cond.code yX1_checkLiteral cX1_checkLiteral 1 none, Cond.classLink RX1 155 "java/lang/IndexOutOfBoundsException", Cond.initialized "java/lang/IndexOutOfBoundsException", Cond.methodLink RX1 136 yX1_findPreferred, Cond.instanceMethod yX1_findPreferred, Cond.selects RX1 yX1_findPreferred yX1_findPreferred, Cond.code yX1_findPreferred cX1_findPreferred 3 none, Cond.fieldLink RX1 106 "DefaultReasoner" "preferredKnown" "Z", Cond.fieldLink RX1 178 "DefaultReasoner" "ORDERS" "[I", Cond.fieldLink RX1 79 "DefaultReasoner" "defaultTotal" "I", Cond.methodLink RX1 124 yX1_findExtensions, Cond.instanceMethod yX1_findExtensions, Cond.selects RX1 yX1_findExtensions yX1_findExtensions, Cond.code yX1_findExtensions cX1_findExtensions 3 none, Cond.fieldLink RX1 191 "DefaultReasoner" "extensionsKnown" "Z", Cond.fieldLink RX1 38 "DefaultReasoner" "held" "[I", Cond.fieldLink RX1 55 "DefaultReasoner" "factSet" "I"]
def wsX1_share_r2 : List Cond := [Cond.fieldLink RX1 41 "DefaultReasoner" "usable" "[I", Cond.methodLink RX1 194 yX1_conclusionsOf, Cond.instanceMethod yX1_conclusionsOf, Cond.selects RX1 yX1_conclusionsOf yX1_conclusionsOf, Cond.code yX1_conclusionsOf cX1_conclusionsOf 4 (some .int), Cond.fieldLink RX1 22 "DefaultReasoner" "conclusions" "[I", Cond.methodLink RX1 59 yX1_has, Cond.static yX1_has, Cond.code yX1_has cX1_has 2 (some .boolean), Cond.methodLink RX1 117 yX1_closeUp, Cond.instanceMethod yX1_closeUp, Cond.selects RX1 yX1_closeUp yX1_closeUp, Cond.code yX1_closeUp cX1_closeUp 6 (some .int), Cond.fieldLink RX1 69 "DefaultReasoner" "ruleTotal" "I", Cond.fieldLink RX1 9 "DefaultReasoner" "bodies" "[I", Cond.fieldLink RX1 13 "DefaultReasoner" "heads" "[I", Cond.constant RX1 142 (65535), Cond.methodLink RX1 185 yX1_contains, Cond.static yX1_contains, Cond.code yX1_contains cX1_contains 2 (some .boolean), Cond.methodLink RX1 188 yX1_complements, Cond.static yX1_complements, Cond.code yX1_complements cX1_complements 1 (some .int), Cond.methodLink RX1 197 yX1_usableFor]
def wsX1_share_r3 : List Cond := [Cond.instanceMethod yX1_usableFor, Cond.selects RX1 yX1_usableFor yX1_usableFor, Cond.code yX1_usableFor cX1_usableFor 4 (some .int), Cond.fieldLink RX1 16 "DefaultReasoner" "prerequisites" "[I", Cond.methodLink RX1 121 yX1_opens, Cond.instanceMethod yX1_opens, Cond.selects RX1 yX1_opens yX1_opens, Cond.code yX1_opens cX1_opens 3 (some .boolean), Cond.fieldLink RX1 19 "DefaultReasoner" "justifications" "[I", Cond.methodLink RX1 127 yX1_generatorsFor, Cond.instanceMethod yX1_generatorsFor, Cond.selects RX1 yX1_generatorsFor yX1_generatorsFor, Cond.code yX1_generatorsFor cX1_generatorsFor 6 (some .int), Cond.methodLink RX1 200 yX1_insertExtension, Cond.instanceMethod yX1_insertExtension, Cond.selects RX1 yX1_insertExtension yX1_insertExtension, Cond.code yX1_insertExtension cX1_insertExtension 3 none, Cond.methodLink RX1 146 yX1_layOut, Cond.instanceMethod yX1_layOut, Cond.selects RX1 yX1_layOut yX1_layOut, Cond.code yX1_layOut cX1_layOut 7 none, Cond.fieldLink RX1 35 "DefaultReasoner" "lineup" "[I", Cond.methodLink RX1 160 yX1_keepsPriorities, Cond.instanceMethod yX1_keepsPriorities]
def wsX1_share_r4 : List Cond := [Cond.selects RX1 yX1_keepsPriorities yX1_keepsPriorities, Cond.code yX1_keepsPriorities cX1_keepsPriorities 4 (some .boolean), Cond.fieldLink RX1 28 "DefaultReasoner" "priorities" "LDefaultReasoner$Priorities;", Cond.instanceMethod yX0_comesBeforeOneOf, Cond.initialized RX0, Cond.selects RX0 yX0_comesBeforeOneOf yX0_comesBeforeOneOf, Cond.code yX0_comesBeforeOneOf cX0_comesBeforeOneOf 3 (some .boolean), Cond.fieldLink RX0 15 "DefaultReasoner$Priorities" "reached" "[I", Cond.methodLink RX1 203 yX1_endOfWalk, Cond.instanceMethod yX1_endOfWalk, Cond.selects RX1 yX1_endOfWalk yX1_endOfWalk, Cond.code yX1_endOfWalk cX1_endOfWalk 4 (some .int), Cond.methodLink RX1 152 yX1_firstUsable, Cond.instanceMethod yX1_firstUsable, Cond.selects RX1 yX1_firstUsable yX1_firstUsable, Cond.code yX1_firstUsable cX1_firstUsable 3 (some .int), Cond.methodLink RX1 206 yX1_markPreferred, Cond.instanceMethod yX1_markPreferred, Cond.selects RX1 yX1_markPreferred yX1_markPreferred, Cond.code yX1_markPreferred cX1_markPreferred 3 none]
def wsX1_share : List Cond := .code yX1_share cX1_share 4 (some .double) :: ((wsX1_share_r1 ++ (wsX1_share_r2 ++ (wsX1_share_r3 ++ wsX1_share_r4))) ++ wsX10 ++ wsX00 ++ (vx_atS RX1 159 "java/lang/IndexOutOfBoundsException" ["java/lang/RuntimeException", "java/lang/Exception"]).filter goodWord)
def wsX1_checkOrder : List Cond := .code yX1_checkOrder cX1_checkOrder 2 none :: ([.classLink RX1 97 "java/lang/IllegalArgumentException", .initialized "java/lang/IllegalArgumentException", .fieldLink RX1 178 "DefaultReasoner" "ORDERS" "[I", .fieldLink RX1 79 "DefaultReasoner" "defaultTotal" "I"] ++ wsX10 ++ (vx_atS RX1 101 "java/lang/IllegalArgumentException" ["java/lang/RuntimeException", "java/lang/Exception"]).filter goodWord)
def wsX1_walk_r1 : List Cond := [Cond.fieldLink RX1 149 "DefaultReasoner" "latestTotal" "I", Cond.fieldLink RX1 79 "DefaultReasoner" "defaultTotal" "I", Cond.fieldLink RX1 32 "DefaultReasoner" "latestWalk" "[I", Cond.fieldLink RX1 38 "DefaultReasoner" "held" "[I", Cond.methodLink RX1 143 yX1_checkOrder, Cond.instanceMethod yX1_checkOrder, Cond.selects RX1 yX1_checkOrder yX1_checkOrder, Cond.initialized RX1, Cond.code yX1_checkOrder cX1_checkOrder 2 none, Cond.classLink RX1 97 "java/lang/IllegalArgumentException", Cond.initialized "java/lang/IllegalArgumentException", Cond.fieldLink RX1 178 "DefaultReasoner" "ORDERS" "[I", Cond.methodLink RX1 124 yX1_findExtensions, Cond.instanceMethod yX1_findExtensions, Cond.selects RX1 yX1_findExtensions yX1_findExtensions, Cond.code yX1_findExtensions cX1_findExtensions 3 none, Cond.fieldLink RX1 191 "DefaultReasoner" "extensionsKnown" "Z", Cond.fieldLink RX1 55 "DefaultReasoner" "factSet" "I", Cond.fieldLink RX1 41 "DefaultReasoner" "usable" "[I", Cond.fieldLink RX1 130 "DefaultReasoner" "extensionTotal" "I", Cond.methodLink RX1 194 yX1_conclusionsOf, Cond.instanceMethod yX1_conclusionsOf, Cond.selects RX1 yX1_conclusionsOf yX1_conclusionsOf, Cond.code yX1_conclusionsOf cX1_conclusionsOf 4 (some .int)]
def wsX1_walk_r2 : List Cond := [Cond.fieldLink RX1 22 "DefaultReasoner" "conclusions" "[I", Cond.methodLink RX1 59 yX1_has, Cond.static yX1_has, Cond.code yX1_has cX1_has 2 (some .boolean), Cond.methodLink RX1 117 yX1_closeUp, Cond.instanceMethod yX1_closeUp, Cond.selects RX1 yX1_closeUp yX1_closeUp, Cond.code yX1_closeUp cX1_closeUp 6 (some .int), Cond.fieldLink RX1 69 "DefaultReasoner" "ruleTotal" "I", Cond.fieldLink RX1 9 "DefaultReasoner" "bodies" "[I", Cond.fieldLink RX1 13 "DefaultReasoner" "heads" "[I", Cond.constant RX1 142 (65535), Cond.methodLink RX1 185 yX1_contains, Cond.static yX1_contains, Cond.code yX1_contains cX1_contains 2 (some .boolean), Cond.methodLink RX1 188 yX1_complements, Cond.static yX1_complements, Cond.code yX1_complements cX1_complements 1 (some .int), Cond.methodLink RX1 197 yX1_usableFor, Cond.instanceMethod yX1_usableFor, Cond.selects RX1 yX1_usableFor yX1_usableFor, Cond.code yX1_usableFor cX1_usableFor 4 (some .int), Cond.fieldLink RX1 16 "DefaultReasoner" "prerequisites" "[I", Cond.methodLink RX1 121 yX1_opens]
def wsX1_walk_r3 : List Cond := [Cond.instanceMethod yX1_opens, Cond.selects RX1 yX1_opens yX1_opens, Cond.code yX1_opens cX1_opens 3 (some .boolean), Cond.fieldLink RX1 19 "DefaultReasoner" "justifications" "[I", Cond.methodLink RX1 127 yX1_generatorsFor, Cond.instanceMethod yX1_generatorsFor, Cond.selects RX1 yX1_generatorsFor yX1_generatorsFor, Cond.code yX1_generatorsFor cX1_generatorsFor 6 (some .int), Cond.methodLink RX1 200 yX1_insertExtension, Cond.instanceMethod yX1_insertExtension, Cond.selects RX1 yX1_insertExtension yX1_insertExtension, Cond.code yX1_insertExtension cX1_insertExtension 3 none, Cond.fieldLink RX1 44 "DefaultReasoner" "extensions" "[I", Cond.methodLink RX1 146 yX1_layOut, Cond.instanceMethod yX1_layOut, Cond.selects RX1 yX1_layOut yX1_layOut, Cond.code yX1_layOut cX1_layOut 7 none, Cond.fieldLink RX1 35 "DefaultReasoner" "lineup" "[I", Cond.methodLink RX1 152 yX1_firstUsable, Cond.instanceMethod yX1_firstUsable, Cond.selects RX1 yX1_firstUsable yX1_firstUsable, Cond.code yX1_firstUsable cX1_firstUsable 3 (some .int)]
def wsX1_walk : List Cond := .code yX1_walk cX1_walk 5 (some .int) :: ((wsX1_walk_r1 ++ (wsX1_walk_r2 ++ wsX1_walk_r3)) ++ wsX10 ++ (vx_atS RX1 101 "java/lang/IllegalArgumentException" ["java/lang/RuntimeException", "java/lang/Exception"]).filter goodWord)
def wsX1_appliedCount : List Cond := .code yX1_appliedCount cX1_appliedCount 1 (some .int) :: ([.fieldLink RX1 149 "DefaultReasoner" "latestTotal" "I"] ++ wsX10)
def wsX1_applied : List Cond := .code yX1_applied cX1_applied 2 (some .int) :: ([.classLink RX1 155 "java/lang/IndexOutOfBoundsException", .initialized "java/lang/IndexOutOfBoundsException", .fieldLink RX1 149 "DefaultReasoner" "latestTotal" "I", .fieldLink RX1 32 "DefaultReasoner" "latestWalk" "[I"] ++ wsX10 ++ (vx_atS RX1 159 "java/lang/IndexOutOfBoundsException" ["java/lang/RuntimeException", "java/lang/Exception"]).filter goodWord)
def wsX1_respects_r1 : List Cond := [Cond.methodLink RX1 143 yX1_checkOrder, Cond.instanceMethod yX1_checkOrder, Cond.selects RX1 yX1_checkOrder yX1_checkOrder, Cond.initialized RX1, Cond.code yX1_checkOrder cX1_checkOrder 2 none, Cond.classLink RX1 97 "java/lang/IllegalArgumentException", Cond.initialized "java/lang/IllegalArgumentException", Cond.fieldLink RX1 178 "DefaultReasoner" "ORDERS" "[I", Cond.fieldLink RX1 79 "DefaultReasoner" "defaultTotal" "I", Cond.methodLink RX1 146 yX1_layOut, Cond.instanceMethod yX1_layOut, Cond.selects RX1 yX1_layOut yX1_layOut, Cond.code yX1_layOut cX1_layOut 7 none, Cond.fieldLink RX1 35 "DefaultReasoner" "lineup" "[I", Cond.methodLink RX1 59 yX1_has, Cond.static yX1_has, Cond.code yX1_has cX1_has 2 (some .boolean), Cond.methodLink RX1 160 yX1_keepsPriorities, Cond.instanceMethod yX1_keepsPriorities, Cond.selects RX1 yX1_keepsPriorities yX1_keepsPriorities, Cond.code yX1_keepsPriorities cX1_keepsPriorities 4 (some .boolean), Cond.fieldLink RX1 28 "DefaultReasoner" "priorities" "LDefaultReasoner$Priorities;", Cond.instanceMethod yX0_comesBeforeOneOf, Cond.initialized RX0]
def wsX1_respects_r2 : List Cond := [Cond.selects RX0 yX0_comesBeforeOneOf yX0_comesBeforeOneOf, Cond.code yX0_comesBeforeOneOf cX0_comesBeforeOneOf 3 (some .boolean), Cond.fieldLink RX0 15 "DefaultReasoner$Priorities" "reached" "[I"]
def wsX1_respects : List Cond := .code yX1_respects cX1_respects 2 (some .boolean) :: ((wsX1_respects_r1 ++ wsX1_respects_r2) ++ wsX10 ++ wsX00 ++ (vx_atS RX1 101 "java/lang/IllegalArgumentException" ["java/lang/RuntimeException", "java/lang/Exception"]).filter goodWord)
def wsX1_mix : List Cond := .code yX1_mix cX1_mix 4 (some .long) :: ([.constantLong RX1 183 (31)])
def wsX1_digest : List Cond := .code yX1_digest cX1_digest 5 (some .long) :: ([.constantLong RX1 164 (113), .fieldLink RX1 55 "DefaultReasoner" "factSet" "I", .fieldLink RX1 69 "DefaultReasoner" "ruleTotal" "I", .fieldLink RX1 9 "DefaultReasoner" "bodies" "[I", .fieldLink RX1 13 "DefaultReasoner" "heads" "[I", .fieldLink RX1 79 "DefaultReasoner" "defaultTotal" "I", .fieldLink RX1 16 "DefaultReasoner" "prerequisites" "[I", .fieldLink RX1 19 "DefaultReasoner" "justifications" "[I", .fieldLink RX1 22 "DefaultReasoner" "conclusions" "[I", .fieldLink RX1 28 "DefaultReasoner" "priorities" "LDefaultReasoner$Priorities;", .fieldLink RX1 149 "DefaultReasoner" "latestTotal" "I", .fieldLink RX1 32 "DefaultReasoner" "latestWalk" "[I", .methodLink RX1 166 yX1_mix, .static yX1_mix, .initialized RX1, .code yX1_mix cX1_mix 4 (some .long), .constantLong RX1 183 (31), .instanceMethod yX0_comesBefore, .initialized RX0, .selects RX0 yX0_comesBefore yX0_comesBefore, .code yX0_comesBefore cX0_comesBefore 3 (some .boolean), .fieldLink RX0 15 "DefaultReasoner$Priorities" "reached" "[I", .static yX1_has, .code yX1_has cX1_has 2 (some .boolean)] ++ wsX10 ++ wsX00)
def wsX2_init : List Cond := .code yX2_init cX2_init 1 none :: ([.methodLink RX2 1 objectInit, .instanceMethod objectInit, .code objectInit ⟨#[0xb1]⟩ 1 none, .arrayClass .int, .fieldLink RX2 9 "DefaultReasonerModel" "bodies" "[I", .fieldLink RX2 13 "DefaultReasonerModel" "heads" "[I", .fieldLink RX2 16 "DefaultReasonerModel" "needs" "[I", .fieldLink RX2 19 "DefaultReasonerModel" "justifications" "[I", .fieldLink RX2 22 "DefaultReasonerModel" "conclusions" "[I", .arrayClass .boolean, .fieldLink RX2 25 "DefaultReasonerModel" "told" "[Z", .fieldLink RX2 29 "DefaultReasonerModel" "path" "[I", .fieldLink RX2 32 "DefaultReasonerModel" "all" "[I", .fieldLink RX2 35 "DefaultReasonerModel" "arePreferred" "[Z"] ++ wsX20)
def wsX2_thrown : List Cond := .code yX2_thrown cX2_thrown 1 (some .int) :: ([.fieldLink RX2 38 "DefaultReasonerModel" "thrown" "I"] ++ wsX20)
def wsX2_fail : List Cond := .code yX2_fail cX2_fail 2 (some .int) :: ([.fieldLink RX2 38 "DefaultReasonerModel" "thrown" "I"] ++ wsX20)
def wsX2_isLiteral : List Cond := .code yX2_isLiteral cX2_isLiteral 1 (some .boolean) :: ([])
def wsX2_isSet : List Cond := .code yX2_isSet cX2_isSet 1 (some .boolean) :: ([.constant RX2 42 (65535)])
def wsX2_isDefault : List Cond := .code yX2_isDefault cX2_isDefault 2 (some .boolean) :: ([.fieldLink RX2 43 "DefaultReasonerModel" "defaults" "I"] ++ wsX20)
def wsX2_setFact : List Cond := .code yX2_setFact cX2_setFact 4 (some .boolean) :: ([.fieldLink RX2 38 "DefaultReasonerModel" "thrown" "I", .fieldLink RX2 50 "DefaultReasonerModel" "facts" "I", .methodLink RX2 46 yX2_isLiteral, .static yX2_isLiteral, .initialized RX2, .code yX2_isLiteral cX2_isLiteral 1 (some .boolean)] ++ wsX20)
def wsX2_addRule : List Cond := .code yX2_addRule cX2_addRule 3 (some .int) :: ([.fieldLink RX2 38 "DefaultReasonerModel" "thrown" "I", .fieldLink RX2 60 "DefaultReasonerModel" "rules" "I", .fieldLink RX2 9 "DefaultReasonerModel" "bodies" "[I", .fieldLink RX2 13 "DefaultReasonerModel" "heads" "[I", .methodLink RX2 46 yX2_isLiteral, .static yX2_isLiteral, .initialized RX2, .code yX2_isLiteral cX2_isLiteral 1 (some .boolean), .methodLink RX2 53 yX2_fail, .instanceMethod yX2_fail, .selects RX2 yX2_fail yX2_fail, .code yX2_fail cX2_fail 2 (some .int), .methodLink RX2 57 yX2_isSet, .static yX2_isSet, .code yX2_isSet cX2_isSet 1 (some .boolean), .constant RX2 42 (65535)] ++ wsX20)
def wsX2_addDefault : List Cond := .code yX2_addDefault cX2_addDefault 4 (some .int) :: ([.fieldLink RX2 38 "DefaultReasonerModel" "thrown" "I", .fieldLink RX2 43 "DefaultReasonerModel" "defaults" "I", .fieldLink RX2 16 "DefaultReasonerModel" "needs" "[I", .fieldLink RX2 19 "DefaultReasonerModel" "justifications" "[I", .fieldLink RX2 22 "DefaultReasonerModel" "conclusions" "[I", .methodLink RX2 46 yX2_isLiteral, .static yX2_isLiteral, .initialized RX2, .code yX2_isLiteral cX2_isLiteral 1 (some .boolean), .methodLink RX2 53 yX2_fail, .instanceMethod yX2_fail, .selects RX2 yX2_fail yX2_fail, .code yX2_fail cX2_fail 2 (some .int), .methodLink RX2 57 yX2_isSet, .static yX2_isSet, .code yX2_isSet cX2_isSet 1 (some .boolean), .constant RX2 42 (65535)] ++ wsX20)
def wsX2_dropRule : List Cond := .code yX2_dropRule cX2_dropRule 1 (some .int) :: ([.fieldLink RX2 38 "DefaultReasonerModel" "thrown" "I", .fieldLink RX2 60 "DefaultReasonerModel" "rules" "I", .methodLink RX2 53 yX2_fail, .instanceMethod yX2_fail, .selects RX2 yX2_fail yX2_fail, .initialized RX2, .code yX2_fail cX2_fail 2 (some .int)] ++ wsX20)
def wsX2_dropDefault : List Cond := .code yX2_dropDefault cX2_dropDefault 2 (some .int) :: ([.fieldLink RX2 38 "DefaultReasonerModel" "thrown" "I", .fieldLink RX2 43 "DefaultReasonerModel" "defaults" "I", .fieldLink RX2 25 "DefaultReasonerModel" "told" "[Z", .methodLink RX2 53 yX2_fail, .instanceMethod yX2_fail, .selects RX2 yX2_fail yX2_fail, .initialized RX2, .code yX2_fail cX2_fail 2 (some .int)] ++ wsX20)
def wsX2_leads : List Cond := .code yX2_leads cX2_leads 5 (some .boolean) :: ([.fieldLink RX2 25 "DefaultReasonerModel" "told" "[Z", .fieldLink RX2 43 "DefaultReasonerModel" "defaults" "I", .methodLink RX2 63 yX2_leads, .instanceMethod yX2_leads, .selects RX2 yX2_leads yX2_leads, .initialized RX2] ++ wsX20)
def wsX2_before : List Cond := .code yX2_before cX2_before 3 (some .boolean) :: ([.methodLink RX2 63 yX2_leads, .instanceMethod yX2_leads, .selects RX2 yX2_leads yX2_leads, .initialized RX2, .code yX2_leads cX2_leads 5 (some .boolean), .fieldLink RX2 25 "DefaultReasonerModel" "told" "[Z", .fieldLink RX2 43 "DefaultReasonerModel" "defaults" "I"] ++ wsX20)
def wsX2_prefer : List Cond := .code yX2_prefer cX2_prefer 4 (some .boolean) :: ([.fieldLink RX2 38 "DefaultReasonerModel" "thrown" "I", .fieldLink RX2 25 "DefaultReasonerModel" "told" "[Z", .methodLink RX2 67 yX2_isDefault, .instanceMethod yX2_isDefault, .selects RX2 yX2_isDefault yX2_isDefault, .initialized RX2, .code yX2_isDefault cX2_isDefault 2 (some .boolean), .fieldLink RX2 43 "DefaultReasonerModel" "defaults" "I", .methodLink RX2 70 yX2_before, .instanceMethod yX2_before, .selects RX2 yX2_before yX2_before, .code yX2_before cX2_before 3 (some .boolean), .methodLink RX2 63 yX2_leads, .instanceMethod yX2_leads, .selects RX2 yX2_leads yX2_leads, .code yX2_leads cX2_leads 5 (some .boolean)] ++ wsX20)
def wsX2_forgetPriorities : List Cond := .code yX2_forgetPriorities cX2_forgetPriorities 4 (some .int) :: ([.fieldLink RX2 38 "DefaultReasonerModel" "thrown" "I", .fieldLink RX2 43 "DefaultReasonerModel" "defaults" "I", .fieldLink RX2 25 "DefaultReasonerModel" "told" "[Z", .methodLink RX2 70 yX2_before, .instanceMethod yX2_before, .selects RX2 yX2_before yX2_before, .initialized RX2, .code yX2_before cX2_before 3 (some .boolean), .methodLink RX2 63 yX2_leads, .instanceMethod yX2_leads, .selects RX2 yX2_leads yX2_leads, .code yX2_leads cX2_leads 5 (some .boolean)] ++ wsX20)
def wsX2_isBefore : List Cond := .code yX2_isBefore cX2_isBefore 3 (some .boolean) :: ([.fieldLink RX2 38 "DefaultReasonerModel" "thrown" "I", .methodLink RX2 67 yX2_isDefault, .instanceMethod yX2_isDefault, .selects RX2 yX2_isDefault yX2_isDefault, .initialized RX2, .code yX2_isDefault cX2_isDefault 2 (some .boolean), .fieldLink RX2 43 "DefaultReasonerModel" "defaults" "I", .methodLink RX2 70 yX2_before, .instanceMethod yX2_before, .selects RX2 yX2_before yX2_before, .code yX2_before cX2_before 3 (some .boolean), .methodLink RX2 63 yX2_leads, .instanceMethod yX2_leads, .selects RX2 yX2_leads yX2_leads, .code yX2_leads cX2_leads 5 (some .boolean), .fieldLink RX2 25 "DefaultReasonerModel" "told" "[Z"] ++ wsX20)
def wsX2_facts : List Cond := .code yX2_facts cX2_facts 1 (some .int) :: ([.fieldLink RX2 38 "DefaultReasonerModel" "thrown" "I", .fieldLink RX2 50 "DefaultReasonerModel" "facts" "I"] ++ wsX20)
def wsX2_defaultCount : List Cond := .code yX2_defaultCount cX2_defaultCount 1 (some .int) :: ([.fieldLink RX2 38 "DefaultReasonerModel" "thrown" "I", .fieldLink RX2 43 "DefaultReasonerModel" "defaults" "I"] ++ wsX20)
def wsX2_complements : List Cond := .code yX2_complements cX2_complements 1 (some .int) :: ([])
def wsX2_close : List Cond := .code yX2_close cX2_close 5 (some .int) :: ([.fieldLink RX2 60 "DefaultReasonerModel" "rules" "I", .fieldLink RX2 9 "DefaultReasonerModel" "bodies" "[I", .fieldLink RX2 13 "DefaultReasonerModel" "heads" "[I", .constant RX2 42 (65535), .methodLink RX2 74 yX2_complements, .static yX2_complements, .initialized RX2, .code yX2_complements cX2_complements 1 (some .int)] ++ wsX20)
def wsX2_open : List Cond := .code yX2_open cX2_open 3 (some .boolean) :: ([.fieldLink RX2 19 "DefaultReasonerModel" "justifications" "[I", .methodLink RX2 74 yX2_complements, .static yX2_complements, .initialized RX2, .code yX2_complements cX2_complements 1 (some .int)] ++ wsX20)
def wsX2_consequences : List Cond := .code yX2_consequences cX2_consequences 4 (some .int) :: ([.fieldLink RX2 50 "DefaultReasonerModel" "facts" "I", .fieldLink RX2 43 "DefaultReasonerModel" "defaults" "I", .fieldLink RX2 22 "DefaultReasonerModel" "conclusions" "[I", .methodLink RX2 77 yX2_close, .instanceMethod yX2_close, .selects RX2 yX2_close yX2_close, .initialized RX2, .code yX2_close cX2_close 5 (some .int), .fieldLink RX2 60 "DefaultReasonerModel" "rules" "I", .fieldLink RX2 9 "DefaultReasonerModel" "bodies" "[I", .fieldLink RX2 13 "DefaultReasonerModel" "heads" "[I", .constant RX2 42 (65535), .methodLink RX2 74 yX2_complements, .static yX2_complements, .code yX2_complements cX2_complements 1 (some .int)] ++ wsX20)
def wsX2_generators_r1 : List Cond := [Cond.fieldLink RX2 43 "DefaultReasonerModel" "defaults" "I", Cond.fieldLink RX2 16 "DefaultReasonerModel" "needs" "[I", Cond.methodLink RX2 80 yX2_consequences, Cond.instanceMethod yX2_consequences, Cond.selects RX2 yX2_consequences yX2_consequences, Cond.initialized RX2, Cond.code yX2_consequences cX2_consequences 4 (some .int), Cond.fieldLink RX2 50 "DefaultReasonerModel" "facts" "I", Cond.fieldLink RX2 22 "DefaultReasonerModel" "conclusions" "[I", Cond.methodLink RX2 77 yX2_close, Cond.instanceMethod yX2_close, Cond.selects RX2 yX2_close yX2_close, Cond.code yX2_close cX2_close 5 (some .int), Cond.fieldLink RX2 60 "DefaultReasonerModel" "rules" "I", Cond.fieldLink RX2 9 "DefaultReasonerModel" "bodies" "[I", Cond.fieldLink RX2 13 "DefaultReasonerModel" "heads" "[I", Cond.constant RX2 42 (65535), Cond.methodLink RX2 74 yX2_complements, Cond.static yX2_complements, Cond.code yX2_complements cX2_complements 1 (some .int), Cond.methodLink RX2 83 yX2_open, Cond.instanceMethod yX2_open, Cond.selects RX2 yX2_open yX2_open, Cond.code yX2_open cX2_open 3 (some .boolean)]
def wsX2_generators_r2 : List Cond := [Cond.fieldLink RX2 19 "DefaultReasonerModel" "justifications" "[I"]
def wsX2_generators : List Cond := .code yX2_generators cX2_generators 6 (some .int) :: ((wsX2_generators_r1 ++ wsX2_generators_r2) ++ wsX20)
def wsX2_isStable_r1 : List Cond := [Cond.methodLink RX2 86 yX2_generators, Cond.instanceMethod yX2_generators, Cond.selects RX2 yX2_generators yX2_generators, Cond.initialized RX2, Cond.code yX2_generators cX2_generators 6 (some .int), Cond.fieldLink RX2 43 "DefaultReasonerModel" "defaults" "I", Cond.fieldLink RX2 16 "DefaultReasonerModel" "needs" "[I", Cond.methodLink RX2 80 yX2_consequences, Cond.instanceMethod yX2_consequences, Cond.selects RX2 yX2_consequences yX2_consequences, Cond.code yX2_consequences cX2_consequences 4 (some .int), Cond.fieldLink RX2 50 "DefaultReasonerModel" "facts" "I", Cond.fieldLink RX2 22 "DefaultReasonerModel" "conclusions" "[I", Cond.methodLink RX2 77 yX2_close, Cond.instanceMethod yX2_close, Cond.selects RX2 yX2_close yX2_close, Cond.code yX2_close cX2_close 5 (some .int), Cond.fieldLink RX2 60 "DefaultReasonerModel" "rules" "I", Cond.fieldLink RX2 9 "DefaultReasonerModel" "bodies" "[I", Cond.fieldLink RX2 13 "DefaultReasonerModel" "heads" "[I", Cond.constant RX2 42 (65535), Cond.methodLink RX2 74 yX2_complements, Cond.static yX2_complements, Cond.code yX2_complements cX2_complements 1 (some .int)]
def wsX2_isStable_r2 : List Cond := [Cond.methodLink RX2 83 yX2_open, Cond.instanceMethod yX2_open, Cond.selects RX2 yX2_open yX2_open, Cond.code yX2_open cX2_open 3 (some .boolean), Cond.fieldLink RX2 19 "DefaultReasonerModel" "justifications" "[I"]
def wsX2_isStable : List Cond := .code yX2_isStable cX2_isStable 2 (some .boolean) :: ((wsX2_isStable_r1 ++ wsX2_isStable_r2) ++ wsX20)
def wsX2_closure : List Cond := .code yX2_closure cX2_closure 2 (some .int) :: ([.fieldLink RX2 38 "DefaultReasonerModel" "thrown" "I", .methodLink RX2 57 yX2_isSet, .static yX2_isSet, .initialized RX2, .code yX2_isSet cX2_isSet 1 (some .boolean), .constant RX2 42 (65535), .methodLink RX2 77 yX2_close, .instanceMethod yX2_close, .selects RX2 yX2_close yX2_close, .code yX2_close cX2_close 5 (some .int), .fieldLink RX2 60 "DefaultReasonerModel" "rules" "I", .fieldLink RX2 9 "DefaultReasonerModel" "bodies" "[I", .fieldLink RX2 13 "DefaultReasonerModel" "heads" "[I", .methodLink RX2 74 yX2_complements, .static yX2_complements, .code yX2_complements cX2_complements 1 (some .int), .methodLink RX2 53 yX2_fail, .instanceMethod yX2_fail, .selects RX2 yX2_fail yX2_fail, .code yX2_fail cX2_fail 2 (some .int)] ++ wsX20)
def wsX2_isOpen : List Cond := .code yX2_isOpen cX2_isOpen 3 (some .boolean) :: ([.fieldLink RX2 38 "DefaultReasonerModel" "thrown" "I", .methodLink RX2 67 yX2_isDefault, .instanceMethod yX2_isDefault, .selects RX2 yX2_isDefault yX2_isDefault, .initialized RX2, .code yX2_isDefault cX2_isDefault 2 (some .boolean), .fieldLink RX2 43 "DefaultReasonerModel" "defaults" "I", .methodLink RX2 57 yX2_isSet, .static yX2_isSet, .code yX2_isSet cX2_isSet 1 (some .boolean), .constant RX2 42 (65535), .methodLink RX2 83 yX2_open, .instanceMethod yX2_open, .selects RX2 yX2_open yX2_open, .code yX2_open cX2_open 3 (some .boolean), .fieldLink RX2 19 "DefaultReasonerModel" "justifications" "[I", .methodLink RX2 74 yX2_complements, .static yX2_complements, .code yX2_complements cX2_complements 1 (some .int)] ++ wsX20)
def wsX2_generatorsOf_r1 : List Cond := [Cond.fieldLink RX2 38 "DefaultReasonerModel" "thrown" "I", Cond.methodLink RX2 57 yX2_isSet, Cond.static yX2_isSet, Cond.initialized RX2, Cond.code yX2_isSet cX2_isSet 1 (some .boolean), Cond.constant RX2 42 (65535), Cond.methodLink RX2 86 yX2_generators, Cond.instanceMethod yX2_generators, Cond.selects RX2 yX2_generators yX2_generators, Cond.code yX2_generators cX2_generators 6 (some .int), Cond.fieldLink RX2 43 "DefaultReasonerModel" "defaults" "I", Cond.fieldLink RX2 16 "DefaultReasonerModel" "needs" "[I", Cond.methodLink RX2 80 yX2_consequences, Cond.instanceMethod yX2_consequences, Cond.selects RX2 yX2_consequences yX2_consequences, Cond.code yX2_consequences cX2_consequences 4 (some .int), Cond.fieldLink RX2 50 "DefaultReasonerModel" "facts" "I", Cond.fieldLink RX2 22 "DefaultReasonerModel" "conclusions" "[I", Cond.methodLink RX2 77 yX2_close, Cond.instanceMethod yX2_close, Cond.selects RX2 yX2_close yX2_close, Cond.code yX2_close cX2_close 5 (some .int), Cond.fieldLink RX2 60 "DefaultReasonerModel" "rules" "I", Cond.fieldLink RX2 9 "DefaultReasonerModel" "bodies" "[I"]
def wsX2_generatorsOf_r2 : List Cond := [Cond.fieldLink RX2 13 "DefaultReasonerModel" "heads" "[I", Cond.methodLink RX2 74 yX2_complements, Cond.static yX2_complements, Cond.code yX2_complements cX2_complements 1 (some .int), Cond.methodLink RX2 83 yX2_open, Cond.instanceMethod yX2_open, Cond.selects RX2 yX2_open yX2_open, Cond.code yX2_open cX2_open 3 (some .boolean), Cond.fieldLink RX2 19 "DefaultReasonerModel" "justifications" "[I", Cond.methodLink RX2 53 yX2_fail, Cond.instanceMethod yX2_fail, Cond.selects RX2 yX2_fail yX2_fail, Cond.code yX2_fail cX2_fail 2 (some .int)]
def wsX2_generatorsOf : List Cond := .code yX2_generatorsOf cX2_generatorsOf 2 (some .int) :: ((wsX2_generatorsOf_r1 ++ wsX2_generatorsOf_r2) ++ wsX20)
def wsX2_isExtension_r1 : List Cond := [Cond.fieldLink RX2 38 "DefaultReasonerModel" "thrown" "I", Cond.methodLink RX2 57 yX2_isSet, Cond.static yX2_isSet, Cond.initialized RX2, Cond.code yX2_isSet cX2_isSet 1 (some .boolean), Cond.constant RX2 42 (65535), Cond.methodLink RX2 89 yX2_isStable, Cond.instanceMethod yX2_isStable, Cond.selects RX2 yX2_isStable yX2_isStable, Cond.code yX2_isStable cX2_isStable 2 (some .boolean), Cond.methodLink RX2 86 yX2_generators, Cond.instanceMethod yX2_generators, Cond.selects RX2 yX2_generators yX2_generators, Cond.code yX2_generators cX2_generators 6 (some .int), Cond.fieldLink RX2 43 "DefaultReasonerModel" "defaults" "I", Cond.fieldLink RX2 16 "DefaultReasonerModel" "needs" "[I", Cond.methodLink RX2 80 yX2_consequences, Cond.instanceMethod yX2_consequences, Cond.selects RX2 yX2_consequences yX2_consequences, Cond.code yX2_consequences cX2_consequences 4 (some .int), Cond.fieldLink RX2 50 "DefaultReasonerModel" "facts" "I", Cond.fieldLink RX2 22 "DefaultReasonerModel" "conclusions" "[I", Cond.methodLink RX2 77 yX2_close, Cond.instanceMethod yX2_close]
def wsX2_isExtension_r2 : List Cond := [Cond.selects RX2 yX2_close yX2_close, Cond.code yX2_close cX2_close 5 (some .int), Cond.fieldLink RX2 60 "DefaultReasonerModel" "rules" "I", Cond.fieldLink RX2 9 "DefaultReasonerModel" "bodies" "[I", Cond.fieldLink RX2 13 "DefaultReasonerModel" "heads" "[I", Cond.methodLink RX2 74 yX2_complements, Cond.static yX2_complements, Cond.code yX2_complements cX2_complements 1 (some .int), Cond.methodLink RX2 83 yX2_open, Cond.instanceMethod yX2_open, Cond.selects RX2 yX2_open yX2_open, Cond.code yX2_open cX2_open 3 (some .boolean), Cond.fieldLink RX2 19 "DefaultReasonerModel" "justifications" "[I"]
def wsX2_isExtension : List Cond := .code yX2_isExtension cX2_isExtension 2 (some .boolean) :: ((wsX2_isExtension_r1 ++ wsX2_isExtension_r2) ++ wsX20)
def wsX2_find_r1 : List Cond := [Cond.fieldLink RX2 92 "DefaultReasonerModel" "count" "I", Cond.fieldLink RX2 43 "DefaultReasonerModel" "defaults" "I", Cond.fieldLink RX2 32 "DefaultReasonerModel" "all" "[I", Cond.methodLink RX2 80 yX2_consequences, Cond.instanceMethod yX2_consequences, Cond.selects RX2 yX2_consequences yX2_consequences, Cond.initialized RX2, Cond.code yX2_consequences cX2_consequences 4 (some .int), Cond.fieldLink RX2 50 "DefaultReasonerModel" "facts" "I", Cond.fieldLink RX2 22 "DefaultReasonerModel" "conclusions" "[I", Cond.methodLink RX2 77 yX2_close, Cond.instanceMethod yX2_close, Cond.selects RX2 yX2_close yX2_close, Cond.code yX2_close cX2_close 5 (some .int), Cond.fieldLink RX2 60 "DefaultReasonerModel" "rules" "I", Cond.fieldLink RX2 9 "DefaultReasonerModel" "bodies" "[I", Cond.fieldLink RX2 13 "DefaultReasonerModel" "heads" "[I", Cond.constant RX2 42 (65535), Cond.methodLink RX2 74 yX2_complements, Cond.static yX2_complements, Cond.code yX2_complements cX2_complements 1 (some .int), Cond.methodLink RX2 86 yX2_generators, Cond.instanceMethod yX2_generators, Cond.selects RX2 yX2_generators yX2_generators]
def wsX2_find_r2 : List Cond := [Cond.code yX2_generators cX2_generators 6 (some .int), Cond.fieldLink RX2 16 "DefaultReasonerModel" "needs" "[I", Cond.methodLink RX2 83 yX2_open, Cond.instanceMethod yX2_open, Cond.selects RX2 yX2_open yX2_open, Cond.code yX2_open cX2_open 3 (some .boolean), Cond.fieldLink RX2 19 "DefaultReasonerModel" "justifications" "[I"]
def wsX2_find : List Cond := .code yX2_find cX2_find 4 none :: ((wsX2_find_r1 ++ wsX2_find_r2) ++ wsX20)
def wsX2_orders : List Cond := .code yX2_orders cX2_orders 3 (some .int) :: ([.fieldLink RX2 43 "DefaultReasonerModel" "defaults" "I"] ++ wsX20)
def wsX2_setOrder : List Cond := .code yX2_setOrder cX2_setOrder 9 none :: ([.arrayClass .boolean, .fieldLink RX2 43 "DefaultReasonerModel" "defaults" "I", .methodLink RX2 98 yX2_orders, .instanceMethod yX2_orders, .selects RX2 yX2_orders yX2_orders, .initialized RX2, .code yX2_orders cX2_orders 3 (some .int)] ++ wsX20)
def wsX2_respects : List Cond := .code yX2_respects cX2_respects 4 (some .boolean) :: ([.fieldLink RX2 43 "DefaultReasonerModel" "defaults" "I", .methodLink RX2 70 yX2_before, .instanceMethod yX2_before, .selects RX2 yX2_before yX2_before, .initialized RX2, .code yX2_before cX2_before 3 (some .boolean), .methodLink RX2 63 yX2_leads, .instanceMethod yX2_leads, .selects RX2 yX2_leads yX2_leads, .code yX2_leads cX2_leads 5 (some .boolean), .fieldLink RX2 25 "DefaultReasonerModel" "told" "[Z"] ++ wsX20)
def wsX2_first : List Cond := .code yX2_first cX2_first 5 (some .int) :: ([.fieldLink RX2 43 "DefaultReasonerModel" "defaults" "I", .fieldLink RX2 16 "DefaultReasonerModel" "needs" "[I", .fieldLink RX2 22 "DefaultReasonerModel" "conclusions" "[I", .methodLink RX2 83 yX2_open, .instanceMethod yX2_open, .selects RX2 yX2_open yX2_open, .initialized RX2, .code yX2_open cX2_open 3 (some .boolean), .fieldLink RX2 19 "DefaultReasonerModel" "justifications" "[I", .methodLink RX2 74 yX2_complements, .static yX2_complements, .code yX2_complements cX2_complements 1 (some .int)] ++ wsX20)
def wsX2_walk_r1 : List Cond := [Cond.fieldLink RX2 50 "DefaultReasonerModel" "facts" "I", Cond.fieldLink RX2 22 "DefaultReasonerModel" "conclusions" "[I", Cond.methodLink RX2 77 yX2_close, Cond.instanceMethod yX2_close, Cond.selects RX2 yX2_close yX2_close, Cond.initialized RX2, Cond.code yX2_close cX2_close 5 (some .int), Cond.fieldLink RX2 60 "DefaultReasonerModel" "rules" "I", Cond.fieldLink RX2 9 "DefaultReasonerModel" "bodies" "[I", Cond.fieldLink RX2 13 "DefaultReasonerModel" "heads" "[I", Cond.constant RX2 42 (65535), Cond.methodLink RX2 74 yX2_complements, Cond.static yX2_complements, Cond.code yX2_complements cX2_complements 1 (some .int), Cond.methodLink RX2 123 yX2_first, Cond.instanceMethod yX2_first, Cond.selects RX2 yX2_first yX2_first, Cond.code yX2_first cX2_first 5 (some .int), Cond.fieldLink RX2 43 "DefaultReasonerModel" "defaults" "I", Cond.fieldLink RX2 16 "DefaultReasonerModel" "needs" "[I", Cond.methodLink RX2 83 yX2_open, Cond.instanceMethod yX2_open, Cond.selects RX2 yX2_open yX2_open, Cond.code yX2_open cX2_open 3 (some .boolean)]
def wsX2_walk_r2 : List Cond := [Cond.fieldLink RX2 19 "DefaultReasonerModel" "justifications" "[I"]
def wsX2_walk : List Cond := .code yX2_walk cX2_walk 5 (some .int) :: ((wsX2_walk_r1 ++ wsX2_walk_r2) ++ wsX20)
def wsX2_findPreferred_r1 : List Cond := [Cond.fieldLink RX2 92 "DefaultReasonerModel" "count" "I", Cond.fieldLink RX2 35 "DefaultReasonerModel" "arePreferred" "[Z", Cond.arrayClass .int, Cond.fieldLink RX2 32 "DefaultReasonerModel" "all" "[I", Cond.methodLink RX2 95 yX2_find, Cond.instanceMethod yX2_find, Cond.selects RX2 yX2_find yX2_find, Cond.initialized RX2, Cond.code yX2_find cX2_find 4 none, Cond.fieldLink RX2 43 "DefaultReasonerModel" "defaults" "I", Cond.methodLink RX2 80 yX2_consequences, Cond.instanceMethod yX2_consequences, Cond.selects RX2 yX2_consequences yX2_consequences, Cond.code yX2_consequences cX2_consequences 4 (some .int), Cond.fieldLink RX2 50 "DefaultReasonerModel" "facts" "I", Cond.fieldLink RX2 22 "DefaultReasonerModel" "conclusions" "[I", Cond.methodLink RX2 77 yX2_close, Cond.instanceMethod yX2_close, Cond.selects RX2 yX2_close yX2_close, Cond.code yX2_close cX2_close 5 (some .int), Cond.fieldLink RX2 60 "DefaultReasonerModel" "rules" "I", Cond.fieldLink RX2 9 "DefaultReasonerModel" "bodies" "[I", Cond.fieldLink RX2 13 "DefaultReasonerModel" "heads" "[I", Cond.constant RX2 42 (65535)]
def wsX2_findPreferred_r2 : List Cond := [Cond.methodLink RX2 74 yX2_complements, Cond.static yX2_complements, Cond.code yX2_complements cX2_complements 1 (some .int), Cond.methodLink RX2 86 yX2_generators, Cond.instanceMethod yX2_generators, Cond.selects RX2 yX2_generators yX2_generators, Cond.code yX2_generators cX2_generators 6 (some .int), Cond.fieldLink RX2 16 "DefaultReasonerModel" "needs" "[I", Cond.methodLink RX2 83 yX2_open, Cond.instanceMethod yX2_open, Cond.selects RX2 yX2_open yX2_open, Cond.code yX2_open cX2_open 3 (some .boolean), Cond.fieldLink RX2 19 "DefaultReasonerModel" "justifications" "[I", Cond.methodLink RX2 98 yX2_orders, Cond.instanceMethod yX2_orders, Cond.selects RX2 yX2_orders yX2_orders, Cond.code yX2_orders cX2_orders 3 (some .int), Cond.methodLink RX2 102 yX2_setOrder, Cond.instanceMethod yX2_setOrder, Cond.selects RX2 yX2_setOrder yX2_setOrder, Cond.code yX2_setOrder cX2_setOrder 9 none, Cond.arrayClass .boolean, Cond.methodLink RX2 106 yX2_respects, Cond.instanceMethod yX2_respects]
def wsX2_findPreferred_r3 : List Cond := [Cond.selects RX2 yX2_respects yX2_respects, Cond.code yX2_respects cX2_respects 4 (some .boolean), Cond.methodLink RX2 70 yX2_before, Cond.instanceMethod yX2_before, Cond.selects RX2 yX2_before yX2_before, Cond.code yX2_before cX2_before 3 (some .boolean), Cond.methodLink RX2 63 yX2_leads, Cond.instanceMethod yX2_leads, Cond.selects RX2 yX2_leads yX2_leads, Cond.code yX2_leads cX2_leads 5 (some .boolean), Cond.fieldLink RX2 25 "DefaultReasonerModel" "told" "[Z", Cond.methodLink RX2 110 yX2_walk, Cond.instanceMethod yX2_walk, Cond.selects RX2 yX2_walk yX2_walk, Cond.code yX2_walk cX2_walk 5 (some .int), Cond.methodLink RX2 123 yX2_first, Cond.instanceMethod yX2_first, Cond.selects RX2 yX2_first yX2_first, Cond.code yX2_first cX2_first 5 (some .int)]
def wsX2_findPreferred : List Cond := .code yX2_findPreferred cX2_findPreferred 5 none :: ((wsX2_findPreferred_r1 ++ (wsX2_findPreferred_r2 ++ wsX2_findPreferred_r3)) ++ wsX20)
def wsX2_extensionCount_r1 : List Cond := [Cond.fieldLink RX2 38 "DefaultReasonerModel" "thrown" "I", Cond.fieldLink RX2 92 "DefaultReasonerModel" "count" "I", Cond.methodLink RX2 95 yX2_find, Cond.instanceMethod yX2_find, Cond.selects RX2 yX2_find yX2_find, Cond.initialized RX2, Cond.code yX2_find cX2_find 4 none, Cond.fieldLink RX2 43 "DefaultReasonerModel" "defaults" "I", Cond.fieldLink RX2 32 "DefaultReasonerModel" "all" "[I", Cond.methodLink RX2 80 yX2_consequences, Cond.instanceMethod yX2_consequences, Cond.selects RX2 yX2_consequences yX2_consequences, Cond.code yX2_consequences cX2_consequences 4 (some .int), Cond.fieldLink RX2 50 "DefaultReasonerModel" "facts" "I", Cond.fieldLink RX2 22 "DefaultReasonerModel" "conclusions" "[I", Cond.methodLink RX2 77 yX2_close, Cond.instanceMethod yX2_close, Cond.selects RX2 yX2_close yX2_close, Cond.code yX2_close cX2_close 5 (some .int), Cond.fieldLink RX2 60 "DefaultReasonerModel" "rules" "I", Cond.fieldLink RX2 9 "DefaultReasonerModel" "bodies" "[I", Cond.fieldLink RX2 13 "DefaultReasonerModel" "heads" "[I", Cond.constant RX2 42 (65535), Cond.methodLink RX2 74 yX2_complements]
def wsX2_extensionCount_r2 : List Cond := [Cond.static yX2_complements, Cond.code yX2_complements cX2_complements 1 (some .int), Cond.methodLink RX2 86 yX2_generators, Cond.instanceMethod yX2_generators, Cond.selects RX2 yX2_generators yX2_generators, Cond.code yX2_generators cX2_generators 6 (some .int), Cond.fieldLink RX2 16 "DefaultReasonerModel" "needs" "[I", Cond.methodLink RX2 83 yX2_open, Cond.instanceMethod yX2_open, Cond.selects RX2 yX2_open yX2_open, Cond.code yX2_open cX2_open 3 (some .boolean), Cond.fieldLink RX2 19 "DefaultReasonerModel" "justifications" "[I"]
def wsX2_extensionCount : List Cond := .code yX2_extensionCount cX2_extensionCount 1 (some .int) :: ((wsX2_extensionCount_r1 ++ wsX2_extensionCount_r2) ++ wsX20)
def wsX2_asks_r1 : List Cond := [Cond.fieldLink RX2 92 "DefaultReasonerModel" "count" "I", Cond.fieldLink RX2 38 "DefaultReasonerModel" "thrown" "I", Cond.methodLink RX2 95 yX2_find, Cond.instanceMethod yX2_find, Cond.selects RX2 yX2_find yX2_find, Cond.initialized RX2, Cond.code yX2_find cX2_find 4 none, Cond.fieldLink RX2 43 "DefaultReasonerModel" "defaults" "I", Cond.fieldLink RX2 32 "DefaultReasonerModel" "all" "[I", Cond.methodLink RX2 80 yX2_consequences, Cond.instanceMethod yX2_consequences, Cond.selects RX2 yX2_consequences yX2_consequences, Cond.code yX2_consequences cX2_consequences 4 (some .int), Cond.fieldLink RX2 50 "DefaultReasonerModel" "facts" "I", Cond.fieldLink RX2 22 "DefaultReasonerModel" "conclusions" "[I", Cond.methodLink RX2 77 yX2_close, Cond.instanceMethod yX2_close, Cond.selects RX2 yX2_close yX2_close, Cond.code yX2_close cX2_close 5 (some .int), Cond.fieldLink RX2 60 "DefaultReasonerModel" "rules" "I", Cond.fieldLink RX2 9 "DefaultReasonerModel" "bodies" "[I", Cond.fieldLink RX2 13 "DefaultReasonerModel" "heads" "[I", Cond.constant RX2 42 (65535), Cond.methodLink RX2 74 yX2_complements]
def wsX2_asks_r2 : List Cond := [Cond.static yX2_complements, Cond.code yX2_complements cX2_complements 1 (some .int), Cond.methodLink RX2 86 yX2_generators, Cond.instanceMethod yX2_generators, Cond.selects RX2 yX2_generators yX2_generators, Cond.code yX2_generators cX2_generators 6 (some .int), Cond.fieldLink RX2 16 "DefaultReasonerModel" "needs" "[I", Cond.methodLink RX2 83 yX2_open, Cond.instanceMethod yX2_open, Cond.selects RX2 yX2_open yX2_open, Cond.code yX2_open cX2_open 3 (some .boolean), Cond.fieldLink RX2 19 "DefaultReasonerModel" "justifications" "[I"]
def wsX2_asks : List Cond := .code yX2_asks cX2_asks 2 (some .boolean) :: ((wsX2_asks_r1 ++ wsX2_asks_r2) ++ wsX20)
def wsX2_extension_r1 : List Cond := [Cond.fieldLink RX2 32 "DefaultReasonerModel" "all" "[I", Cond.methodLink RX2 114 yX2_asks, Cond.instanceMethod yX2_asks, Cond.selects RX2 yX2_asks yX2_asks, Cond.initialized RX2, Cond.code yX2_asks cX2_asks 2 (some .boolean), Cond.fieldLink RX2 92 "DefaultReasonerModel" "count" "I", Cond.fieldLink RX2 38 "DefaultReasonerModel" "thrown" "I", Cond.methodLink RX2 95 yX2_find, Cond.instanceMethod yX2_find, Cond.selects RX2 yX2_find yX2_find, Cond.code yX2_find cX2_find 4 none, Cond.fieldLink RX2 43 "DefaultReasonerModel" "defaults" "I", Cond.methodLink RX2 80 yX2_consequences, Cond.instanceMethod yX2_consequences, Cond.selects RX2 yX2_consequences yX2_consequences, Cond.code yX2_consequences cX2_consequences 4 (some .int), Cond.fieldLink RX2 50 "DefaultReasonerModel" "facts" "I", Cond.fieldLink RX2 22 "DefaultReasonerModel" "conclusions" "[I", Cond.methodLink RX2 77 yX2_close, Cond.instanceMethod yX2_close, Cond.selects RX2 yX2_close yX2_close, Cond.code yX2_close cX2_close 5 (some .int), Cond.fieldLink RX2 60 "DefaultReasonerModel" "rules" "I"]
def wsX2_extension_r2 : List Cond := [Cond.fieldLink RX2 9 "DefaultReasonerModel" "bodies" "[I", Cond.fieldLink RX2 13 "DefaultReasonerModel" "heads" "[I", Cond.constant RX2 42 (65535), Cond.methodLink RX2 74 yX2_complements, Cond.static yX2_complements, Cond.code yX2_complements cX2_complements 1 (some .int), Cond.methodLink RX2 86 yX2_generators, Cond.instanceMethod yX2_generators, Cond.selects RX2 yX2_generators yX2_generators, Cond.code yX2_generators cX2_generators 6 (some .int), Cond.fieldLink RX2 16 "DefaultReasonerModel" "needs" "[I", Cond.methodLink RX2 83 yX2_open, Cond.instanceMethod yX2_open, Cond.selects RX2 yX2_open yX2_open, Cond.code yX2_open cX2_open 3 (some .boolean), Cond.fieldLink RX2 19 "DefaultReasonerModel" "justifications" "[I"]
def wsX2_extension : List Cond := .code yX2_extension cX2_extension 2 (some .int) :: ((wsX2_extension_r1 ++ wsX2_extension_r2) ++ wsX20)
def wsX2_isPreferred_r1 : List Cond := [Cond.fieldLink RX2 35 "DefaultReasonerModel" "arePreferred" "[Z", Cond.methodLink RX2 114 yX2_asks, Cond.instanceMethod yX2_asks, Cond.selects RX2 yX2_asks yX2_asks, Cond.initialized RX2, Cond.code yX2_asks cX2_asks 2 (some .boolean), Cond.fieldLink RX2 92 "DefaultReasonerModel" "count" "I", Cond.fieldLink RX2 38 "DefaultReasonerModel" "thrown" "I", Cond.methodLink RX2 95 yX2_find, Cond.instanceMethod yX2_find, Cond.selects RX2 yX2_find yX2_find, Cond.code yX2_find cX2_find 4 none, Cond.fieldLink RX2 43 "DefaultReasonerModel" "defaults" "I", Cond.fieldLink RX2 32 "DefaultReasonerModel" "all" "[I", Cond.methodLink RX2 80 yX2_consequences, Cond.instanceMethod yX2_consequences, Cond.selects RX2 yX2_consequences yX2_consequences, Cond.code yX2_consequences cX2_consequences 4 (some .int), Cond.fieldLink RX2 50 "DefaultReasonerModel" "facts" "I", Cond.fieldLink RX2 22 "DefaultReasonerModel" "conclusions" "[I", Cond.methodLink RX2 77 yX2_close, Cond.instanceMethod yX2_close, Cond.selects RX2 yX2_close yX2_close, Cond.code yX2_close cX2_close 5 (some .int)]
def wsX2_isPreferred_r2 : List Cond := [Cond.fieldLink RX2 60 "DefaultReasonerModel" "rules" "I", Cond.fieldLink RX2 9 "DefaultReasonerModel" "bodies" "[I", Cond.fieldLink RX2 13 "DefaultReasonerModel" "heads" "[I", Cond.constant RX2 42 (65535), Cond.methodLink RX2 74 yX2_complements, Cond.static yX2_complements, Cond.code yX2_complements cX2_complements 1 (some .int), Cond.methodLink RX2 86 yX2_generators, Cond.instanceMethod yX2_generators, Cond.selects RX2 yX2_generators yX2_generators, Cond.code yX2_generators cX2_generators 6 (some .int), Cond.fieldLink RX2 16 "DefaultReasonerModel" "needs" "[I", Cond.methodLink RX2 83 yX2_open, Cond.instanceMethod yX2_open, Cond.selects RX2 yX2_open yX2_open, Cond.code yX2_open cX2_open 3 (some .boolean), Cond.fieldLink RX2 19 "DefaultReasonerModel" "justifications" "[I", Cond.methodLink RX2 117 yX2_findPreferred, Cond.instanceMethod yX2_findPreferred, Cond.selects RX2 yX2_findPreferred yX2_findPreferred, Cond.code yX2_findPreferred cX2_findPreferred 5 none, Cond.arrayClass .int, Cond.methodLink RX2 98 yX2_orders, Cond.instanceMethod yX2_orders]
def wsX2_isPreferred_r3 : List Cond := [Cond.selects RX2 yX2_orders yX2_orders, Cond.code yX2_orders cX2_orders 3 (some .int), Cond.methodLink RX2 102 yX2_setOrder, Cond.instanceMethod yX2_setOrder, Cond.selects RX2 yX2_setOrder yX2_setOrder, Cond.code yX2_setOrder cX2_setOrder 9 none, Cond.arrayClass .boolean, Cond.methodLink RX2 106 yX2_respects, Cond.instanceMethod yX2_respects, Cond.selects RX2 yX2_respects yX2_respects, Cond.code yX2_respects cX2_respects 4 (some .boolean), Cond.methodLink RX2 70 yX2_before, Cond.instanceMethod yX2_before, Cond.selects RX2 yX2_before yX2_before, Cond.code yX2_before cX2_before 3 (some .boolean), Cond.methodLink RX2 63 yX2_leads, Cond.instanceMethod yX2_leads, Cond.selects RX2 yX2_leads yX2_leads, Cond.code yX2_leads cX2_leads 5 (some .boolean), Cond.fieldLink RX2 25 "DefaultReasonerModel" "told" "[Z", Cond.methodLink RX2 110 yX2_walk, Cond.instanceMethod yX2_walk, Cond.selects RX2 yX2_walk yX2_walk, Cond.code yX2_walk cX2_walk 5 (some .int)]
def wsX2_isPreferred_r4 : List Cond := [Cond.methodLink RX2 123 yX2_first, Cond.instanceMethod yX2_first, Cond.selects RX2 yX2_first yX2_first, Cond.code yX2_first cX2_first 5 (some .int)]
def wsX2_isPreferred : List Cond := .code yX2_isPreferred cX2_isPreferred 2 (some .boolean) :: ((wsX2_isPreferred_r1 ++ (wsX2_isPreferred_r2 ++ (wsX2_isPreferred_r3 ++ wsX2_isPreferred_r4))) ++ wsX20)
def wsX2_preferred_r1 : List Cond := [Cond.fieldLink RX2 92 "DefaultReasonerModel" "count" "I", Cond.fieldLink RX2 35 "DefaultReasonerModel" "arePreferred" "[Z", Cond.methodLink RX2 117 yX2_findPreferred, Cond.instanceMethod yX2_findPreferred, Cond.selects RX2 yX2_findPreferred yX2_findPreferred, Cond.initialized RX2, Cond.code yX2_findPreferred cX2_findPreferred 5 none, Cond.arrayClass .int, Cond.fieldLink RX2 32 "DefaultReasonerModel" "all" "[I", Cond.methodLink RX2 95 yX2_find, Cond.instanceMethod yX2_find, Cond.selects RX2 yX2_find yX2_find, Cond.code yX2_find cX2_find 4 none, Cond.fieldLink RX2 43 "DefaultReasonerModel" "defaults" "I", Cond.methodLink RX2 80 yX2_consequences, Cond.instanceMethod yX2_consequences, Cond.selects RX2 yX2_consequences yX2_consequences, Cond.code yX2_consequences cX2_consequences 4 (some .int), Cond.fieldLink RX2 50 "DefaultReasonerModel" "facts" "I", Cond.fieldLink RX2 22 "DefaultReasonerModel" "conclusions" "[I", Cond.methodLink RX2 77 yX2_close, Cond.instanceMethod yX2_close, Cond.selects RX2 yX2_close yX2_close, Cond.code yX2_close cX2_close 5 (some .int)]
def wsX2_preferred_r2 : List Cond := [Cond.fieldLink RX2 60 "DefaultReasonerModel" "rules" "I", Cond.fieldLink RX2 9 "DefaultReasonerModel" "bodies" "[I", Cond.fieldLink RX2 13 "DefaultReasonerModel" "heads" "[I", Cond.constant RX2 42 (65535), Cond.methodLink RX2 74 yX2_complements, Cond.static yX2_complements, Cond.code yX2_complements cX2_complements 1 (some .int), Cond.methodLink RX2 86 yX2_generators, Cond.instanceMethod yX2_generators, Cond.selects RX2 yX2_generators yX2_generators, Cond.code yX2_generators cX2_generators 6 (some .int), Cond.fieldLink RX2 16 "DefaultReasonerModel" "needs" "[I", Cond.methodLink RX2 83 yX2_open, Cond.instanceMethod yX2_open, Cond.selects RX2 yX2_open yX2_open, Cond.code yX2_open cX2_open 3 (some .boolean), Cond.fieldLink RX2 19 "DefaultReasonerModel" "justifications" "[I", Cond.methodLink RX2 98 yX2_orders, Cond.instanceMethod yX2_orders, Cond.selects RX2 yX2_orders yX2_orders, Cond.code yX2_orders cX2_orders 3 (some .int), Cond.methodLink RX2 102 yX2_setOrder, Cond.instanceMethod yX2_setOrder, Cond.selects RX2 yX2_setOrder yX2_setOrder]
def wsX2_preferred_r3 : List Cond := [Cond.code yX2_setOrder cX2_setOrder 9 none, Cond.arrayClass .boolean, Cond.methodLink RX2 106 yX2_respects, Cond.instanceMethod yX2_respects, Cond.selects RX2 yX2_respects yX2_respects, Cond.code yX2_respects cX2_respects 4 (some .boolean), Cond.methodLink RX2 70 yX2_before, Cond.instanceMethod yX2_before, Cond.selects RX2 yX2_before yX2_before, Cond.code yX2_before cX2_before 3 (some .boolean), Cond.methodLink RX2 63 yX2_leads, Cond.instanceMethod yX2_leads, Cond.selects RX2 yX2_leads yX2_leads, Cond.code yX2_leads cX2_leads 5 (some .boolean), Cond.fieldLink RX2 25 "DefaultReasonerModel" "told" "[Z", Cond.methodLink RX2 110 yX2_walk, Cond.instanceMethod yX2_walk, Cond.selects RX2 yX2_walk yX2_walk, Cond.code yX2_walk cX2_walk 5 (some .int), Cond.methodLink RX2 123 yX2_first, Cond.instanceMethod yX2_first, Cond.selects RX2 yX2_first yX2_first, Cond.code yX2_first cX2_first 5 (some .int)]
def wsX2_preferred : List Cond := .code yX2_preferred cX2_preferred 3 (some .int) :: ((wsX2_preferred_r1 ++ (wsX2_preferred_r2 ++ wsX2_preferred_r3)) ++ wsX20)
def wsX2_preferredCount_r1 : List Cond := [Cond.fieldLink RX2 38 "DefaultReasonerModel" "thrown" "I", Cond.methodLink RX2 120 yX2_preferred, Cond.instanceMethod yX2_preferred, Cond.selects RX2 yX2_preferred yX2_preferred, Cond.initialized RX2, Cond.code yX2_preferred cX2_preferred 3 (some .int), Cond.fieldLink RX2 92 "DefaultReasonerModel" "count" "I", Cond.fieldLink RX2 35 "DefaultReasonerModel" "arePreferred" "[Z", Cond.methodLink RX2 117 yX2_findPreferred, Cond.instanceMethod yX2_findPreferred, Cond.selects RX2 yX2_findPreferred yX2_findPreferred, Cond.code yX2_findPreferred cX2_findPreferred 5 none, Cond.arrayClass .int, Cond.fieldLink RX2 32 "DefaultReasonerModel" "all" "[I", Cond.methodLink RX2 95 yX2_find, Cond.instanceMethod yX2_find, Cond.selects RX2 yX2_find yX2_find, Cond.code yX2_find cX2_find 4 none, Cond.fieldLink RX2 43 "DefaultReasonerModel" "defaults" "I", Cond.methodLink RX2 80 yX2_consequences, Cond.instanceMethod yX2_consequences, Cond.selects RX2 yX2_consequences yX2_consequences, Cond.code yX2_consequences cX2_consequences 4 (some .int), Cond.fieldLink RX2 50 "DefaultReasonerModel" "facts" "I"]
def wsX2_preferredCount_r2 : List Cond := [Cond.fieldLink RX2 22 "DefaultReasonerModel" "conclusions" "[I", Cond.methodLink RX2 77 yX2_close, Cond.instanceMethod yX2_close, Cond.selects RX2 yX2_close yX2_close, Cond.code yX2_close cX2_close 5 (some .int), Cond.fieldLink RX2 60 "DefaultReasonerModel" "rules" "I", Cond.fieldLink RX2 9 "DefaultReasonerModel" "bodies" "[I", Cond.fieldLink RX2 13 "DefaultReasonerModel" "heads" "[I", Cond.constant RX2 42 (65535), Cond.methodLink RX2 74 yX2_complements, Cond.static yX2_complements, Cond.code yX2_complements cX2_complements 1 (some .int), Cond.methodLink RX2 86 yX2_generators, Cond.instanceMethod yX2_generators, Cond.selects RX2 yX2_generators yX2_generators, Cond.code yX2_generators cX2_generators 6 (some .int), Cond.fieldLink RX2 16 "DefaultReasonerModel" "needs" "[I", Cond.methodLink RX2 83 yX2_open, Cond.instanceMethod yX2_open, Cond.selects RX2 yX2_open yX2_open, Cond.code yX2_open cX2_open 3 (some .boolean), Cond.fieldLink RX2 19 "DefaultReasonerModel" "justifications" "[I", Cond.methodLink RX2 98 yX2_orders, Cond.instanceMethod yX2_orders]
def wsX2_preferredCount_r3 : List Cond := [Cond.selects RX2 yX2_orders yX2_orders, Cond.code yX2_orders cX2_orders 3 (some .int), Cond.methodLink RX2 102 yX2_setOrder, Cond.instanceMethod yX2_setOrder, Cond.selects RX2 yX2_setOrder yX2_setOrder, Cond.code yX2_setOrder cX2_setOrder 9 none, Cond.arrayClass .boolean, Cond.methodLink RX2 106 yX2_respects, Cond.instanceMethod yX2_respects, Cond.selects RX2 yX2_respects yX2_respects, Cond.code yX2_respects cX2_respects 4 (some .boolean), Cond.methodLink RX2 70 yX2_before, Cond.instanceMethod yX2_before, Cond.selects RX2 yX2_before yX2_before, Cond.code yX2_before cX2_before 3 (some .boolean), Cond.methodLink RX2 63 yX2_leads, Cond.instanceMethod yX2_leads, Cond.selects RX2 yX2_leads yX2_leads, Cond.code yX2_leads cX2_leads 5 (some .boolean), Cond.fieldLink RX2 25 "DefaultReasonerModel" "told" "[Z", Cond.methodLink RX2 110 yX2_walk, Cond.instanceMethod yX2_walk, Cond.selects RX2 yX2_walk yX2_walk, Cond.code yX2_walk cX2_walk 5 (some .int)]
def wsX2_preferredCount_r4 : List Cond := [Cond.methodLink RX2 123 yX2_first, Cond.instanceMethod yX2_first, Cond.selects RX2 yX2_first yX2_first, Cond.code yX2_first cX2_first 5 (some .int)]
def wsX2_preferredCount : List Cond := .code yX2_preferredCount cX2_preferredCount 1 (some .int) :: ((wsX2_preferredCount_r1 ++ (wsX2_preferredCount_r2 ++ (wsX2_preferredCount_r3 ++ wsX2_preferredCount_r4))) ++ wsX20)
def wsX2_supports_r1 : List Cond := [Cond.fieldLink RX2 38 "DefaultReasonerModel" "thrown" "I", Cond.fieldLink RX2 92 "DefaultReasonerModel" "count" "I", Cond.fieldLink RX2 32 "DefaultReasonerModel" "all" "[I", Cond.methodLink RX2 46 yX2_isLiteral, Cond.static yX2_isLiteral, Cond.initialized RX2, Cond.code yX2_isLiteral cX2_isLiteral 1 (some .boolean), Cond.methodLink RX2 53 yX2_fail, Cond.instanceMethod yX2_fail, Cond.selects RX2 yX2_fail yX2_fail, Cond.code yX2_fail cX2_fail 2 (some .int), Cond.methodLink RX2 95 yX2_find, Cond.instanceMethod yX2_find, Cond.selects RX2 yX2_find yX2_find, Cond.code yX2_find cX2_find 4 none, Cond.fieldLink RX2 43 "DefaultReasonerModel" "defaults" "I", Cond.methodLink RX2 80 yX2_consequences, Cond.instanceMethod yX2_consequences, Cond.selects RX2 yX2_consequences yX2_consequences, Cond.code yX2_consequences cX2_consequences 4 (some .int), Cond.fieldLink RX2 50 "DefaultReasonerModel" "facts" "I", Cond.fieldLink RX2 22 "DefaultReasonerModel" "conclusions" "[I", Cond.methodLink RX2 77 yX2_close, Cond.instanceMethod yX2_close]
def wsX2_supports_r2 : List Cond := [Cond.selects RX2 yX2_close yX2_close, Cond.code yX2_close cX2_close 5 (some .int), Cond.fieldLink RX2 60 "DefaultReasonerModel" "rules" "I", Cond.fieldLink RX2 9 "DefaultReasonerModel" "bodies" "[I", Cond.fieldLink RX2 13 "DefaultReasonerModel" "heads" "[I", Cond.constant RX2 42 (65535), Cond.methodLink RX2 74 yX2_complements, Cond.static yX2_complements, Cond.code yX2_complements cX2_complements 1 (some .int), Cond.methodLink RX2 86 yX2_generators, Cond.instanceMethod yX2_generators, Cond.selects RX2 yX2_generators yX2_generators, Cond.code yX2_generators cX2_generators 6 (some .int), Cond.fieldLink RX2 16 "DefaultReasonerModel" "needs" "[I", Cond.methodLink RX2 83 yX2_open, Cond.instanceMethod yX2_open, Cond.selects RX2 yX2_open yX2_open, Cond.code yX2_open cX2_open 3 (some .boolean), Cond.fieldLink RX2 19 "DefaultReasonerModel" "justifications" "[I"]
def wsX2_supports : List Cond := .code yX2_supports cX2_supports 4 (some .int) :: ((wsX2_supports_r1 ++ wsX2_supports_r2) ++ wsX20)
def wsX2_common_r1 : List Cond := [Cond.fieldLink RX2 38 "DefaultReasonerModel" "thrown" "I", Cond.constant RX2 42 (65535), Cond.fieldLink RX2 92 "DefaultReasonerModel" "count" "I", Cond.fieldLink RX2 35 "DefaultReasonerModel" "arePreferred" "[Z", Cond.fieldLink RX2 32 "DefaultReasonerModel" "all" "[I", Cond.methodLink RX2 117 yX2_findPreferred, Cond.instanceMethod yX2_findPreferred, Cond.selects RX2 yX2_findPreferred yX2_findPreferred, Cond.initialized RX2, Cond.code yX2_findPreferred cX2_findPreferred 5 none, Cond.arrayClass .int, Cond.methodLink RX2 95 yX2_find, Cond.instanceMethod yX2_find, Cond.selects RX2 yX2_find yX2_find, Cond.code yX2_find cX2_find 4 none, Cond.fieldLink RX2 43 "DefaultReasonerModel" "defaults" "I", Cond.methodLink RX2 80 yX2_consequences, Cond.instanceMethod yX2_consequences, Cond.selects RX2 yX2_consequences yX2_consequences, Cond.code yX2_consequences cX2_consequences 4 (some .int), Cond.fieldLink RX2 50 "DefaultReasonerModel" "facts" "I", Cond.fieldLink RX2 22 "DefaultReasonerModel" "conclusions" "[I", Cond.methodLink RX2 77 yX2_close, Cond.instanceMethod yX2_close]
def wsX2_common_r2 : List Cond := [Cond.selects RX2 yX2_close yX2_close, Cond.code yX2_close cX2_close 5 (some .int), Cond.fieldLink RX2 60 "DefaultReasonerModel" "rules" "I", Cond.fieldLink RX2 9 "DefaultReasonerModel" "bodies" "[I", Cond.fieldLink RX2 13 "DefaultReasonerModel" "heads" "[I", Cond.methodLink RX2 74 yX2_complements, Cond.static yX2_complements, Cond.code yX2_complements cX2_complements 1 (some .int), Cond.methodLink RX2 86 yX2_generators, Cond.instanceMethod yX2_generators, Cond.selects RX2 yX2_generators yX2_generators, Cond.code yX2_generators cX2_generators 6 (some .int), Cond.fieldLink RX2 16 "DefaultReasonerModel" "needs" "[I", Cond.methodLink RX2 83 yX2_open, Cond.instanceMethod yX2_open, Cond.selects RX2 yX2_open yX2_open, Cond.code yX2_open cX2_open 3 (some .boolean), Cond.fieldLink RX2 19 "DefaultReasonerModel" "justifications" "[I", Cond.methodLink RX2 98 yX2_orders, Cond.instanceMethod yX2_orders, Cond.selects RX2 yX2_orders yX2_orders, Cond.code yX2_orders cX2_orders 3 (some .int), Cond.methodLink RX2 102 yX2_setOrder, Cond.instanceMethod yX2_setOrder]
def wsX2_common_r3 : List Cond := [Cond.selects RX2 yX2_setOrder yX2_setOrder, Cond.code yX2_setOrder cX2_setOrder 9 none, Cond.arrayClass .boolean, Cond.methodLink RX2 106 yX2_respects, Cond.instanceMethod yX2_respects, Cond.selects RX2 yX2_respects yX2_respects, Cond.code yX2_respects cX2_respects 4 (some .boolean), Cond.methodLink RX2 70 yX2_before, Cond.instanceMethod yX2_before, Cond.selects RX2 yX2_before yX2_before, Cond.code yX2_before cX2_before 3 (some .boolean), Cond.methodLink RX2 63 yX2_leads, Cond.instanceMethod yX2_leads, Cond.selects RX2 yX2_leads yX2_leads, Cond.code yX2_leads cX2_leads 5 (some .boolean), Cond.fieldLink RX2 25 "DefaultReasonerModel" "told" "[Z", Cond.methodLink RX2 110 yX2_walk, Cond.instanceMethod yX2_walk, Cond.selects RX2 yX2_walk yX2_walk, Cond.code yX2_walk cX2_walk 5 (some .int), Cond.methodLink RX2 123 yX2_first, Cond.instanceMethod yX2_first, Cond.selects RX2 yX2_first yX2_first, Cond.code yX2_first cX2_first 5 (some .int)]
def wsX2_common : List Cond := .code yX2_common cX2_common 4 (some .int) :: ((wsX2_common_r1 ++ (wsX2_common_r2 ++ wsX2_common_r3)) ++ wsX20)
def wsX2_share_r1 : List Cond := [Cond.fieldLink RX2 38 "DefaultReasonerModel" "thrown" "I", Cond.fieldLink RX2 92 "DefaultReasonerModel" "count" "I", Cond.fieldLink RX2 35 "DefaultReasonerModel" "arePreferred" "[Z", Cond.fieldLink RX2 32 "DefaultReasonerModel" "all" "[I", Cond.methodLink RX2 46 yX2_isLiteral, Cond.static yX2_isLiteral, Cond.initialized RX2, Cond.code yX2_isLiteral cX2_isLiteral 1 (some .boolean), Cond.methodLink RX2 120 yX2_preferred, Cond.instanceMethod yX2_preferred, Cond.selects RX2 yX2_preferred yX2_preferred, Cond.code yX2_preferred cX2_preferred 3 (some .int), Cond.methodLink RX2 117 yX2_findPreferred, Cond.instanceMethod yX2_findPreferred, Cond.selects RX2 yX2_findPreferred yX2_findPreferred, Cond.code yX2_findPreferred cX2_findPreferred 5 none, Cond.arrayClass .int, Cond.methodLink RX2 95 yX2_find, Cond.instanceMethod yX2_find, Cond.selects RX2 yX2_find yX2_find, Cond.code yX2_find cX2_find 4 none, Cond.fieldLink RX2 43 "DefaultReasonerModel" "defaults" "I", Cond.methodLink RX2 80 yX2_consequences, Cond.instanceMethod yX2_consequences]
def wsX2_share_r2 : List Cond := [Cond.selects RX2 yX2_consequences yX2_consequences, Cond.code yX2_consequences cX2_consequences 4 (some .int), Cond.fieldLink RX2 50 "DefaultReasonerModel" "facts" "I", Cond.fieldLink RX2 22 "DefaultReasonerModel" "conclusions" "[I", Cond.methodLink RX2 77 yX2_close, Cond.instanceMethod yX2_close, Cond.selects RX2 yX2_close yX2_close, Cond.code yX2_close cX2_close 5 (some .int), Cond.fieldLink RX2 60 "DefaultReasonerModel" "rules" "I", Cond.fieldLink RX2 9 "DefaultReasonerModel" "bodies" "[I", Cond.fieldLink RX2 13 "DefaultReasonerModel" "heads" "[I", Cond.constant RX2 42 (65535), Cond.methodLink RX2 74 yX2_complements, Cond.static yX2_complements, Cond.code yX2_complements cX2_complements 1 (some .int), Cond.methodLink RX2 86 yX2_generators, Cond.instanceMethod yX2_generators, Cond.selects RX2 yX2_generators yX2_generators, Cond.code yX2_generators cX2_generators 6 (some .int), Cond.fieldLink RX2 16 "DefaultReasonerModel" "needs" "[I", Cond.methodLink RX2 83 yX2_open, Cond.instanceMethod yX2_open, Cond.selects RX2 yX2_open yX2_open, Cond.code yX2_open cX2_open 3 (some .boolean)]
def wsX2_share_r3 : List Cond := [Cond.fieldLink RX2 19 "DefaultReasonerModel" "justifications" "[I", Cond.methodLink RX2 98 yX2_orders, Cond.instanceMethod yX2_orders, Cond.selects RX2 yX2_orders yX2_orders, Cond.code yX2_orders cX2_orders 3 (some .int), Cond.methodLink RX2 102 yX2_setOrder, Cond.instanceMethod yX2_setOrder, Cond.selects RX2 yX2_setOrder yX2_setOrder, Cond.code yX2_setOrder cX2_setOrder 9 none, Cond.arrayClass .boolean, Cond.methodLink RX2 106 yX2_respects, Cond.instanceMethod yX2_respects, Cond.selects RX2 yX2_respects yX2_respects, Cond.code yX2_respects cX2_respects 4 (some .boolean), Cond.methodLink RX2 70 yX2_before, Cond.instanceMethod yX2_before, Cond.selects RX2 yX2_before yX2_before, Cond.code yX2_before cX2_before 3 (some .boolean), Cond.methodLink RX2 63 yX2_leads, Cond.instanceMethod yX2_leads, Cond.selects RX2 yX2_leads yX2_leads, Cond.code yX2_leads cX2_leads 5 (some .boolean), Cond.fieldLink RX2 25 "DefaultReasonerModel" "told" "[Z", Cond.methodLink RX2 110 yX2_walk]
def wsX2_share_r4 : List Cond := [Cond.instanceMethod yX2_walk, Cond.selects RX2 yX2_walk yX2_walk, Cond.code yX2_walk cX2_walk 5 (some .int), Cond.methodLink RX2 123 yX2_first, Cond.instanceMethod yX2_first, Cond.selects RX2 yX2_first yX2_first, Cond.code yX2_first cX2_first 5 (some .int)]
def wsX2_share : List Cond := .code yX2_share cX2_share 5 (some .double) :: ((wsX2_share_r1 ++ (wsX2_share_r2 ++ (wsX2_share_r3 ++ wsX2_share_r4))) ++ wsX20)
def wsX2_isOrder : List Cond := .code yX2_isOrder cX2_isOrder 2 (some .boolean) :: ([.fieldLink RX2 38 "DefaultReasonerModel" "thrown" "I", .methodLink RX2 98 yX2_orders, .instanceMethod yX2_orders, .selects RX2 yX2_orders yX2_orders, .initialized RX2, .code yX2_orders cX2_orders 3 (some .int), .fieldLink RX2 43 "DefaultReasonerModel" "defaults" "I"] ++ wsX20)
def wsX2_walk__r1 : List Cond := [Cond.arrayClass .int, Cond.fieldLink RX2 130 "DefaultReasonerModel" "applied" "I", Cond.fieldLink RX2 29 "DefaultReasonerModel" "path" "[I", Cond.methodLink RX2 127 yX2_isOrder, Cond.instanceMethod yX2_isOrder, Cond.selects RX2 yX2_isOrder yX2_isOrder, Cond.initialized RX2, Cond.code yX2_isOrder cX2_isOrder 2 (some .boolean), Cond.fieldLink RX2 38 "DefaultReasonerModel" "thrown" "I", Cond.methodLink RX2 98 yX2_orders, Cond.instanceMethod yX2_orders, Cond.selects RX2 yX2_orders yX2_orders, Cond.code yX2_orders cX2_orders 3 (some .int), Cond.fieldLink RX2 43 "DefaultReasonerModel" "defaults" "I", Cond.methodLink RX2 102 yX2_setOrder, Cond.instanceMethod yX2_setOrder, Cond.selects RX2 yX2_setOrder yX2_setOrder, Cond.code yX2_setOrder cX2_setOrder 9 none, Cond.arrayClass .boolean, Cond.methodLink RX2 110 yX2_walk, Cond.instanceMethod yX2_walk, Cond.selects RX2 yX2_walk yX2_walk, Cond.code yX2_walk cX2_walk 5 (some .int), Cond.fieldLink RX2 50 "DefaultReasonerModel" "facts" "I"]
def wsX2_walk__r2 : List Cond := [Cond.fieldLink RX2 22 "DefaultReasonerModel" "conclusions" "[I", Cond.methodLink RX2 77 yX2_close, Cond.instanceMethod yX2_close, Cond.selects RX2 yX2_close yX2_close, Cond.code yX2_close cX2_close 5 (some .int), Cond.fieldLink RX2 60 "DefaultReasonerModel" "rules" "I", Cond.fieldLink RX2 9 "DefaultReasonerModel" "bodies" "[I", Cond.fieldLink RX2 13 "DefaultReasonerModel" "heads" "[I", Cond.constant RX2 42 (65535), Cond.methodLink RX2 74 yX2_complements, Cond.static yX2_complements, Cond.code yX2_complements cX2_complements 1 (some .int), Cond.methodLink RX2 123 yX2_first, Cond.instanceMethod yX2_first, Cond.selects RX2 yX2_first yX2_first, Cond.code yX2_first cX2_first 5 (some .int), Cond.fieldLink RX2 16 "DefaultReasonerModel" "needs" "[I", Cond.methodLink RX2 83 yX2_open, Cond.instanceMethod yX2_open, Cond.selects RX2 yX2_open yX2_open, Cond.code yX2_open cX2_open 3 (some .boolean), Cond.fieldLink RX2 19 "DefaultReasonerModel" "justifications" "[I"]
def wsX2_walk_ : List Cond := .code yX2_walk_ cX2_walk_ 6 (some .int) :: ((wsX2_walk__r1 ++ wsX2_walk__r2) ++ wsX20)
def wsX2_appliedCount : List Cond := .code yX2_appliedCount cX2_appliedCount 1 (some .int) :: ([.fieldLink RX2 38 "DefaultReasonerModel" "thrown" "I", .fieldLink RX2 130 "DefaultReasonerModel" "applied" "I"] ++ wsX20)
def wsX2_applied : List Cond := .code yX2_applied cX2_applied 2 (some .int) :: ([.fieldLink RX2 38 "DefaultReasonerModel" "thrown" "I", .fieldLink RX2 130 "DefaultReasonerModel" "applied" "I", .fieldLink RX2 29 "DefaultReasonerModel" "path" "[I", .methodLink RX2 53 yX2_fail, .instanceMethod yX2_fail, .selects RX2 yX2_fail yX2_fail, .initialized RX2, .code yX2_fail cX2_fail 2 (some .int)] ++ wsX20)
def wsX2_respects__r1 : List Cond := [Cond.arrayClass .int, Cond.methodLink RX2 127 yX2_isOrder, Cond.instanceMethod yX2_isOrder, Cond.selects RX2 yX2_isOrder yX2_isOrder, Cond.initialized RX2, Cond.code yX2_isOrder cX2_isOrder 2 (some .boolean), Cond.fieldLink RX2 38 "DefaultReasonerModel" "thrown" "I", Cond.methodLink RX2 98 yX2_orders, Cond.instanceMethod yX2_orders, Cond.selects RX2 yX2_orders yX2_orders, Cond.code yX2_orders cX2_orders 3 (some .int), Cond.fieldLink RX2 43 "DefaultReasonerModel" "defaults" "I", Cond.methodLink RX2 102 yX2_setOrder, Cond.instanceMethod yX2_setOrder, Cond.selects RX2 yX2_setOrder yX2_setOrder, Cond.code yX2_setOrder cX2_setOrder 9 none, Cond.arrayClass .boolean, Cond.methodLink RX2 106 yX2_respects, Cond.instanceMethod yX2_respects, Cond.selects RX2 yX2_respects yX2_respects, Cond.code yX2_respects cX2_respects 4 (some .boolean), Cond.methodLink RX2 70 yX2_before, Cond.instanceMethod yX2_before, Cond.selects RX2 yX2_before yX2_before]
def wsX2_respects__r2 : List Cond := [Cond.code yX2_before cX2_before 3 (some .boolean), Cond.methodLink RX2 63 yX2_leads, Cond.instanceMethod yX2_leads, Cond.selects RX2 yX2_leads yX2_leads, Cond.code yX2_leads cX2_leads 5 (some .boolean), Cond.fieldLink RX2 25 "DefaultReasonerModel" "told" "[Z"]
def wsX2_respects_ : List Cond := .code yX2_respects_ cX2_respects_ 3 (some .boolean) :: ((wsX2_respects__r1 ++ wsX2_respects__r2) ++ wsX20)
def wsX2_digest : List Cond := .code yX2_digest cX2_digest 5 (some .long) :: ([.fieldLink RX2 38 "DefaultReasonerModel" "thrown" "I", .constantLong RX2 133 (3503), .fieldLink RX2 50 "DefaultReasonerModel" "facts" "I", .constantLong RX2 135 (31), .fieldLink RX2 60 "DefaultReasonerModel" "rules" "I", .fieldLink RX2 9 "DefaultReasonerModel" "bodies" "[I", .fieldLink RX2 13 "DefaultReasonerModel" "heads" "[I", .fieldLink RX2 43 "DefaultReasonerModel" "defaults" "I", .fieldLink RX2 16 "DefaultReasonerModel" "needs" "[I", .fieldLink RX2 19 "DefaultReasonerModel" "justifications" "[I", .fieldLink RX2 22 "DefaultReasonerModel" "conclusions" "[I", .fieldLink RX2 130 "DefaultReasonerModel" "applied" "I", .fieldLink RX2 29 "DefaultReasonerModel" "path" "[I", .methodLink RX2 70 yX2_before, .instanceMethod yX2_before, .selects RX2 yX2_before yX2_before, .initialized RX2, .code yX2_before cX2_before 3 (some .boolean), .methodLink RX2 63 yX2_leads, .instanceMethod yX2_leads, .selects RX2 yX2_leads yX2_leads, .code yX2_leads cX2_leads 5 (some .boolean), .fieldLink RX2 25 "DefaultReasonerModel" "told" "[Z"] ++ wsX20)
def wsL_setFact : List Cond := .codeWith yL_setFact cL_setFact 5 (some .int) [(0, 17, 20, 13)] :: ([.classLink RL 13 "java/lang/IndexOutOfBoundsException", .methodLink RL 7 yX1_setFact, .instanceMethod yX1_setFact, .selects RX1 yX1_setFact yX1_setFact, .initialized RX1, .code yX1_setFact cX1_setFact 4 (some .boolean), .fieldLink RX1 55 "DefaultReasoner" "factSet" "I", .methodLink RX1 51 yX1_checkLiteral, .static yX1_checkLiteral, .code yX1_checkLiteral cX1_checkLiteral 1 none, .classLink RX1 155 "java/lang/IndexOutOfBoundsException", .initialized "java/lang/IndexOutOfBoundsException", .methodLink RX1 59 yX1_has, .static yX1_has, .code yX1_has cX1_has 2 (some .boolean), .methodLink RX1 63 yX1_forgetFindings, .instanceMethod yX1_forgetFindings, .selects RX1 yX1_forgetFindings yX1_forgetFindings, .code yX1_forgetFindings cX1_forgetFindings 1 none, .fieldLink RX1 191 "DefaultReasoner" "extensionsKnown" "Z", .fieldLink RX1 106 "DefaultReasoner" "preferredKnown" "Z"] ++ wsX10 ++ (vx_atS RX1 159 "java/lang/IndexOutOfBoundsException" ["java/lang/RuntimeException", "java/lang/Exception"]).filter goodWord)
def wsL_addRule_r1 : List Cond := [Cond.classLink RL 13 "java/lang/IndexOutOfBoundsException", Cond.classLink RL 19 "java/lang/IllegalArgumentException", Cond.classLink RL 21 "java/lang/IllegalStateException", Cond.methodLink RL 15 yX1_addRule, Cond.instanceMethod yX1_addRule, Cond.selects RX1 yX1_addRule yX1_addRule, Cond.initialized RX1, Cond.code yX1_addRule cX1_addRule 4 (some .int), Cond.classLink RX1 72 "java/lang/IllegalStateException", Cond.initialized "java/lang/IllegalStateException", Cond.fieldLink RX1 69 "DefaultReasoner" "ruleTotal" "I", Cond.fieldLink RX1 9 "DefaultReasoner" "bodies" "[I", Cond.fieldLink RX1 13 "DefaultReasoner" "heads" "[I", Cond.methodLink RX1 51 yX1_checkLiteral, Cond.static yX1_checkLiteral, Cond.code yX1_checkLiteral cX1_checkLiteral 1 none, Cond.classLink RX1 155 "java/lang/IndexOutOfBoundsException", Cond.initialized "java/lang/IndexOutOfBoundsException", Cond.methodLink RX1 66 yX1_checkSet, Cond.static yX1_checkSet, Cond.code yX1_checkSet cX1_checkSet 1 none, Cond.classLink RX1 97 "java/lang/IllegalArgumentException", Cond.initialized "java/lang/IllegalArgumentException", Cond.constant RX1 142 (65535)]
def wsL_addRule_r2 : List Cond := [Cond.methodLink RX1 63 yX1_forgetFindings, Cond.instanceMethod yX1_forgetFindings, Cond.selects RX1 yX1_forgetFindings yX1_forgetFindings, Cond.code yX1_forgetFindings cX1_forgetFindings 1 none, Cond.fieldLink RX1 191 "DefaultReasoner" "extensionsKnown" "Z", Cond.fieldLink RX1 106 "DefaultReasoner" "preferredKnown" "Z"]
def wsL_addRule : List Cond := .codeWith yL_addRule cL_addRule 5 (some .int) [(0, 10, 13, 13), (0, 10, 17, 19), (0, 10, 21, 21)] :: ((wsL_addRule_r1 ++ wsL_addRule_r2) ++ wsX10 ++ (vx_atS RX1 76 "java/lang/IllegalStateException" ["java/lang/RuntimeException", "java/lang/Exception"]).filter goodWord ++ (vx_atS RX1 159 "java/lang/IndexOutOfBoundsException" ["java/lang/RuntimeException", "java/lang/Exception"]).filter goodWord ++ (vx_atS RX1 101 "java/lang/IllegalArgumentException" ["java/lang/RuntimeException", "java/lang/Exception"]).filter goodWord)
def wsL_addDefault_r1 : List Cond := [Cond.classLink RL 13 "java/lang/IndexOutOfBoundsException", Cond.classLink RL 19 "java/lang/IllegalArgumentException", Cond.classLink RL 21 "java/lang/IllegalStateException", Cond.methodLink RL 23 yX1_addDefault, Cond.instanceMethod yX1_addDefault, Cond.selects RX1 yX1_addDefault yX1_addDefault, Cond.initialized RX1, Cond.code yX1_addDefault cX1_addDefault 5 (some .int), Cond.classLink RX1 72 "java/lang/IllegalStateException", Cond.initialized "java/lang/IllegalStateException", Cond.fieldLink RX1 79 "DefaultReasoner" "defaultTotal" "I", Cond.fieldLink RX1 16 "DefaultReasoner" "prerequisites" "[I", Cond.fieldLink RX1 19 "DefaultReasoner" "justifications" "[I", Cond.fieldLink RX1 22 "DefaultReasoner" "conclusions" "[I", Cond.methodLink RX1 51 yX1_checkLiteral, Cond.static yX1_checkLiteral, Cond.code yX1_checkLiteral cX1_checkLiteral 1 none, Cond.classLink RX1 155 "java/lang/IndexOutOfBoundsException", Cond.initialized "java/lang/IndexOutOfBoundsException", Cond.methodLink RX1 66 yX1_checkSet, Cond.static yX1_checkSet, Cond.code yX1_checkSet cX1_checkSet 1 none, Cond.classLink RX1 97 "java/lang/IllegalArgumentException", Cond.initialized "java/lang/IllegalArgumentException"]
def wsL_addDefault_r2 : List Cond := [Cond.constant RX1 142 (65535), Cond.methodLink RX1 63 yX1_forgetFindings, Cond.instanceMethod yX1_forgetFindings, Cond.selects RX1 yX1_forgetFindings yX1_forgetFindings, Cond.code yX1_forgetFindings cX1_forgetFindings 1 none, Cond.fieldLink RX1 191 "DefaultReasoner" "extensionsKnown" "Z", Cond.fieldLink RX1 106 "DefaultReasoner" "preferredKnown" "Z"]
def wsL_addDefault : List Cond := .codeWith yL_addDefault cL_addDefault 6 (some .int) [(0, 12, 15, 13), (0, 12, 19, 19), (0, 12, 23, 21)] :: ((wsL_addDefault_r1 ++ wsL_addDefault_r2) ++ wsX10 ++ (vx_atS RX1 76 "java/lang/IllegalStateException" ["java/lang/RuntimeException", "java/lang/Exception"]).filter goodWord ++ (vx_atS RX1 159 "java/lang/IndexOutOfBoundsException" ["java/lang/RuntimeException", "java/lang/Exception"]).filter goodWord ++ (vx_atS RX1 101 "java/lang/IllegalArgumentException" ["java/lang/RuntimeException", "java/lang/Exception"]).filter goodWord)
def wsL_dropRule : List Cond := .codeWith yL_dropRule cL_dropRule 3 (some .int) [(0, 8, 11, 21)] :: ([.classLink RL 21 "java/lang/IllegalStateException", .methodLink RL 27 yX1_dropRule, .instanceMethod yX1_dropRule, .selects RX1 yX1_dropRule yX1_dropRule, .initialized RX1, .code yX1_dropRule cX1_dropRule 1 (some .int), .classLink RX1 72 "java/lang/IllegalStateException", .initialized "java/lang/IllegalStateException", .fieldLink RX1 69 "DefaultReasoner" "ruleTotal" "I", .methodLink RX1 63 yX1_forgetFindings, .instanceMethod yX1_forgetFindings, .selects RX1 yX1_forgetFindings yX1_forgetFindings, .code yX1_forgetFindings cX1_forgetFindings 1 none, .fieldLink RX1 191 "DefaultReasoner" "extensionsKnown" "Z", .fieldLink RX1 106 "DefaultReasoner" "preferredKnown" "Z"] ++ wsX10 ++ (vx_atS RX1 76 "java/lang/IllegalStateException" ["java/lang/RuntimeException", "java/lang/Exception"]).filter goodWord)
def wsL_dropDefault_r1 : List Cond := [Cond.classLink RL 21 "java/lang/IllegalStateException", Cond.methodLink RL 31 yX1_dropDefault, Cond.instanceMethod yX1_dropDefault, Cond.selects RX1 yX1_dropDefault yX1_dropDefault, Cond.initialized RX1, Cond.code yX1_dropDefault cX1_dropDefault 1 (some .int), Cond.classLink RX1 72 "java/lang/IllegalStateException", Cond.initialized "java/lang/IllegalStateException", Cond.fieldLink RX1 79 "DefaultReasoner" "defaultTotal" "I", Cond.fieldLink RX1 28 "DefaultReasoner" "priorities" "LDefaultReasoner$Priorities;", Cond.instanceMethod yX0_removeAllWith, Cond.initialized RX0, Cond.selects RX0 yX0_removeAllWith yX0_removeAllWith, Cond.code yX0_removeAllWith cX0_removeAllWith 3 none, Cond.fieldLink RX0 9 "DefaultReasoner$Priorities" "given" "[I", Cond.methodLink RX0 22 yX0_followChains, Cond.instanceMethod yX0_followChains, Cond.selects RX0 yX0_followChains yX0_followChains, Cond.code yX0_followChains cX0_followChains 3 none, Cond.fieldLink RX0 15 "DefaultReasoner$Priorities" "reached" "[I", Cond.static yX1_has, Cond.code yX1_has cX1_has 2 (some .boolean), Cond.methodLink RX1 63 yX1_forgetFindings, Cond.instanceMethod yX1_forgetFindings]
def wsL_dropDefault_r2 : List Cond := [Cond.selects RX1 yX1_forgetFindings yX1_forgetFindings, Cond.code yX1_forgetFindings cX1_forgetFindings 1 none, Cond.fieldLink RX1 191 "DefaultReasoner" "extensionsKnown" "Z", Cond.fieldLink RX1 106 "DefaultReasoner" "preferredKnown" "Z"]
def wsL_dropDefault : List Cond := .codeWith yL_dropDefault cL_dropDefault 3 (some .int) [(0, 8, 11, 21)] :: ((wsL_dropDefault_r1 ++ wsL_dropDefault_r2) ++ wsX10 ++ wsX00 ++ (vx_atS RX1 76 "java/lang/IllegalStateException" ["java/lang/RuntimeException", "java/lang/Exception"]).filter goodWord)
def wsL_prefer_r1 : List Cond := [Cond.classLink RL 13 "java/lang/IndexOutOfBoundsException", Cond.classLink RL 19 "java/lang/IllegalArgumentException", Cond.methodLink RL 34 yX1_prefer, Cond.instanceMethod yX1_prefer, Cond.selects RX1 yX1_prefer yX1_prefer, Cond.initialized RX1, Cond.code yX1_prefer cX1_prefer 4 (some .boolean), Cond.classLink RX1 97 "java/lang/IllegalArgumentException", Cond.initialized "java/lang/IllegalArgumentException", Cond.fieldLink RX1 28 "DefaultReasoner" "priorities" "LDefaultReasoner$Priorities;", Cond.fieldLink RX1 106 "DefaultReasoner" "preferredKnown" "Z", Cond.methodLink RX1 91 yX1_checkDefault, Cond.instanceMethod yX1_checkDefault, Cond.selects RX1 yX1_checkDefault yX1_checkDefault, Cond.code yX1_checkDefault cX1_checkDefault 2 none, Cond.classLink RX1 155 "java/lang/IndexOutOfBoundsException", Cond.initialized "java/lang/IndexOutOfBoundsException", Cond.fieldLink RX1 79 "DefaultReasoner" "defaultTotal" "I", Cond.instanceMethod yX0_comesBefore, Cond.initialized RX0, Cond.selects RX0 yX0_comesBefore yX0_comesBefore, Cond.code yX0_comesBefore cX0_comesBefore 3 (some .boolean), Cond.fieldLink RX0 15 "DefaultReasoner$Priorities" "reached" "[I", Cond.static yX1_has]
def wsL_prefer_r2 : List Cond := [Cond.code yX1_has cX1_has 2 (some .boolean), Cond.instanceMethod yX0_put, Cond.selects RX0 yX0_put yX0_put, Cond.code yX0_put cX0_put 3 none, Cond.fieldLink RX0 9 "DefaultReasoner$Priorities" "given" "[I", Cond.methodLink RX0 22 yX0_followChains, Cond.instanceMethod yX0_followChains, Cond.selects RX0 yX0_followChains yX0_followChains, Cond.code yX0_followChains cX0_followChains 3 none]
def wsL_prefer : List Cond := .codeWith yL_prefer cL_prefer 5 (some .int) [(0, 17, 20, 13), (0, 17, 24, 19)] :: ((wsL_prefer_r1 ++ wsL_prefer_r2) ++ wsX10 ++ wsX00 ++ (vx_atS RX1 101 "java/lang/IllegalArgumentException" ["java/lang/RuntimeException", "java/lang/Exception"]).filter goodWord ++ (vx_atS RX1 159 "java/lang/IndexOutOfBoundsException" ["java/lang/RuntimeException", "java/lang/Exception"]).filter goodWord)
def wsL_isBefore : List Cond := .codeWith yL_isBefore cL_isBefore 5 (some .int) [(0, 17, 20, 13)] :: ([.classLink RL 13 "java/lang/IndexOutOfBoundsException", .methodLink RL 38 yX1_isBefore, .instanceMethod yX1_isBefore, .selects RX1 yX1_isBefore yX1_isBefore, .initialized RX1, .code yX1_isBefore cX1_isBefore 3 (some .boolean), .fieldLink RX1 28 "DefaultReasoner" "priorities" "LDefaultReasoner$Priorities;", .methodLink RX1 91 yX1_checkDefault, .instanceMethod yX1_checkDefault, .selects RX1 yX1_checkDefault yX1_checkDefault, .code yX1_checkDefault cX1_checkDefault 2 none, .classLink RX1 155 "java/lang/IndexOutOfBoundsException", .initialized "java/lang/IndexOutOfBoundsException", .fieldLink RX1 79 "DefaultReasoner" "defaultTotal" "I", .instanceMethod yX0_comesBefore, .initialized RX0, .selects RX0 yX0_comesBefore yX0_comesBefore, .code yX0_comesBefore cX0_comesBefore 3 (some .boolean), .fieldLink RX0 15 "DefaultReasoner$Priorities" "reached" "[I", .static yX1_has, .code yX1_has cX1_has 2 (some .boolean)] ++ wsX10 ++ wsX00 ++ (vx_atS RX1 159 "java/lang/IndexOutOfBoundsException" ["java/lang/RuntimeException", "java/lang/Exception"]).filter goodWord)
def wsL_closure_r1 : List Cond := [Cond.classLink RL 19 "java/lang/IllegalArgumentException", Cond.methodLink RL 41 yX1_closure, Cond.instanceMethod yX1_closure, Cond.selects RX1 yX1_closure yX1_closure, Cond.initialized RX1, Cond.code yX1_closure cX1_closure 2 (some .int), Cond.methodLink RX1 66 yX1_checkSet, Cond.static yX1_checkSet, Cond.code yX1_checkSet cX1_checkSet 1 none, Cond.classLink RX1 97 "java/lang/IllegalArgumentException", Cond.initialized "java/lang/IllegalArgumentException", Cond.constant RX1 142 (65535), Cond.methodLink RX1 117 yX1_closeUp, Cond.instanceMethod yX1_closeUp, Cond.selects RX1 yX1_closeUp yX1_closeUp, Cond.code yX1_closeUp cX1_closeUp 6 (some .int), Cond.fieldLink RX1 69 "DefaultReasoner" "ruleTotal" "I", Cond.fieldLink RX1 9 "DefaultReasoner" "bodies" "[I", Cond.fieldLink RX1 13 "DefaultReasoner" "heads" "[I", Cond.methodLink RX1 185 yX1_contains, Cond.static yX1_contains, Cond.code yX1_contains cX1_contains 2 (some .boolean), Cond.methodLink RX1 188 yX1_complements, Cond.static yX1_complements]
def wsL_closure_r2 : List Cond := [Cond.code yX1_complements cX1_complements 1 (some .int)]
def wsL_closure : List Cond := .codeWith yL_closure cL_closure 4 (some .int) [(0, 9, 12, 19)] :: ((wsL_closure_r1 ++ wsL_closure_r2) ++ wsX10 ++ (vx_atS RX1 101 "java/lang/IllegalArgumentException" ["java/lang/RuntimeException", "java/lang/Exception"]).filter goodWord)
def wsL_isOpen_r1 : List Cond := [Cond.classLink RL 13 "java/lang/IndexOutOfBoundsException", Cond.classLink RL 19 "java/lang/IllegalArgumentException", Cond.methodLink RL 45 yX1_isOpen, Cond.instanceMethod yX1_isOpen, Cond.selects RX1 yX1_isOpen yX1_isOpen, Cond.initialized RX1, Cond.code yX1_isOpen cX1_isOpen 3 (some .boolean), Cond.methodLink RX1 91 yX1_checkDefault, Cond.instanceMethod yX1_checkDefault, Cond.selects RX1 yX1_checkDefault yX1_checkDefault, Cond.code yX1_checkDefault cX1_checkDefault 2 none, Cond.classLink RX1 155 "java/lang/IndexOutOfBoundsException", Cond.initialized "java/lang/IndexOutOfBoundsException", Cond.fieldLink RX1 79 "DefaultReasoner" "defaultTotal" "I", Cond.methodLink RX1 66 yX1_checkSet, Cond.static yX1_checkSet, Cond.code yX1_checkSet cX1_checkSet 1 none, Cond.classLink RX1 97 "java/lang/IllegalArgumentException", Cond.initialized "java/lang/IllegalArgumentException", Cond.constant RX1 142 (65535), Cond.methodLink RX1 121 yX1_opens, Cond.instanceMethod yX1_opens, Cond.selects RX1 yX1_opens yX1_opens, Cond.code yX1_opens cX1_opens 3 (some .boolean)]
def wsL_isOpen_r2 : List Cond := [Cond.fieldLink RX1 19 "DefaultReasoner" "justifications" "[I", Cond.methodLink RX1 188 yX1_complements, Cond.static yX1_complements, Cond.code yX1_complements cX1_complements 1 (some .int)]
def wsL_isOpen : List Cond := .codeWith yL_isOpen cL_isOpen 5 (some .int) [(0, 17, 20, 13), (0, 17, 24, 19)] :: ((wsL_isOpen_r1 ++ wsL_isOpen_r2) ++ wsX10 ++ (vx_atS RX1 159 "java/lang/IndexOutOfBoundsException" ["java/lang/RuntimeException", "java/lang/Exception"]).filter goodWord ++ (vx_atS RX1 101 "java/lang/IllegalArgumentException" ["java/lang/RuntimeException", "java/lang/Exception"]).filter goodWord)
def wsL_generatorsOf_r1 : List Cond := [Cond.classLink RL 19 "java/lang/IllegalArgumentException", Cond.methodLink RL 48 yX1_generatorsOf, Cond.instanceMethod yX1_generatorsOf, Cond.selects RX1 yX1_generatorsOf yX1_generatorsOf, Cond.initialized RX1, Cond.code yX1_generatorsOf cX1_generatorsOf 2 (some .int), Cond.methodLink RX1 66 yX1_checkSet, Cond.static yX1_checkSet, Cond.code yX1_checkSet cX1_checkSet 1 none, Cond.classLink RX1 97 "java/lang/IllegalArgumentException", Cond.initialized "java/lang/IllegalArgumentException", Cond.constant RX1 142 (65535), Cond.methodLink RX1 124 yX1_findExtensions, Cond.instanceMethod yX1_findExtensions, Cond.selects RX1 yX1_findExtensions yX1_findExtensions, Cond.code yX1_findExtensions cX1_findExtensions 3 none, Cond.fieldLink RX1 191 "DefaultReasoner" "extensionsKnown" "Z", Cond.fieldLink RX1 79 "DefaultReasoner" "defaultTotal" "I", Cond.fieldLink RX1 38 "DefaultReasoner" "held" "[I", Cond.fieldLink RX1 55 "DefaultReasoner" "factSet" "I", Cond.fieldLink RX1 41 "DefaultReasoner" "usable" "[I", Cond.fieldLink RX1 130 "DefaultReasoner" "extensionTotal" "I", Cond.methodLink RX1 194 yX1_conclusionsOf, Cond.instanceMethod yX1_conclusionsOf]
def wsL_generatorsOf_r2 : List Cond := [Cond.selects RX1 yX1_conclusionsOf yX1_conclusionsOf, Cond.code yX1_conclusionsOf cX1_conclusionsOf 4 (some .int), Cond.fieldLink RX1 22 "DefaultReasoner" "conclusions" "[I", Cond.methodLink RX1 59 yX1_has, Cond.static yX1_has, Cond.code yX1_has cX1_has 2 (some .boolean), Cond.methodLink RX1 117 yX1_closeUp, Cond.instanceMethod yX1_closeUp, Cond.selects RX1 yX1_closeUp yX1_closeUp, Cond.code yX1_closeUp cX1_closeUp 6 (some .int), Cond.fieldLink RX1 69 "DefaultReasoner" "ruleTotal" "I", Cond.fieldLink RX1 9 "DefaultReasoner" "bodies" "[I", Cond.fieldLink RX1 13 "DefaultReasoner" "heads" "[I", Cond.methodLink RX1 185 yX1_contains, Cond.static yX1_contains, Cond.code yX1_contains cX1_contains 2 (some .boolean), Cond.methodLink RX1 188 yX1_complements, Cond.static yX1_complements, Cond.code yX1_complements cX1_complements 1 (some .int), Cond.methodLink RX1 197 yX1_usableFor, Cond.instanceMethod yX1_usableFor, Cond.selects RX1 yX1_usableFor yX1_usableFor, Cond.code yX1_usableFor cX1_usableFor 4 (some .int), Cond.fieldLink RX1 16 "DefaultReasoner" "prerequisites" "[I"]
def wsL_generatorsOf_r3 : List Cond := [Cond.methodLink RX1 121 yX1_opens, Cond.instanceMethod yX1_opens, Cond.selects RX1 yX1_opens yX1_opens, Cond.code yX1_opens cX1_opens 3 (some .boolean), Cond.fieldLink RX1 19 "DefaultReasoner" "justifications" "[I", Cond.methodLink RX1 127 yX1_generatorsFor, Cond.instanceMethod yX1_generatorsFor, Cond.selects RX1 yX1_generatorsFor yX1_generatorsFor, Cond.code yX1_generatorsFor cX1_generatorsFor 6 (some .int), Cond.methodLink RX1 200 yX1_insertExtension, Cond.instanceMethod yX1_insertExtension, Cond.selects RX1 yX1_insertExtension yX1_insertExtension, Cond.code yX1_insertExtension cX1_insertExtension 3 none, Cond.fieldLink RX1 44 "DefaultReasoner" "extensions" "[I"]
def wsL_generatorsOf : List Cond := .codeWith yL_generatorsOf cL_generatorsOf 4 (some .int) [(0, 9, 12, 19)] :: ((wsL_generatorsOf_r1 ++ (wsL_generatorsOf_r2 ++ wsL_generatorsOf_r3)) ++ wsX10 ++ (vx_atS RX1 101 "java/lang/IllegalArgumentException" ["java/lang/RuntimeException", "java/lang/Exception"]).filter goodWord)
def wsL_isExtension_r1 : List Cond := [Cond.classLink RL 19 "java/lang/IllegalArgumentException", Cond.methodLink RL 51 yX1_isExtension, Cond.instanceMethod yX1_isExtension, Cond.selects RX1 yX1_isExtension yX1_isExtension, Cond.initialized RX1, Cond.code yX1_isExtension cX1_isExtension 2 (some .boolean), Cond.fieldLink RX1 38 "DefaultReasoner" "held" "[I", Cond.methodLink RX1 66 yX1_checkSet, Cond.static yX1_checkSet, Cond.code yX1_checkSet cX1_checkSet 1 none, Cond.classLink RX1 97 "java/lang/IllegalArgumentException", Cond.initialized "java/lang/IllegalArgumentException", Cond.constant RX1 142 (65535), Cond.methodLink RX1 124 yX1_findExtensions, Cond.instanceMethod yX1_findExtensions, Cond.selects RX1 yX1_findExtensions yX1_findExtensions, Cond.code yX1_findExtensions cX1_findExtensions 3 none, Cond.fieldLink RX1 191 "DefaultReasoner" "extensionsKnown" "Z", Cond.fieldLink RX1 79 "DefaultReasoner" "defaultTotal" "I", Cond.fieldLink RX1 55 "DefaultReasoner" "factSet" "I", Cond.fieldLink RX1 41 "DefaultReasoner" "usable" "[I", Cond.fieldLink RX1 130 "DefaultReasoner" "extensionTotal" "I", Cond.methodLink RX1 194 yX1_conclusionsOf, Cond.instanceMethod yX1_conclusionsOf]
def wsL_isExtension_r2 : List Cond := [Cond.selects RX1 yX1_conclusionsOf yX1_conclusionsOf, Cond.code yX1_conclusionsOf cX1_conclusionsOf 4 (some .int), Cond.fieldLink RX1 22 "DefaultReasoner" "conclusions" "[I", Cond.methodLink RX1 59 yX1_has, Cond.static yX1_has, Cond.code yX1_has cX1_has 2 (some .boolean), Cond.methodLink RX1 117 yX1_closeUp, Cond.instanceMethod yX1_closeUp, Cond.selects RX1 yX1_closeUp yX1_closeUp, Cond.code yX1_closeUp cX1_closeUp 6 (some .int), Cond.fieldLink RX1 69 "DefaultReasoner" "ruleTotal" "I", Cond.fieldLink RX1 9 "DefaultReasoner" "bodies" "[I", Cond.fieldLink RX1 13 "DefaultReasoner" "heads" "[I", Cond.methodLink RX1 185 yX1_contains, Cond.static yX1_contains, Cond.code yX1_contains cX1_contains 2 (some .boolean), Cond.methodLink RX1 188 yX1_complements, Cond.static yX1_complements, Cond.code yX1_complements cX1_complements 1 (some .int), Cond.methodLink RX1 197 yX1_usableFor, Cond.instanceMethod yX1_usableFor, Cond.selects RX1 yX1_usableFor yX1_usableFor, Cond.code yX1_usableFor cX1_usableFor 4 (some .int), Cond.fieldLink RX1 16 "DefaultReasoner" "prerequisites" "[I"]
def wsL_isExtension_r3 : List Cond := [Cond.methodLink RX1 121 yX1_opens, Cond.instanceMethod yX1_opens, Cond.selects RX1 yX1_opens yX1_opens, Cond.code yX1_opens cX1_opens 3 (some .boolean), Cond.fieldLink RX1 19 "DefaultReasoner" "justifications" "[I", Cond.methodLink RX1 127 yX1_generatorsFor, Cond.instanceMethod yX1_generatorsFor, Cond.selects RX1 yX1_generatorsFor yX1_generatorsFor, Cond.code yX1_generatorsFor cX1_generatorsFor 6 (some .int), Cond.methodLink RX1 200 yX1_insertExtension, Cond.instanceMethod yX1_insertExtension, Cond.selects RX1 yX1_insertExtension yX1_insertExtension, Cond.code yX1_insertExtension cX1_insertExtension 3 none, Cond.fieldLink RX1 44 "DefaultReasoner" "extensions" "[I"]
def wsL_isExtension : List Cond := .codeWith yL_isExtension cL_isExtension 4 (some .int) [(0, 16, 19, 19)] :: ((wsL_isExtension_r1 ++ (wsL_isExtension_r2 ++ wsL_isExtension_r3)) ++ wsX10 ++ (vx_atS RX1 101 "java/lang/IllegalArgumentException" ["java/lang/RuntimeException", "java/lang/Exception"]).filter goodWord)
def wsL_extension_r1 : List Cond := [Cond.classLink RL 13 "java/lang/IndexOutOfBoundsException", Cond.methodLink RL 55 yX1_extension, Cond.instanceMethod yX1_extension, Cond.selects RX1 yX1_extension yX1_extension, Cond.initialized RX1, Cond.code yX1_extension cX1_extension 2 (some .int), Cond.fieldLink RX1 44 "DefaultReasoner" "extensions" "[I", Cond.methodLink RX1 124 yX1_findExtensions, Cond.instanceMethod yX1_findExtensions, Cond.selects RX1 yX1_findExtensions yX1_findExtensions, Cond.code yX1_findExtensions cX1_findExtensions 3 none, Cond.fieldLink RX1 191 "DefaultReasoner" "extensionsKnown" "Z", Cond.fieldLink RX1 79 "DefaultReasoner" "defaultTotal" "I", Cond.fieldLink RX1 38 "DefaultReasoner" "held" "[I", Cond.fieldLink RX1 55 "DefaultReasoner" "factSet" "I", Cond.fieldLink RX1 41 "DefaultReasoner" "usable" "[I", Cond.fieldLink RX1 130 "DefaultReasoner" "extensionTotal" "I", Cond.methodLink RX1 194 yX1_conclusionsOf, Cond.instanceMethod yX1_conclusionsOf, Cond.selects RX1 yX1_conclusionsOf yX1_conclusionsOf, Cond.code yX1_conclusionsOf cX1_conclusionsOf 4 (some .int), Cond.fieldLink RX1 22 "DefaultReasoner" "conclusions" "[I", Cond.methodLink RX1 59 yX1_has, Cond.static yX1_has]
def wsL_extension_r2 : List Cond := [Cond.code yX1_has cX1_has 2 (some .boolean), Cond.methodLink RX1 117 yX1_closeUp, Cond.instanceMethod yX1_closeUp, Cond.selects RX1 yX1_closeUp yX1_closeUp, Cond.code yX1_closeUp cX1_closeUp 6 (some .int), Cond.fieldLink RX1 69 "DefaultReasoner" "ruleTotal" "I", Cond.fieldLink RX1 9 "DefaultReasoner" "bodies" "[I", Cond.fieldLink RX1 13 "DefaultReasoner" "heads" "[I", Cond.constant RX1 142 (65535), Cond.methodLink RX1 185 yX1_contains, Cond.static yX1_contains, Cond.code yX1_contains cX1_contains 2 (some .boolean), Cond.methodLink RX1 188 yX1_complements, Cond.static yX1_complements, Cond.code yX1_complements cX1_complements 1 (some .int), Cond.methodLink RX1 197 yX1_usableFor, Cond.instanceMethod yX1_usableFor, Cond.selects RX1 yX1_usableFor yX1_usableFor, Cond.code yX1_usableFor cX1_usableFor 4 (some .int), Cond.fieldLink RX1 16 "DefaultReasoner" "prerequisites" "[I", Cond.methodLink RX1 121 yX1_opens, Cond.instanceMethod yX1_opens, Cond.selects RX1 yX1_opens yX1_opens, Cond.code yX1_opens cX1_opens 3 (some .boolean)]
def wsL_extension_r3 : List Cond := [Cond.fieldLink RX1 19 "DefaultReasoner" "justifications" "[I", Cond.methodLink RX1 127 yX1_generatorsFor, Cond.instanceMethod yX1_generatorsFor, Cond.selects RX1 yX1_generatorsFor yX1_generatorsFor, Cond.code yX1_generatorsFor cX1_generatorsFor 6 (some .int), Cond.methodLink RX1 200 yX1_insertExtension, Cond.instanceMethod yX1_insertExtension, Cond.selects RX1 yX1_insertExtension yX1_insertExtension, Cond.code yX1_insertExtension cX1_insertExtension 3 none, Cond.methodLink RX1 133 yX1_checkExtension, Cond.instanceMethod yX1_checkExtension, Cond.selects RX1 yX1_checkExtension yX1_checkExtension, Cond.code yX1_checkExtension cX1_checkExtension 2 none, Cond.classLink RX1 155 "java/lang/IndexOutOfBoundsException", Cond.initialized "java/lang/IndexOutOfBoundsException"]
def wsL_extension : List Cond := .codeWith yL_extension cL_extension 4 (some .int) [(0, 9, 12, 13)] :: ((wsL_extension_r1 ++ (wsL_extension_r2 ++ wsL_extension_r3)) ++ wsX10 ++ (vx_atS RX1 159 "java/lang/IndexOutOfBoundsException" ["java/lang/RuntimeException", "java/lang/Exception"]).filter goodWord)
def wsL_isPreferred_r1 : List Cond := [Cond.classLink RL 13 "java/lang/IndexOutOfBoundsException", Cond.methodLink RL 58 yX1_isPreferred, Cond.instanceMethod yX1_isPreferred, Cond.selects RX1 yX1_isPreferred yX1_isPreferred, Cond.initialized RX1, Cond.code yX1_isPreferred cX1_isPreferred 2 (some .boolean), Cond.fieldLink RX1 47 "DefaultReasoner" "preferred" "[Z", Cond.methodLink RX1 136 yX1_findPreferred, Cond.instanceMethod yX1_findPreferred, Cond.selects RX1 yX1_findPreferred yX1_findPreferred, Cond.code yX1_findPreferred cX1_findPreferred 3 none, Cond.fieldLink RX1 106 "DefaultReasoner" "preferredKnown" "Z", Cond.fieldLink RX1 130 "DefaultReasoner" "extensionTotal" "I", Cond.fieldLink RX1 139 "DefaultReasoner" "preferredTotal" "I", Cond.fieldLink RX1 178 "DefaultReasoner" "ORDERS" "[I", Cond.fieldLink RX1 79 "DefaultReasoner" "defaultTotal" "I", Cond.methodLink RX1 124 yX1_findExtensions, Cond.instanceMethod yX1_findExtensions, Cond.selects RX1 yX1_findExtensions yX1_findExtensions, Cond.code yX1_findExtensions cX1_findExtensions 3 none, Cond.fieldLink RX1 191 "DefaultReasoner" "extensionsKnown" "Z", Cond.fieldLink RX1 38 "DefaultReasoner" "held" "[I", Cond.fieldLink RX1 55 "DefaultReasoner" "factSet" "I", Cond.fieldLink RX1 41 "DefaultReasoner" "usable" "[I"]
def wsL_isPreferred_r2 : List Cond := [Cond.methodLink RX1 194 yX1_conclusionsOf, Cond.instanceMethod yX1_conclusionsOf, Cond.selects RX1 yX1_conclusionsOf yX1_conclusionsOf, Cond.code yX1_conclusionsOf cX1_conclusionsOf 4 (some .int), Cond.fieldLink RX1 22 "DefaultReasoner" "conclusions" "[I", Cond.methodLink RX1 59 yX1_has, Cond.static yX1_has, Cond.code yX1_has cX1_has 2 (some .boolean), Cond.methodLink RX1 117 yX1_closeUp, Cond.instanceMethod yX1_closeUp, Cond.selects RX1 yX1_closeUp yX1_closeUp, Cond.code yX1_closeUp cX1_closeUp 6 (some .int), Cond.fieldLink RX1 69 "DefaultReasoner" "ruleTotal" "I", Cond.fieldLink RX1 9 "DefaultReasoner" "bodies" "[I", Cond.fieldLink RX1 13 "DefaultReasoner" "heads" "[I", Cond.constant RX1 142 (65535), Cond.methodLink RX1 185 yX1_contains, Cond.static yX1_contains, Cond.code yX1_contains cX1_contains 2 (some .boolean), Cond.methodLink RX1 188 yX1_complements, Cond.static yX1_complements, Cond.code yX1_complements cX1_complements 1 (some .int), Cond.methodLink RX1 197 yX1_usableFor, Cond.instanceMethod yX1_usableFor]
def wsL_isPreferred_r3 : List Cond := [Cond.selects RX1 yX1_usableFor yX1_usableFor, Cond.code yX1_usableFor cX1_usableFor 4 (some .int), Cond.fieldLink RX1 16 "DefaultReasoner" "prerequisites" "[I", Cond.methodLink RX1 121 yX1_opens, Cond.instanceMethod yX1_opens, Cond.selects RX1 yX1_opens yX1_opens, Cond.code yX1_opens cX1_opens 3 (some .boolean), Cond.fieldLink RX1 19 "DefaultReasoner" "justifications" "[I", Cond.methodLink RX1 127 yX1_generatorsFor, Cond.instanceMethod yX1_generatorsFor, Cond.selects RX1 yX1_generatorsFor yX1_generatorsFor, Cond.code yX1_generatorsFor cX1_generatorsFor 6 (some .int), Cond.methodLink RX1 200 yX1_insertExtension, Cond.instanceMethod yX1_insertExtension, Cond.selects RX1 yX1_insertExtension yX1_insertExtension, Cond.code yX1_insertExtension cX1_insertExtension 3 none, Cond.fieldLink RX1 44 "DefaultReasoner" "extensions" "[I", Cond.methodLink RX1 146 yX1_layOut, Cond.instanceMethod yX1_layOut, Cond.selects RX1 yX1_layOut yX1_layOut, Cond.code yX1_layOut cX1_layOut 7 none, Cond.fieldLink RX1 35 "DefaultReasoner" "lineup" "[I", Cond.methodLink RX1 160 yX1_keepsPriorities, Cond.instanceMethod yX1_keepsPriorities]
def wsL_isPreferred_r4 : List Cond := [Cond.selects RX1 yX1_keepsPriorities yX1_keepsPriorities, Cond.code yX1_keepsPriorities cX1_keepsPriorities 4 (some .boolean), Cond.fieldLink RX1 28 "DefaultReasoner" "priorities" "LDefaultReasoner$Priorities;", Cond.instanceMethod yX0_comesBeforeOneOf, Cond.initialized RX0, Cond.selects RX0 yX0_comesBeforeOneOf yX0_comesBeforeOneOf, Cond.code yX0_comesBeforeOneOf cX0_comesBeforeOneOf 3 (some .boolean), Cond.fieldLink RX0 15 "DefaultReasoner$Priorities" "reached" "[I", Cond.methodLink RX1 203 yX1_endOfWalk, Cond.instanceMethod yX1_endOfWalk, Cond.selects RX1 yX1_endOfWalk yX1_endOfWalk, Cond.code yX1_endOfWalk cX1_endOfWalk 4 (some .int), Cond.methodLink RX1 152 yX1_firstUsable, Cond.instanceMethod yX1_firstUsable, Cond.selects RX1 yX1_firstUsable yX1_firstUsable, Cond.code yX1_firstUsable cX1_firstUsable 3 (some .int), Cond.methodLink RX1 206 yX1_markPreferred, Cond.instanceMethod yX1_markPreferred, Cond.selects RX1 yX1_markPreferred yX1_markPreferred, Cond.code yX1_markPreferred cX1_markPreferred 3 none, Cond.methodLink RX1 133 yX1_checkExtension, Cond.instanceMethod yX1_checkExtension, Cond.selects RX1 yX1_checkExtension yX1_checkExtension, Cond.code yX1_checkExtension cX1_checkExtension 2 none]
def wsL_isPreferred_r5 : List Cond := [Cond.classLink RX1 155 "java/lang/IndexOutOfBoundsException", Cond.initialized "java/lang/IndexOutOfBoundsException"]
def wsL_isPreferred : List Cond := .codeWith yL_isPreferred cL_isPreferred 4 (some .int) [(0, 16, 19, 13)] :: ((wsL_isPreferred_r1 ++ (wsL_isPreferred_r2 ++ (wsL_isPreferred_r3 ++ (wsL_isPreferred_r4 ++ wsL_isPreferred_r5)))) ++ wsX10 ++ wsX00 ++ (vx_atS RX1 159 "java/lang/IndexOutOfBoundsException" ["java/lang/RuntimeException", "java/lang/Exception"]).filter goodWord)
def wsL_supports_r1 : List Cond := [Cond.classLink RL 13 "java/lang/IndexOutOfBoundsException", Cond.methodLink RL 61 yX1_supports, Cond.instanceMethod yX1_supports, Cond.selects RX1 yX1_supports yX1_supports, Cond.initialized RX1, Cond.code yX1_supports cX1_supports 4 (some .int), Cond.fieldLink RX1 130 "DefaultReasoner" "extensionTotal" "I", Cond.fieldLink RX1 44 "DefaultReasoner" "extensions" "[I", Cond.methodLink RX1 51 yX1_checkLiteral, Cond.static yX1_checkLiteral, Cond.code yX1_checkLiteral cX1_checkLiteral 1 none, Cond.classLink RX1 155 "java/lang/IndexOutOfBoundsException", Cond.initialized "java/lang/IndexOutOfBoundsException", Cond.methodLink RX1 124 yX1_findExtensions, Cond.instanceMethod yX1_findExtensions, Cond.selects RX1 yX1_findExtensions yX1_findExtensions, Cond.code yX1_findExtensions cX1_findExtensions 3 none, Cond.fieldLink RX1 191 "DefaultReasoner" "extensionsKnown" "Z", Cond.fieldLink RX1 79 "DefaultReasoner" "defaultTotal" "I", Cond.fieldLink RX1 38 "DefaultReasoner" "held" "[I", Cond.fieldLink RX1 55 "DefaultReasoner" "factSet" "I", Cond.fieldLink RX1 41 "DefaultReasoner" "usable" "[I", Cond.methodLink RX1 194 yX1_conclusionsOf, Cond.instanceMethod yX1_conclusionsOf]
def wsL_supports_r2 : List Cond := [Cond.selects RX1 yX1_conclusionsOf yX1_conclusionsOf, Cond.code yX1_conclusionsOf cX1_conclusionsOf 4 (some .int), Cond.fieldLink RX1 22 "DefaultReasoner" "conclusions" "[I", Cond.methodLink RX1 59 yX1_has, Cond.static yX1_has, Cond.code yX1_has cX1_has 2 (some .boolean), Cond.methodLink RX1 117 yX1_closeUp, Cond.instanceMethod yX1_closeUp, Cond.selects RX1 yX1_closeUp yX1_closeUp, Cond.code yX1_closeUp cX1_closeUp 6 (some .int), Cond.fieldLink RX1 69 "DefaultReasoner" "ruleTotal" "I", Cond.fieldLink RX1 9 "DefaultReasoner" "bodies" "[I", Cond.fieldLink RX1 13 "DefaultReasoner" "heads" "[I", Cond.constant RX1 142 (65535), Cond.methodLink RX1 185 yX1_contains, Cond.static yX1_contains, Cond.code yX1_contains cX1_contains 2 (some .boolean), Cond.methodLink RX1 188 yX1_complements, Cond.static yX1_complements, Cond.code yX1_complements cX1_complements 1 (some .int), Cond.methodLink RX1 197 yX1_usableFor, Cond.instanceMethod yX1_usableFor, Cond.selects RX1 yX1_usableFor yX1_usableFor, Cond.code yX1_usableFor cX1_usableFor 4 (some .int)]
def wsL_supports_r3 : List Cond := [Cond.fieldLink RX1 16 "DefaultReasoner" "prerequisites" "[I", Cond.methodLink RX1 121 yX1_opens, Cond.instanceMethod yX1_opens, Cond.selects RX1 yX1_opens yX1_opens, Cond.code yX1_opens cX1_opens 3 (some .boolean), Cond.fieldLink RX1 19 "DefaultReasoner" "justifications" "[I", Cond.methodLink RX1 127 yX1_generatorsFor, Cond.instanceMethod yX1_generatorsFor, Cond.selects RX1 yX1_generatorsFor yX1_generatorsFor, Cond.code yX1_generatorsFor cX1_generatorsFor 6 (some .int), Cond.methodLink RX1 200 yX1_insertExtension, Cond.instanceMethod yX1_insertExtension, Cond.selects RX1 yX1_insertExtension yX1_insertExtension, Cond.code yX1_insertExtension cX1_insertExtension 3 none]
def wsL_supports : List Cond := .codeWith yL_supports cL_supports 4 (some .int) [(0, 9, 12, 13)] :: ((wsL_supports_r1 ++ (wsL_supports_r2 ++ wsL_supports_r3)) ++ wsX10 ++ (vx_atS RX1 159 "java/lang/IndexOutOfBoundsException" ["java/lang/RuntimeException", "java/lang/Exception"]).filter goodWord)
def wsL_share_r1 : List Cond := [Cond.classLink RL 13 "java/lang/IndexOutOfBoundsException", Cond.methodLink RL 64 yX1_share, Cond.instanceMethod yX1_share, Cond.selects RX1 yX1_share yX1_share, Cond.initialized RX1, Cond.code yX1_share cX1_share 4 (some .double), Cond.fieldLink RX1 139 "DefaultReasoner" "preferredTotal" "I", Cond.fieldLink RX1 130 "DefaultReasoner" "extensionTotal" "I", Cond.fieldLink RX1 47 "DefaultReasoner" "preferred" "[Z", Cond.fieldLink RX1 44 "DefaultReasoner" "extensions" "[I", Cond.methodLink RX1 51 yX1_checkLiteral, Cond.static yX1_checkLiteral, Cond.code yX1_checkLiteral cX1_checkLiteral 1 none, Cond.classLink RX1 155 "java/lang/IndexOutOfBoundsException", Cond.initialized "java/lang/IndexOutOfBoundsException", Cond.methodLink RX1 136 yX1_findPreferred, Cond.instanceMethod yX1_findPreferred, Cond.selects RX1 yX1_findPreferred yX1_findPreferred, Cond.code yX1_findPreferred cX1_findPreferred 3 none, Cond.fieldLink RX1 106 "DefaultReasoner" "preferredKnown" "Z", Cond.fieldLink RX1 178 "DefaultReasoner" "ORDERS" "[I", Cond.fieldLink RX1 79 "DefaultReasoner" "defaultTotal" "I", Cond.methodLink RX1 124 yX1_findExtensions, Cond.instanceMethod yX1_findExtensions]
def wsL_share_r2 : List Cond := [Cond.selects RX1 yX1_findExtensions yX1_findExtensions, Cond.code yX1_findExtensions cX1_findExtensions 3 none, Cond.fieldLink RX1 191 "DefaultReasoner" "extensionsKnown" "Z", Cond.fieldLink RX1 38 "DefaultReasoner" "held" "[I", Cond.fieldLink RX1 55 "DefaultReasoner" "factSet" "I", Cond.fieldLink RX1 41 "DefaultReasoner" "usable" "[I", Cond.methodLink RX1 194 yX1_conclusionsOf, Cond.instanceMethod yX1_conclusionsOf, Cond.selects RX1 yX1_conclusionsOf yX1_conclusionsOf, Cond.code yX1_conclusionsOf cX1_conclusionsOf 4 (some .int), Cond.fieldLink RX1 22 "DefaultReasoner" "conclusions" "[I", Cond.methodLink RX1 59 yX1_has, Cond.static yX1_has, Cond.code yX1_has cX1_has 2 (some .boolean), Cond.methodLink RX1 117 yX1_closeUp, Cond.instanceMethod yX1_closeUp, Cond.selects RX1 yX1_closeUp yX1_closeUp, Cond.code yX1_closeUp cX1_closeUp 6 (some .int), Cond.fieldLink RX1 69 "DefaultReasoner" "ruleTotal" "I", Cond.fieldLink RX1 9 "DefaultReasoner" "bodies" "[I", Cond.fieldLink RX1 13 "DefaultReasoner" "heads" "[I", Cond.constant RX1 142 (65535), Cond.methodLink RX1 185 yX1_contains, Cond.static yX1_contains]
def wsL_share_r3 : List Cond := [Cond.code yX1_contains cX1_contains 2 (some .boolean), Cond.methodLink RX1 188 yX1_complements, Cond.static yX1_complements, Cond.code yX1_complements cX1_complements 1 (some .int), Cond.methodLink RX1 197 yX1_usableFor, Cond.instanceMethod yX1_usableFor, Cond.selects RX1 yX1_usableFor yX1_usableFor, Cond.code yX1_usableFor cX1_usableFor 4 (some .int), Cond.fieldLink RX1 16 "DefaultReasoner" "prerequisites" "[I", Cond.methodLink RX1 121 yX1_opens, Cond.instanceMethod yX1_opens, Cond.selects RX1 yX1_opens yX1_opens, Cond.code yX1_opens cX1_opens 3 (some .boolean), Cond.fieldLink RX1 19 "DefaultReasoner" "justifications" "[I", Cond.methodLink RX1 127 yX1_generatorsFor, Cond.instanceMethod yX1_generatorsFor, Cond.selects RX1 yX1_generatorsFor yX1_generatorsFor, Cond.code yX1_generatorsFor cX1_generatorsFor 6 (some .int), Cond.methodLink RX1 200 yX1_insertExtension, Cond.instanceMethod yX1_insertExtension, Cond.selects RX1 yX1_insertExtension yX1_insertExtension, Cond.code yX1_insertExtension cX1_insertExtension 3 none, Cond.methodLink RX1 146 yX1_layOut, Cond.instanceMethod yX1_layOut]
def wsL_share_r4 : List Cond := [Cond.selects RX1 yX1_layOut yX1_layOut, Cond.code yX1_layOut cX1_layOut 7 none, Cond.fieldLink RX1 35 "DefaultReasoner" "lineup" "[I", Cond.methodLink RX1 160 yX1_keepsPriorities, Cond.instanceMethod yX1_keepsPriorities, Cond.selects RX1 yX1_keepsPriorities yX1_keepsPriorities, Cond.code yX1_keepsPriorities cX1_keepsPriorities 4 (some .boolean), Cond.fieldLink RX1 28 "DefaultReasoner" "priorities" "LDefaultReasoner$Priorities;", Cond.instanceMethod yX0_comesBeforeOneOf, Cond.initialized RX0, Cond.selects RX0 yX0_comesBeforeOneOf yX0_comesBeforeOneOf, Cond.code yX0_comesBeforeOneOf cX0_comesBeforeOneOf 3 (some .boolean), Cond.fieldLink RX0 15 "DefaultReasoner$Priorities" "reached" "[I", Cond.methodLink RX1 203 yX1_endOfWalk, Cond.instanceMethod yX1_endOfWalk, Cond.selects RX1 yX1_endOfWalk yX1_endOfWalk, Cond.code yX1_endOfWalk cX1_endOfWalk 4 (some .int), Cond.methodLink RX1 152 yX1_firstUsable, Cond.instanceMethod yX1_firstUsable, Cond.selects RX1 yX1_firstUsable yX1_firstUsable, Cond.code yX1_firstUsable cX1_firstUsable 3 (some .int), Cond.methodLink RX1 206 yX1_markPreferred, Cond.instanceMethod yX1_markPreferred, Cond.selects RX1 yX1_markPreferred yX1_markPreferred]
def wsL_share_r5 : List Cond := [Cond.code yX1_markPreferred cX1_markPreferred 3 none]
def wsL_share : List Cond := .codeWith yL_share cL_share 4 (some .int) [(0, 8, 11, 13)] :: ((wsL_share_r1 ++ (wsL_share_r2 ++ (wsL_share_r3 ++ (wsL_share_r4 ++ wsL_share_r5)))) ++ wsX10 ++ wsX00 ++ (vx_atS RX1 159 "java/lang/IndexOutOfBoundsException" ["java/lang/RuntimeException", "java/lang/Exception"]).filter goodWord)
def wsL_walk_r1 : List Cond := [Cond.classLink RL 19 "java/lang/IllegalArgumentException", Cond.methodLink RL 68 yX1_walk, Cond.instanceMethod yX1_walk, Cond.selects RX1 yX1_walk yX1_walk, Cond.initialized RX1, Cond.code yX1_walk cX1_walk 5 (some .int), Cond.fieldLink RX1 149 "DefaultReasoner" "latestTotal" "I", Cond.fieldLink RX1 79 "DefaultReasoner" "defaultTotal" "I", Cond.fieldLink RX1 32 "DefaultReasoner" "latestWalk" "[I", Cond.fieldLink RX1 38 "DefaultReasoner" "held" "[I", Cond.methodLink RX1 143 yX1_checkOrder, Cond.instanceMethod yX1_checkOrder, Cond.selects RX1 yX1_checkOrder yX1_checkOrder, Cond.code yX1_checkOrder cX1_checkOrder 2 none, Cond.classLink RX1 97 "java/lang/IllegalArgumentException", Cond.initialized "java/lang/IllegalArgumentException", Cond.fieldLink RX1 178 "DefaultReasoner" "ORDERS" "[I", Cond.methodLink RX1 124 yX1_findExtensions, Cond.instanceMethod yX1_findExtensions, Cond.selects RX1 yX1_findExtensions yX1_findExtensions, Cond.code yX1_findExtensions cX1_findExtensions 3 none, Cond.fieldLink RX1 191 "DefaultReasoner" "extensionsKnown" "Z", Cond.fieldLink RX1 55 "DefaultReasoner" "factSet" "I", Cond.fieldLink RX1 41 "DefaultReasoner" "usable" "[I"]
def wsL_walk_r2 : List Cond := [Cond.fieldLink RX1 130 "DefaultReasoner" "extensionTotal" "I", Cond.methodLink RX1 194 yX1_conclusionsOf, Cond.instanceMethod yX1_conclusionsOf, Cond.selects RX1 yX1_conclusionsOf yX1_conclusionsOf, Cond.code yX1_conclusionsOf cX1_conclusionsOf 4 (some .int), Cond.fieldLink RX1 22 "DefaultReasoner" "conclusions" "[I", Cond.methodLink RX1 59 yX1_has, Cond.static yX1_has, Cond.code yX1_has cX1_has 2 (some .boolean), Cond.methodLink RX1 117 yX1_closeUp, Cond.instanceMethod yX1_closeUp, Cond.selects RX1 yX1_closeUp yX1_closeUp, Cond.code yX1_closeUp cX1_closeUp 6 (some .int), Cond.fieldLink RX1 69 "DefaultReasoner" "ruleTotal" "I", Cond.fieldLink RX1 9 "DefaultReasoner" "bodies" "[I", Cond.fieldLink RX1 13 "DefaultReasoner" "heads" "[I", Cond.constant RX1 142 (65535), Cond.methodLink RX1 185 yX1_contains, Cond.static yX1_contains, Cond.code yX1_contains cX1_contains 2 (some .boolean), Cond.methodLink RX1 188 yX1_complements, Cond.static yX1_complements, Cond.code yX1_complements cX1_complements 1 (some .int), Cond.methodLink RX1 197 yX1_usableFor]
def wsL_walk_r3 : List Cond := [Cond.instanceMethod yX1_usableFor, Cond.selects RX1 yX1_usableFor yX1_usableFor, Cond.code yX1_usableFor cX1_usableFor 4 (some .int), Cond.fieldLink RX1 16 "DefaultReasoner" "prerequisites" "[I", Cond.methodLink RX1 121 yX1_opens, Cond.instanceMethod yX1_opens, Cond.selects RX1 yX1_opens yX1_opens, Cond.code yX1_opens cX1_opens 3 (some .boolean), Cond.fieldLink RX1 19 "DefaultReasoner" "justifications" "[I", Cond.methodLink RX1 127 yX1_generatorsFor, Cond.instanceMethod yX1_generatorsFor, Cond.selects RX1 yX1_generatorsFor yX1_generatorsFor, Cond.code yX1_generatorsFor cX1_generatorsFor 6 (some .int), Cond.methodLink RX1 200 yX1_insertExtension, Cond.instanceMethod yX1_insertExtension, Cond.selects RX1 yX1_insertExtension yX1_insertExtension, Cond.code yX1_insertExtension cX1_insertExtension 3 none, Cond.fieldLink RX1 44 "DefaultReasoner" "extensions" "[I", Cond.methodLink RX1 146 yX1_layOut, Cond.instanceMethod yX1_layOut, Cond.selects RX1 yX1_layOut yX1_layOut, Cond.code yX1_layOut cX1_layOut 7 none, Cond.fieldLink RX1 35 "DefaultReasoner" "lineup" "[I", Cond.methodLink RX1 152 yX1_firstUsable]
def wsL_walk_r4 : List Cond := [Cond.instanceMethod yX1_firstUsable, Cond.selects RX1 yX1_firstUsable yX1_firstUsable, Cond.code yX1_firstUsable cX1_firstUsable 3 (some .int)]
def wsL_walk : List Cond := .codeWith yL_walk cL_walk 4 (some .int) [(0, 9, 12, 19)] :: ((wsL_walk_r1 ++ (wsL_walk_r2 ++ (wsL_walk_r3 ++ wsL_walk_r4))) ++ wsX10 ++ (vx_atS RX1 101 "java/lang/IllegalArgumentException" ["java/lang/RuntimeException", "java/lang/Exception"]).filter goodWord)
def wsL_applied : List Cond := .codeWith yL_applied cL_applied 4 (some .int) [(0, 9, 12, 13)] :: ([.classLink RL 13 "java/lang/IndexOutOfBoundsException", .methodLink RL 71 yX1_applied, .instanceMethod yX1_applied, .selects RX1 yX1_applied yX1_applied, .initialized RX1, .code yX1_applied cX1_applied 2 (some .int), .classLink RX1 155 "java/lang/IndexOutOfBoundsException", .initialized "java/lang/IndexOutOfBoundsException", .fieldLink RX1 149 "DefaultReasoner" "latestTotal" "I", .fieldLink RX1 32 "DefaultReasoner" "latestWalk" "[I"] ++ wsX10 ++ (vx_atS RX1 159 "java/lang/IndexOutOfBoundsException" ["java/lang/RuntimeException", "java/lang/Exception"]).filter goodWord)
def wsL_respects_r1 : List Cond := [Cond.classLink RL 19 "java/lang/IllegalArgumentException", Cond.methodLink RL 74 yX1_respects, Cond.instanceMethod yX1_respects, Cond.selects RX1 yX1_respects yX1_respects, Cond.initialized RX1, Cond.code yX1_respects cX1_respects 2 (some .boolean), Cond.methodLink RX1 143 yX1_checkOrder, Cond.instanceMethod yX1_checkOrder, Cond.selects RX1 yX1_checkOrder yX1_checkOrder, Cond.code yX1_checkOrder cX1_checkOrder 2 none, Cond.classLink RX1 97 "java/lang/IllegalArgumentException", Cond.initialized "java/lang/IllegalArgumentException", Cond.fieldLink RX1 178 "DefaultReasoner" "ORDERS" "[I", Cond.fieldLink RX1 79 "DefaultReasoner" "defaultTotal" "I", Cond.methodLink RX1 146 yX1_layOut, Cond.instanceMethod yX1_layOut, Cond.selects RX1 yX1_layOut yX1_layOut, Cond.code yX1_layOut cX1_layOut 7 none, Cond.fieldLink RX1 35 "DefaultReasoner" "lineup" "[I", Cond.methodLink RX1 59 yX1_has, Cond.static yX1_has, Cond.code yX1_has cX1_has 2 (some .boolean), Cond.methodLink RX1 160 yX1_keepsPriorities, Cond.instanceMethod yX1_keepsPriorities]
def wsL_respects_r2 : List Cond := [Cond.selects RX1 yX1_keepsPriorities yX1_keepsPriorities, Cond.code yX1_keepsPriorities cX1_keepsPriorities 4 (some .boolean), Cond.fieldLink RX1 28 "DefaultReasoner" "priorities" "LDefaultReasoner$Priorities;", Cond.instanceMethod yX0_comesBeforeOneOf, Cond.initialized RX0, Cond.selects RX0 yX0_comesBeforeOneOf yX0_comesBeforeOneOf, Cond.code yX0_comesBeforeOneOf cX0_comesBeforeOneOf 3 (some .boolean), Cond.fieldLink RX0 15 "DefaultReasoner$Priorities" "reached" "[I"]
def wsL_respects : List Cond := .codeWith yL_respects cL_respects 4 (some .int) [(0, 16, 19, 19)] :: ((wsL_respects_r1 ++ wsL_respects_r2) ++ wsX10 ++ wsX00 ++ (vx_atS RX1 101 "java/lang/IllegalArgumentException" ["java/lang/RuntimeException", "java/lang/Exception"]).filter goodWord)
def wsL_law0_r1 : List Cond := [Cond.classLink RL 8 RX1, Cond.instantiable RX1 20, Cond.initialized RX1, Cond.classLink RL 78 RX2, Cond.instantiable RX2 15, Cond.initialized RX2, Cond.arrayClass .long, Cond.arrayClass .double, Cond.methodLink RL 77 yX1_init, Cond.instanceMethod yX1_init, Cond.code yX1_init cX1_init 1 none, Cond.methodLink RX1 1 objectInit, Cond.instanceMethod objectInit, Cond.code objectInit ⟨#[0xb1]⟩ 1 none, Cond.arrayClass .int, Cond.fieldLink RX1 9 "DefaultReasoner" "bodies" "[I", Cond.fieldLink RX1 13 "DefaultReasoner" "heads" "[I", Cond.fieldLink RX1 16 "DefaultReasoner" "prerequisites" "[I", Cond.fieldLink RX1 19 "DefaultReasoner" "justifications" "[I", Cond.fieldLink RX1 22 "DefaultReasoner" "conclusions" "[I", Cond.classLink RX1 25 RX0, Cond.instantiable RX0 2, Cond.initialized RX0, Cond.fieldLink RX1 28 "DefaultReasoner" "priorities" "LDefaultReasoner$Priorities;"]
def wsL_law0_r2 : List Cond := [Cond.fieldLink RX1 32 "DefaultReasoner" "latestWalk" "[I", Cond.fieldLink RX1 35 "DefaultReasoner" "lineup" "[I", Cond.fieldLink RX1 38 "DefaultReasoner" "held" "[I", Cond.fieldLink RX1 41 "DefaultReasoner" "usable" "[I", Cond.fieldLink RX1 44 "DefaultReasoner" "extensions" "[I", Cond.arrayClass .boolean, Cond.fieldLink RX1 47 "DefaultReasoner" "preferred" "[Z", Cond.instanceMethod yX0_init, Cond.code yX0_init cX0_init 1 none, Cond.methodLink RX0 3 objectInit, Cond.fieldLink RX0 9 "DefaultReasoner$Priorities" "given" "[I", Cond.fieldLink RX0 15 "DefaultReasoner$Priorities" "reached" "[I", Cond.methodLink RL 80 yX2_init, Cond.instanceMethod yX2_init, Cond.code yX2_init cX2_init 1 none, Cond.methodLink RX2 1 objectInit, Cond.fieldLink RX2 9 "DefaultReasonerModel" "bodies" "[I", Cond.fieldLink RX2 13 "DefaultReasonerModel" "heads" "[I", Cond.fieldLink RX2 16 "DefaultReasonerModel" "needs" "[I", Cond.fieldLink RX2 19 "DefaultReasonerModel" "justifications" "[I", Cond.fieldLink RX2 22 "DefaultReasonerModel" "conclusions" "[I", Cond.fieldLink RX2 25 "DefaultReasonerModel" "told" "[Z", Cond.fieldLink RX2 29 "DefaultReasonerModel" "path" "[I", Cond.fieldLink RX2 32 "DefaultReasonerModel" "all" "[I"]
def wsL_law0_r3 : List Cond := [Cond.fieldLink RX2 35 "DefaultReasonerModel" "arePreferred" "[Z", Cond.methodLink RL 81 yL_setFact, Cond.static yL_setFact, Cond.initialized RL, Cond.codeWith yL_setFact cL_setFact 5 (some .int) [(0, 17, 20, 13)], Cond.classLink RL 13 "java/lang/IndexOutOfBoundsException", Cond.methodLink RL 7 yX1_setFact, Cond.instanceMethod yX1_setFact, Cond.selects RX1 yX1_setFact yX1_setFact, Cond.code yX1_setFact cX1_setFact 4 (some .boolean), Cond.fieldLink RX1 55 "DefaultReasoner" "factSet" "I", Cond.methodLink RX1 51 yX1_checkLiteral, Cond.static yX1_checkLiteral, Cond.code yX1_checkLiteral cX1_checkLiteral 1 none, Cond.classLink RX1 155 "java/lang/IndexOutOfBoundsException", Cond.initialized "java/lang/IndexOutOfBoundsException", Cond.methodLink RX1 59 yX1_has, Cond.static yX1_has, Cond.code yX1_has cX1_has 2 (some .boolean), Cond.methodLink RX1 63 yX1_forgetFindings, Cond.instanceMethod yX1_forgetFindings, Cond.selects RX1 yX1_forgetFindings yX1_forgetFindings, Cond.code yX1_forgetFindings cX1_forgetFindings 1 none, Cond.fieldLink RX1 191 "DefaultReasoner" "extensionsKnown" "Z"]
def wsL_law0_r4 : List Cond := [Cond.fieldLink RX1 106 "DefaultReasoner" "preferredKnown" "Z", Cond.methodLink RL 86 yX2_setFact, Cond.instanceMethod yX2_setFact, Cond.selects RX2 yX2_setFact yX2_setFact, Cond.code yX2_setFact cX2_setFact 4 (some .boolean), Cond.fieldLink RX2 38 "DefaultReasonerModel" "thrown" "I", Cond.fieldLink RX2 50 "DefaultReasonerModel" "facts" "I", Cond.methodLink RX2 46 yX2_isLiteral, Cond.static yX2_isLiteral, Cond.code yX2_isLiteral cX2_isLiteral 1 (some .boolean), Cond.methodLink RL 87 yX2_thrown, Cond.instanceMethod yX2_thrown, Cond.selects RX2 yX2_thrown yX2_thrown, Cond.code yX2_thrown cX2_thrown 1 (some .int), Cond.methodLink RL 90 yL_addRule, Cond.static yL_addRule, Cond.codeWith yL_addRule cL_addRule 5 (some .int) [(0, 10, 13, 13), (0, 10, 17, 19), (0, 10, 21, 21)], Cond.classLink RL 19 "java/lang/IllegalArgumentException", Cond.classLink RL 21 "java/lang/IllegalStateException", Cond.methodLink RL 15 yX1_addRule, Cond.instanceMethod yX1_addRule, Cond.selects RX1 yX1_addRule yX1_addRule, Cond.code yX1_addRule cX1_addRule 4 (some .int), Cond.classLink RX1 72 "java/lang/IllegalStateException"]
def wsL_law0_r5 : List Cond := [Cond.initialized "java/lang/IllegalStateException", Cond.fieldLink RX1 69 "DefaultReasoner" "ruleTotal" "I", Cond.methodLink RX1 66 yX1_checkSet, Cond.static yX1_checkSet, Cond.code yX1_checkSet cX1_checkSet 1 none, Cond.classLink RX1 97 "java/lang/IllegalArgumentException", Cond.initialized "java/lang/IllegalArgumentException", Cond.constant RX1 142 (65535), Cond.methodLink RL 93 yX2_addRule, Cond.instanceMethod yX2_addRule, Cond.selects RX2 yX2_addRule yX2_addRule, Cond.code yX2_addRule cX2_addRule 3 (some .int), Cond.fieldLink RX2 60 "DefaultReasonerModel" "rules" "I", Cond.methodLink RX2 53 yX2_fail, Cond.instanceMethod yX2_fail, Cond.selects RX2 yX2_fail yX2_fail, Cond.code yX2_fail cX2_fail 2 (some .int), Cond.methodLink RX2 57 yX2_isSet, Cond.static yX2_isSet, Cond.code yX2_isSet cX2_isSet 1 (some .boolean), Cond.constant RX2 42 (65535), Cond.methodLink RL 94 yL_addDefault, Cond.static yL_addDefault, Cond.codeWith yL_addDefault cL_addDefault 6 (some .int) [(0, 12, 15, 13), (0, 12, 19, 19), (0, 12, 23, 21)]]
def wsL_law0_r6 : List Cond := [Cond.methodLink RL 23 yX1_addDefault, Cond.instanceMethod yX1_addDefault, Cond.selects RX1 yX1_addDefault yX1_addDefault, Cond.code yX1_addDefault cX1_addDefault 5 (some .int), Cond.fieldLink RX1 79 "DefaultReasoner" "defaultTotal" "I", Cond.methodLink RL 97 yX2_addDefault, Cond.instanceMethod yX2_addDefault, Cond.selects RX2 yX2_addDefault yX2_addDefault, Cond.code yX2_addDefault cX2_addDefault 4 (some .int), Cond.fieldLink RX2 43 "DefaultReasonerModel" "defaults" "I", Cond.methodLink RL 98 yL_dropRule, Cond.static yL_dropRule, Cond.codeWith yL_dropRule cL_dropRule 3 (some .int) [(0, 8, 11, 21)], Cond.methodLink RL 27 yX1_dropRule, Cond.instanceMethod yX1_dropRule, Cond.selects RX1 yX1_dropRule yX1_dropRule, Cond.code yX1_dropRule cX1_dropRule 1 (some .int), Cond.methodLink RL 101 yX2_dropRule, Cond.instanceMethod yX2_dropRule, Cond.selects RX2 yX2_dropRule yX2_dropRule, Cond.code yX2_dropRule cX2_dropRule 1 (some .int), Cond.methodLink RL 102 yL_dropDefault, Cond.static yL_dropDefault, Cond.codeWith yL_dropDefault cL_dropDefault 3 (some .int) [(0, 8, 11, 21)]]
def wsL_law0_r7 : List Cond := [Cond.methodLink RL 31 yX1_dropDefault, Cond.instanceMethod yX1_dropDefault, Cond.selects RX1 yX1_dropDefault yX1_dropDefault, Cond.code yX1_dropDefault cX1_dropDefault 1 (some .int), Cond.instanceMethod yX0_removeAllWith, Cond.selects RX0 yX0_removeAllWith yX0_removeAllWith, Cond.code yX0_removeAllWith cX0_removeAllWith 3 none, Cond.methodLink RX0 22 yX0_followChains, Cond.instanceMethod yX0_followChains, Cond.selects RX0 yX0_followChains yX0_followChains, Cond.code yX0_followChains cX0_followChains 3 none, Cond.methodLink RL 104 yX2_dropDefault, Cond.instanceMethod yX2_dropDefault, Cond.selects RX2 yX2_dropDefault yX2_dropDefault, Cond.code yX2_dropDefault cX2_dropDefault 2 (some .int), Cond.methodLink RL 105 yL_prefer, Cond.static yL_prefer, Cond.codeWith yL_prefer cL_prefer 5 (some .int) [(0, 17, 20, 13), (0, 17, 24, 19)], Cond.methodLink RL 34 yX1_prefer, Cond.instanceMethod yX1_prefer, Cond.selects RX1 yX1_prefer yX1_prefer, Cond.code yX1_prefer cX1_prefer 4 (some .boolean), Cond.methodLink RX1 91 yX1_checkDefault, Cond.instanceMethod yX1_checkDefault]
def wsL_law0_r8 : List Cond := [Cond.selects RX1 yX1_checkDefault yX1_checkDefault, Cond.code yX1_checkDefault cX1_checkDefault 2 none, Cond.instanceMethod yX0_comesBefore, Cond.selects RX0 yX0_comesBefore yX0_comesBefore, Cond.code yX0_comesBefore cX0_comesBefore 3 (some .boolean), Cond.instanceMethod yX0_put, Cond.selects RX0 yX0_put yX0_put, Cond.code yX0_put cX0_put 3 none, Cond.methodLink RL 107 yX2_prefer, Cond.instanceMethod yX2_prefer, Cond.selects RX2 yX2_prefer yX2_prefer, Cond.code yX2_prefer cX2_prefer 4 (some .boolean), Cond.methodLink RX2 67 yX2_isDefault, Cond.instanceMethod yX2_isDefault, Cond.selects RX2 yX2_isDefault yX2_isDefault, Cond.code yX2_isDefault cX2_isDefault 2 (some .boolean), Cond.methodLink RX2 70 yX2_before, Cond.instanceMethod yX2_before, Cond.selects RX2 yX2_before yX2_before, Cond.code yX2_before cX2_before 3 (some .boolean), Cond.methodLink RX2 63 yX2_leads, Cond.instanceMethod yX2_leads, Cond.selects RX2 yX2_leads yX2_leads, Cond.code yX2_leads cX2_leads 5 (some .boolean)]
def wsL_law0_r9 : List Cond := [Cond.methodLink RL 108 yX1_forgetPriorities, Cond.instanceMethod yX1_forgetPriorities, Cond.selects RX1 yX1_forgetPriorities yX1_forgetPriorities, Cond.code yX1_forgetPriorities cX1_forgetPriorities 2 (some .int), Cond.instanceMethod yX0_pairs, Cond.selects RX0 yX0_pairs yX0_pairs, Cond.code yX0_pairs cX0_pairs 3 (some .int), Cond.methodLink RX0 25 yJ6_bitCount_0f7a4, Cond.static yJ6_bitCount_0f7a4, Cond.initialized RJ6, Cond.code yJ6_bitCount_0f7a4 cJ6_bitCount_0f7a4 1 (some .int), Cond.constant RJ6 265 (1431655765), Cond.constant RJ6 266 (858993459), Cond.constant RJ6 267 (252645135), Cond.instanceMethod yX0_clear, Cond.selects RX0 yX0_clear yX0_clear, Cond.code yX0_clear cX0_clear 2 none, Cond.methodLink RL 111 yX2_forgetPriorities, Cond.instanceMethod yX2_forgetPriorities, Cond.selects RX2 yX2_forgetPriorities yX2_forgetPriorities, Cond.code yX2_forgetPriorities cX2_forgetPriorities 4 (some .int), Cond.methodLink RL 112 yL_isBefore, Cond.static yL_isBefore, Cond.codeWith yL_isBefore cL_isBefore 5 (some .int) [(0, 17, 20, 13)]]
def wsL_law0_r10 : List Cond := [Cond.methodLink RL 38 yX1_isBefore, Cond.instanceMethod yX1_isBefore, Cond.selects RX1 yX1_isBefore yX1_isBefore, Cond.code yX1_isBefore cX1_isBefore 3 (some .boolean), Cond.methodLink RL 114 yX2_isBefore, Cond.instanceMethod yX2_isBefore, Cond.selects RX2 yX2_isBefore yX2_isBefore, Cond.code yX2_isBefore cX2_isBefore 3 (some .boolean), Cond.methodLink RL 115 yX1_facts, Cond.instanceMethod yX1_facts, Cond.selects RX1 yX1_facts yX1_facts, Cond.code yX1_facts cX1_facts 1 (some .int), Cond.methodLink RL 118 yX2_facts, Cond.instanceMethod yX2_facts, Cond.selects RX2 yX2_facts yX2_facts, Cond.code yX2_facts cX2_facts 1 (some .int), Cond.methodLink RL 119 yX1_defaultCount, Cond.instanceMethod yX1_defaultCount, Cond.selects RX1 yX1_defaultCount yX1_defaultCount, Cond.code yX1_defaultCount cX1_defaultCount 1 (some .int), Cond.methodLink RL 122 yX2_defaultCount, Cond.instanceMethod yX2_defaultCount, Cond.selects RX2 yX2_defaultCount yX2_defaultCount, Cond.code yX2_defaultCount cX2_defaultCount 1 (some .int)]
def wsL_law0_r11 : List Cond := [Cond.methodLink RL 123 yL_closure, Cond.static yL_closure, Cond.codeWith yL_closure cL_closure 4 (some .int) [(0, 9, 12, 19)], Cond.methodLink RL 41 yX1_closure, Cond.instanceMethod yX1_closure, Cond.selects RX1 yX1_closure yX1_closure, Cond.code yX1_closure cX1_closure 2 (some .int), Cond.methodLink RX1 117 yX1_closeUp, Cond.instanceMethod yX1_closeUp, Cond.selects RX1 yX1_closeUp yX1_closeUp, Cond.code yX1_closeUp cX1_closeUp 6 (some .int), Cond.methodLink RX1 185 yX1_contains, Cond.static yX1_contains, Cond.code yX1_contains cX1_contains 2 (some .boolean), Cond.methodLink RX1 188 yX1_complements, Cond.static yX1_complements, Cond.code yX1_complements cX1_complements 1 (some .int), Cond.methodLink RL 126 yX2_closure, Cond.instanceMethod yX2_closure, Cond.selects RX2 yX2_closure yX2_closure, Cond.code yX2_closure cX2_closure 2 (some .int), Cond.methodLink RX2 77 yX2_close, Cond.instanceMethod yX2_close, Cond.selects RX2 yX2_close yX2_close]
def wsL_law0_r12 : List Cond := [Cond.code yX2_close cX2_close 5 (some .int), Cond.methodLink RX2 74 yX2_complements, Cond.static yX2_complements, Cond.code yX2_complements cX2_complements 1 (some .int), Cond.methodLink RL 127 yL_isOpen, Cond.static yL_isOpen, Cond.codeWith yL_isOpen cL_isOpen 5 (some .int) [(0, 17, 20, 13), (0, 17, 24, 19)], Cond.methodLink RL 45 yX1_isOpen, Cond.instanceMethod yX1_isOpen, Cond.selects RX1 yX1_isOpen yX1_isOpen, Cond.code yX1_isOpen cX1_isOpen 3 (some .boolean), Cond.methodLink RX1 121 yX1_opens, Cond.instanceMethod yX1_opens, Cond.selects RX1 yX1_opens yX1_opens, Cond.code yX1_opens cX1_opens 3 (some .boolean), Cond.methodLink RL 129 yX2_isOpen, Cond.instanceMethod yX2_isOpen, Cond.selects RX2 yX2_isOpen yX2_isOpen, Cond.code yX2_isOpen cX2_isOpen 3 (some .boolean), Cond.methodLink RX2 83 yX2_open, Cond.instanceMethod yX2_open, Cond.selects RX2 yX2_open yX2_open, Cond.code yX2_open cX2_open 3 (some .boolean), Cond.methodLink RL 130 yL_generatorsOf]
def wsL_law0_r13 : List Cond := [Cond.static yL_generatorsOf, Cond.codeWith yL_generatorsOf cL_generatorsOf 4 (some .int) [(0, 9, 12, 19)], Cond.methodLink RL 48 yX1_generatorsOf, Cond.instanceMethod yX1_generatorsOf, Cond.selects RX1 yX1_generatorsOf yX1_generatorsOf, Cond.code yX1_generatorsOf cX1_generatorsOf 2 (some .int), Cond.methodLink RX1 124 yX1_findExtensions, Cond.instanceMethod yX1_findExtensions, Cond.selects RX1 yX1_findExtensions yX1_findExtensions, Cond.code yX1_findExtensions cX1_findExtensions 3 none, Cond.fieldLink RX1 130 "DefaultReasoner" "extensionTotal" "I", Cond.methodLink RX1 194 yX1_conclusionsOf, Cond.instanceMethod yX1_conclusionsOf, Cond.selects RX1 yX1_conclusionsOf yX1_conclusionsOf, Cond.code yX1_conclusionsOf cX1_conclusionsOf 4 (some .int), Cond.methodLink RX1 197 yX1_usableFor, Cond.instanceMethod yX1_usableFor, Cond.selects RX1 yX1_usableFor yX1_usableFor, Cond.code yX1_usableFor cX1_usableFor 4 (some .int), Cond.methodLink RX1 127 yX1_generatorsFor, Cond.instanceMethod yX1_generatorsFor, Cond.selects RX1 yX1_generatorsFor yX1_generatorsFor, Cond.code yX1_generatorsFor cX1_generatorsFor 6 (some .int), Cond.methodLink RX1 200 yX1_insertExtension]
def wsL_law0_r14 : List Cond := [Cond.instanceMethod yX1_insertExtension, Cond.selects RX1 yX1_insertExtension yX1_insertExtension, Cond.code yX1_insertExtension cX1_insertExtension 3 none, Cond.methodLink RL 132 yX2_generatorsOf, Cond.instanceMethod yX2_generatorsOf, Cond.selects RX2 yX2_generatorsOf yX2_generatorsOf, Cond.code yX2_generatorsOf cX2_generatorsOf 2 (some .int), Cond.methodLink RX2 86 yX2_generators, Cond.instanceMethod yX2_generators, Cond.selects RX2 yX2_generators yX2_generators, Cond.code yX2_generators cX2_generators 6 (some .int), Cond.methodLink RX2 80 yX2_consequences, Cond.instanceMethod yX2_consequences, Cond.selects RX2 yX2_consequences yX2_consequences, Cond.code yX2_consequences cX2_consequences 4 (some .int), Cond.methodLink RL 133 yL_isExtension, Cond.static yL_isExtension, Cond.codeWith yL_isExtension cL_isExtension 4 (some .int) [(0, 16, 19, 19)], Cond.methodLink RL 51 yX1_isExtension, Cond.instanceMethod yX1_isExtension, Cond.selects RX1 yX1_isExtension yX1_isExtension, Cond.code yX1_isExtension cX1_isExtension 2 (some .boolean), Cond.methodLink RL 135 yX2_isExtension, Cond.instanceMethod yX2_isExtension]
def wsL_law0_r15 : List Cond := [Cond.selects RX2 yX2_isExtension yX2_isExtension, Cond.code yX2_isExtension cX2_isExtension 2 (some .boolean), Cond.methodLink RX2 89 yX2_isStable, Cond.instanceMethod yX2_isStable, Cond.selects RX2 yX2_isStable yX2_isStable, Cond.code yX2_isStable cX2_isStable 2 (some .boolean), Cond.methodLink RL 136 yX1_extensionCount, Cond.instanceMethod yX1_extensionCount, Cond.selects RX1 yX1_extensionCount yX1_extensionCount, Cond.code yX1_extensionCount cX1_extensionCount 1 (some .int), Cond.methodLink RL 139 yX2_extensionCount, Cond.instanceMethod yX2_extensionCount, Cond.selects RX2 yX2_extensionCount yX2_extensionCount, Cond.code yX2_extensionCount cX2_extensionCount 1 (some .int), Cond.fieldLink RX2 92 "DefaultReasonerModel" "count" "I", Cond.methodLink RX2 95 yX2_find, Cond.instanceMethod yX2_find, Cond.selects RX2 yX2_find yX2_find, Cond.code yX2_find cX2_find 4 none, Cond.methodLink RL 140 yL_extension, Cond.static yL_extension, Cond.codeWith yL_extension cL_extension 4 (some .int) [(0, 9, 12, 13)], Cond.methodLink RL 55 yX1_extension, Cond.instanceMethod yX1_extension]
def wsL_law0_r16 : List Cond := [Cond.selects RX1 yX1_extension yX1_extension, Cond.code yX1_extension cX1_extension 2 (some .int), Cond.methodLink RX1 133 yX1_checkExtension, Cond.instanceMethod yX1_checkExtension, Cond.selects RX1 yX1_checkExtension yX1_checkExtension, Cond.code yX1_checkExtension cX1_checkExtension 2 none, Cond.methodLink RL 142 yX2_extension, Cond.instanceMethod yX2_extension, Cond.selects RX2 yX2_extension yX2_extension, Cond.code yX2_extension cX2_extension 2 (some .int), Cond.methodLink RX2 114 yX2_asks, Cond.instanceMethod yX2_asks, Cond.selects RX2 yX2_asks yX2_asks, Cond.code yX2_asks cX2_asks 2 (some .boolean), Cond.methodLink RL 143 yL_isPreferred, Cond.static yL_isPreferred, Cond.codeWith yL_isPreferred cL_isPreferred 4 (some .int) [(0, 16, 19, 13)], Cond.methodLink RL 58 yX1_isPreferred, Cond.instanceMethod yX1_isPreferred, Cond.selects RX1 yX1_isPreferred yX1_isPreferred, Cond.code yX1_isPreferred cX1_isPreferred 2 (some .boolean), Cond.methodLink RX1 136 yX1_findPreferred, Cond.instanceMethod yX1_findPreferred, Cond.selects RX1 yX1_findPreferred yX1_findPreferred]
def wsL_law0_r17 : List Cond := [Cond.code yX1_findPreferred cX1_findPreferred 3 none, Cond.fieldLink RX1 139 "DefaultReasoner" "preferredTotal" "I", Cond.fieldLink RX1 178 "DefaultReasoner" "ORDERS" "[I", Cond.methodLink RX1 146 yX1_layOut, Cond.instanceMethod yX1_layOut, Cond.selects RX1 yX1_layOut yX1_layOut, Cond.code yX1_layOut cX1_layOut 7 none, Cond.methodLink RX1 160 yX1_keepsPriorities, Cond.instanceMethod yX1_keepsPriorities, Cond.selects RX1 yX1_keepsPriorities yX1_keepsPriorities, Cond.code yX1_keepsPriorities cX1_keepsPriorities 4 (some .boolean), Cond.instanceMethod yX0_comesBeforeOneOf, Cond.selects RX0 yX0_comesBeforeOneOf yX0_comesBeforeOneOf, Cond.code yX0_comesBeforeOneOf cX0_comesBeforeOneOf 3 (some .boolean), Cond.methodLink RX1 203 yX1_endOfWalk, Cond.instanceMethod yX1_endOfWalk, Cond.selects RX1 yX1_endOfWalk yX1_endOfWalk, Cond.code yX1_endOfWalk cX1_endOfWalk 4 (some .int), Cond.methodLink RX1 152 yX1_firstUsable, Cond.instanceMethod yX1_firstUsable, Cond.selects RX1 yX1_firstUsable yX1_firstUsable, Cond.code yX1_firstUsable cX1_firstUsable 3 (some .int), Cond.methodLink RX1 206 yX1_markPreferred, Cond.instanceMethod yX1_markPreferred]
def wsL_law0_r18 : List Cond := [Cond.selects RX1 yX1_markPreferred yX1_markPreferred, Cond.code yX1_markPreferred cX1_markPreferred 3 none, Cond.methodLink RL 145 yX2_isPreferred, Cond.instanceMethod yX2_isPreferred, Cond.selects RX2 yX2_isPreferred yX2_isPreferred, Cond.code yX2_isPreferred cX2_isPreferred 2 (some .boolean), Cond.methodLink RX2 117 yX2_findPreferred, Cond.instanceMethod yX2_findPreferred, Cond.selects RX2 yX2_findPreferred yX2_findPreferred, Cond.code yX2_findPreferred cX2_findPreferred 5 none, Cond.methodLink RX2 98 yX2_orders, Cond.instanceMethod yX2_orders, Cond.selects RX2 yX2_orders yX2_orders, Cond.code yX2_orders cX2_orders 3 (some .int), Cond.methodLink RX2 102 yX2_setOrder, Cond.instanceMethod yX2_setOrder, Cond.selects RX2 yX2_setOrder yX2_setOrder, Cond.code yX2_setOrder cX2_setOrder 9 none, Cond.methodLink RX2 106 yX2_respects, Cond.instanceMethod yX2_respects, Cond.selects RX2 yX2_respects yX2_respects, Cond.code yX2_respects cX2_respects 4 (some .boolean), Cond.methodLink RX2 110 yX2_walk, Cond.instanceMethod yX2_walk]
def wsL_law0_r19 : List Cond := [Cond.selects RX2 yX2_walk yX2_walk, Cond.code yX2_walk cX2_walk 5 (some .int), Cond.methodLink RX2 123 yX2_first, Cond.instanceMethod yX2_first, Cond.selects RX2 yX2_first yX2_first, Cond.code yX2_first cX2_first 5 (some .int), Cond.methodLink RL 146 yX1_preferredCount, Cond.instanceMethod yX1_preferredCount, Cond.selects RX1 yX1_preferredCount yX1_preferredCount, Cond.code yX1_preferredCount cX1_preferredCount 1 (some .int), Cond.methodLink RL 149 yX2_preferredCount, Cond.instanceMethod yX2_preferredCount, Cond.selects RX2 yX2_preferredCount yX2_preferredCount, Cond.code yX2_preferredCount cX2_preferredCount 1 (some .int), Cond.methodLink RX2 120 yX2_preferred, Cond.instanceMethod yX2_preferred, Cond.selects RX2 yX2_preferred yX2_preferred, Cond.code yX2_preferred cX2_preferred 3 (some .int), Cond.methodLink RL 150 yL_supports, Cond.static yL_supports, Cond.codeWith yL_supports cL_supports 4 (some .int) [(0, 9, 12, 13)], Cond.methodLink RL 61 yX1_supports, Cond.instanceMethod yX1_supports, Cond.selects RX1 yX1_supports yX1_supports]
def wsL_law0_r20 : List Cond := [Cond.code yX1_supports cX1_supports 4 (some .int), Cond.methodLink RL 152 yX2_supports, Cond.instanceMethod yX2_supports, Cond.selects RX2 yX2_supports yX2_supports, Cond.code yX2_supports cX2_supports 4 (some .int), Cond.methodLink RL 153 yX1_common, Cond.instanceMethod yX1_common, Cond.selects RX1 yX1_common yX1_common, Cond.code yX1_common cX1_common 4 (some .int), Cond.methodLink RL 157 yX2_common, Cond.instanceMethod yX2_common, Cond.selects RX2 yX2_common yX2_common, Cond.code yX2_common cX2_common 4 (some .int), Cond.methodLink RL 158 yL_share, Cond.static yL_share, Cond.codeWith yL_share cL_share 4 (some .int) [(0, 8, 11, 13)], Cond.methodLink RL 64 yX1_share, Cond.instanceMethod yX1_share, Cond.selects RX1 yX1_share yX1_share, Cond.code yX1_share cX1_share 4 (some .double), Cond.methodLink RL 161 yX2_share, Cond.instanceMethod yX2_share, Cond.selects RX2 yX2_share yX2_share, Cond.code yX2_share cX2_share 5 (some .double)]
def wsL_law0_r21 : List Cond := [Cond.methodLink RL 162 yL_walk, Cond.static yL_walk, Cond.codeWith yL_walk cL_walk 4 (some .int) [(0, 9, 12, 19)], Cond.methodLink RL 68 yX1_walk, Cond.instanceMethod yX1_walk, Cond.selects RX1 yX1_walk yX1_walk, Cond.code yX1_walk cX1_walk 5 (some .int), Cond.fieldLink RX1 149 "DefaultReasoner" "latestTotal" "I", Cond.methodLink RX1 143 yX1_checkOrder, Cond.instanceMethod yX1_checkOrder, Cond.selects RX1 yX1_checkOrder yX1_checkOrder, Cond.code yX1_checkOrder cX1_checkOrder 2 none, Cond.methodLink RL 164 yX2_walk_, Cond.instanceMethod yX2_walk_, Cond.selects RX2 yX2_walk_ yX2_walk_, Cond.code yX2_walk_ cX2_walk_ 6 (some .int), Cond.fieldLink RX2 130 "DefaultReasonerModel" "applied" "I", Cond.methodLink RX2 127 yX2_isOrder, Cond.instanceMethod yX2_isOrder, Cond.selects RX2 yX2_isOrder yX2_isOrder, Cond.code yX2_isOrder cX2_isOrder 2 (some .boolean), Cond.methodLink RL 165 yX1_appliedCount, Cond.instanceMethod yX1_appliedCount, Cond.selects RX1 yX1_appliedCount yX1_appliedCount]
def wsL_law0_r22 : List Cond := [Cond.code yX1_appliedCount cX1_appliedCount 1 (some .int), Cond.methodLink RL 168 yX2_appliedCount, Cond.instanceMethod yX2_appliedCount, Cond.selects RX2 yX2_appliedCount yX2_appliedCount, Cond.code yX2_appliedCount cX2_appliedCount 1 (some .int), Cond.methodLink RL 169 yL_applied, Cond.static yL_applied, Cond.codeWith yL_applied cL_applied 4 (some .int) [(0, 9, 12, 13)], Cond.methodLink RL 71 yX1_applied, Cond.instanceMethod yX1_applied, Cond.selects RX1 yX1_applied yX1_applied, Cond.code yX1_applied cX1_applied 2 (some .int), Cond.methodLink RL 171 yX2_applied, Cond.instanceMethod yX2_applied, Cond.selects RX2 yX2_applied yX2_applied, Cond.code yX2_applied cX2_applied 2 (some .int), Cond.methodLink RL 172 yL_respects, Cond.static yL_respects, Cond.codeWith yL_respects cL_respects 4 (some .int) [(0, 16, 19, 19)], Cond.methodLink RL 74 yX1_respects, Cond.instanceMethod yX1_respects, Cond.selects RX1 yX1_respects yX1_respects, Cond.code yX1_respects cX1_respects 2 (some .boolean), Cond.methodLink RL 174 yX2_respects_]
def wsL_law0_r23 : List Cond := [Cond.instanceMethod yX2_respects_, Cond.selects RX2 yX2_respects_ yX2_respects_, Cond.code yX2_respects_ cX2_respects_ 3 (some .boolean), Cond.methodLink RL 175 yX1_digest, Cond.instanceMethod yX1_digest, Cond.selects RX1 yX1_digest yX1_digest, Cond.code yX1_digest cX1_digest 5 (some .long), Cond.constantLong RX1 164 (113), Cond.methodLink RX1 166 yX1_mix, Cond.static yX1_mix, Cond.code yX1_mix cX1_mix 4 (some .long), Cond.constantLong RX1 183 (31), Cond.methodLink RL 179 yX2_digest, Cond.instanceMethod yX2_digest, Cond.selects RX2 yX2_digest yX2_digest, Cond.code yX2_digest cX2_digest 5 (some .long), Cond.constantLong RX2 133 (3503), Cond.constantLong RX2 135 (31)]
def wsL_law0 : List Cond := (wsL_law0_r1 ++ (wsL_law0_r2 ++ (wsL_law0_r3 ++ (wsL_law0_r4 ++ (wsL_law0_r5 ++ (wsL_law0_r6 ++ (wsL_law0_r7 ++ (wsL_law0_r8 ++ (wsL_law0_r9 ++ (wsL_law0_r10 ++ (wsL_law0_r11 ++ (wsL_law0_r12 ++ (wsL_law0_r13 ++ (wsL_law0_r14 ++ (wsL_law0_r15 ++ (wsL_law0_r16 ++ (wsL_law0_r17 ++ (wsL_law0_r18 ++ (wsL_law0_r19 ++ (wsL_law0_r20 ++ (wsL_law0_r21 ++ (wsL_law0_r22 ++ wsL_law0_r23)))))))))))))))))))))) ++ wsX10 ++ wsX20 ++ wsX00 ++ ([] : List Cond)
def wsL_law : List Cond := wsL_law0 ++ (vx_atS RX1 159 "java/lang/IndexOutOfBoundsException" ["java/lang/RuntimeException", "java/lang/Exception"]).filter goodWord ++ (vx_atS RX1 76 "java/lang/IllegalStateException" ["java/lang/RuntimeException", "java/lang/Exception"]).filter goodWord ++ (vx_atS RX1 101 "java/lang/IllegalArgumentException" ["java/lang/RuntimeException", "java/lang/Exception"]).filter goodWord
set_option maxRecDepth 20000 in
theorem wsL_law0_r1_in : ∀ w ∈ wsL_law0_r1, w ∈ lw_tbl := fun w h => (goodIn_p wsL_law0_r1 [59, 62] (by decide +kernel) (by decide +kernel) w h).1
set_option maxRecDepth 20000 in
theorem wsL_law0_r2_in : ∀ w ∈ wsL_law0_r2, w ∈ lw_tbl := fun w h => (goodIn_p wsL_law0_r2 [67, 538] (by decide +kernel) (by decide +kernel) w h).1
set_option maxRecDepth 20000 in
theorem wsL_law0_r3_in : ∀ w ∈ wsL_law0_r3, w ∈ lw_tbl := fun w h => (goodIn_p wsL_law0_r3 [270, 273, 179, 345] (by decide +kernel) (by decide +kernel) w h).1
set_option maxRecDepth 20000 in
theorem wsL_law0_r4_in : ∀ w ∈ wsL_law0_r4, w ∈ lw_tbl := fun w h => (goodIn_p wsL_law0_r4 [593, 596, 589, 354] (by decide +kernel) (by decide +kernel) w h).1
set_option maxRecDepth 20000 in
theorem wsL_law0_r5_in : ∀ w ∈ wsL_law0_r5, w ∈ lw_tbl := fun w h => (goodIn_p wsL_law0_r5 [357, 600, 604, 607] (by decide +kernel) (by decide +kernel) w h).1
set_option maxRecDepth 20000 in
theorem wsL_law0_r6_in : ∀ w ∈ wsL_law0_r6, w ∈ lw_tbl := fun w h => (goodIn_p wsL_law0_r6 [396, 612, 404, 616] (by decide +kernel) (by decide +kernel) w h).1
set_option maxRecDepth 20000 in
theorem wsL_law0_r7_in : ∀ w ∈ wsL_law0_r7, w ∈ lw_tbl := fun w h => (goodIn_p wsL_law0_r7 [412, 417, 421, 620, 428] (by decide +kernel) (by decide +kernel) w h).1
set_option maxRecDepth 20000 in
theorem wsL_law0_r8_in : ∀ w ∈ wsL_law0_r8, w ∈ lw_tbl := fun w h => (goodIn_p wsL_law0_r8 [432, 261, 438, 624, 628, 632, 636] (by decide +kernel) (by decide +kernel) w h).1
set_option maxRecDepth 20000 in
theorem wsL_law0_r9_in : ∀ w ∈ wsL_law0_r9, w ∈ lw_tbl := fun w h => (goodIn_p wsL_law0_r9 [142, 146, 149, 156, 640] (by decide +kernel) (by decide +kernel) w h).1
set_option maxRecDepth 20000 in
theorem wsL_law0_r10_in : ∀ w ∈ wsL_law0_r10, w ∈ lw_tbl := fun w h => (goodIn_p wsL_law0_r10 [445, 644, 160, 648, 164, 652] (by decide +kernel) (by decide +kernel) w h).1
set_option maxRecDepth 20000 in
theorem wsL_law0_r11_in : ∀ w ∈ wsL_law0_r11, w ∈ lw_tbl := fun w h => (goodIn_p wsL_law0_r11 [452, 183, 186, 189, 656] (by decide +kernel) (by decide +kernel) w h).1
set_option maxRecDepth 20000 in
theorem wsL_law0_r12_in : ∀ w ∈ wsL_law0_r12, w ∈ lw_tbl := fun w h => (goodIn_p wsL_law0_r12 [660, 663, 459, 198, 667, 671] (by decide +kernel) (by decide +kernel) w h).1
end
section
set_option maxRecDepth 20000 in
theorem wsL_law0_r13_in : ∀ w ∈ wsL_law0_r13, w ∈ lw_tbl := fun w h => (goodIn_p wsL_law0_r13 [466, 172, 176, 194, 202] (by decide +kernel) (by decide +kernel) w h).1
set_option maxRecDepth 20000 in
theorem wsL_law0_r14_in : ∀ w ∈ wsL_law0_r14, w ∈ lw_tbl := fun w h => (goodIn_p wsL_law0_r14 [206, 675, 679, 683, 473] (by decide +kernel) (by decide +kernel) w h).1
set_option maxRecDepth 20000 in
theorem wsL_law0_r15_in : ∀ w ∈ wsL_law0_r15, w ∈ lw_tbl := fun w h => (goodIn_p wsL_law0_r15 [687, 691, 168, 695, 699] (by decide +kernel) (by decide +kernel) w h).1
set_option maxRecDepth 20000 in
theorem wsL_law0_r16_in : ∀ w ∈ wsL_law0_r16, w ∈ lw_tbl := fun w h => (goodIn_p wsL_law0_r16 [480, 484, 703, 707, 492] (by decide +kernel) (by decide +kernel) w h).1
set_option maxRecDepth 20000 in
theorem wsL_law0_r17_in : ∀ w ∈ wsL_law0_r17, w ∈ lw_tbl := fun w h => (goodIn_p wsL_law0_r17 [214, 220, 224, 228, 232, 236] (by decide +kernel) (by decide +kernel) w h).1
set_option maxRecDepth 20000 in
theorem wsL_law0_r18_in : ∀ w ∈ wsL_law0_r18, w ∈ lw_tbl := fun w h => (goodIn_p wsL_law0_r18 [240, 711, 715, 719, 723, 727] (by decide +kernel) (by decide +kernel) w h).1
set_option maxRecDepth 20000 in
theorem wsL_law0_r19_in : ∀ w ∈ wsL_law0_r19, w ∈ lw_tbl := fun w h => (goodIn_p wsL_law0_r19 [731, 735, 210, 739, 743] (by decide +kernel) (by decide +kernel) w h).1
set_option maxRecDepth 20000 in
theorem wsL_law0_r20_in : ∀ w ∈ wsL_law0_r20, w ∈ lw_tbl := fun w h => (goodIn_p wsL_law0_r20 [499, 747, 244, 751, 506, 755] (by decide +kernel) (by decide +kernel) w h).1
set_option maxRecDepth 20000 in
theorem wsL_law0_r21_in : ∀ w ∈ wsL_law0_r21, w ∈ lw_tbl := fun w h => (goodIn_p wsL_law0_r21 [513, 517, 759, 763] (by decide +kernel) (by decide +kernel) w h).1
set_option maxRecDepth 20000 in
theorem wsL_law0_r22_in : ∀ w ∈ wsL_law0_r22, w ∈ lw_tbl := fun w h => (goodIn_p wsL_law0_r22 [248, 767, 525, 771, 533] (by decide +kernel) (by decide +kernel) w h).1
set_option maxRecDepth 20000 in
theorem wsL_law0_r23_in : ∀ w ∈ wsL_law0_r23, w ∈ lw_tbl := fun w h => (goodIn_p wsL_law0_r23 [775, 252, 256, 779] (by decide +kernel) (by decide +kernel) w h).1
set_option maxRecDepth 20000 in
theorem wsX10_inT : ∀ w ∈ wsX10, w ∈ lw_tbl := by decide +kernel
set_option maxRecDepth 20000 in
theorem wsX20_inT : ∀ w ∈ wsX20, w ∈ lw_tbl := by decide +kernel
set_option maxRecDepth 20000 in
theorem wsX00_inT : ∀ w ∈ wsX00, w ∈ lw_tbl := by decide +kernel
theorem wsL_law_in0 : ∀ w ∈ wsL_law0, w ∈ lw_tbl := fun w h => by
  unfold wsL_law0 at h
  exact (List.mem_append.mp h).elim (fun h => (List.mem_append.mp h).elim (fun h => (List.mem_append.mp h).elim (fun h => (List.mem_append.mp h).elim (fun h => (List.mem_append.mp h).elim (fun h => wsL_law0_r1_in w h) (fun h => (List.mem_append.mp h).elim (fun h => wsL_law0_r2_in w h) (fun h => (List.mem_append.mp h).elim (fun h => wsL_law0_r3_in w h) (fun h => (List.mem_append.mp h).elim (fun h => wsL_law0_r4_in w h) (fun h => (List.mem_append.mp h).elim (fun h => wsL_law0_r5_in w h) (fun h => (List.mem_append.mp h).elim (fun h => wsL_law0_r6_in w h) (fun h => (List.mem_append.mp h).elim (fun h => wsL_law0_r7_in w h) (fun h => (List.mem_append.mp h).elim (fun h => wsL_law0_r8_in w h) (fun h => (List.mem_append.mp h).elim (fun h => wsL_law0_r9_in w h) (fun h => (List.mem_append.mp h).elim (fun h => wsL_law0_r10_in w h) (fun h => (List.mem_append.mp h).elim (fun h => wsL_law0_r11_in w h) (fun h => (List.mem_append.mp h).elim (fun h => wsL_law0_r12_in w h) (fun h => (List.mem_append.mp h).elim (fun h => wsL_law0_r13_in w h) (fun h => (List.mem_append.mp h).elim (fun h => wsL_law0_r14_in w h) (fun h => (List.mem_append.mp h).elim (fun h => wsL_law0_r15_in w h) (fun h => (List.mem_append.mp h).elim (fun h => wsL_law0_r16_in w h) (fun h => (List.mem_append.mp h).elim (fun h => wsL_law0_r17_in w h) (fun h => (List.mem_append.mp h).elim (fun h => wsL_law0_r18_in w h) (fun h => (List.mem_append.mp h).elim (fun h => wsL_law0_r19_in w h) (fun h => (List.mem_append.mp h).elim (fun h => wsL_law0_r20_in w h) (fun h => (List.mem_append.mp h).elim (fun h => wsL_law0_r21_in w h) (fun h => (List.mem_append.mp h).elim (fun h => wsL_law0_r22_in w h) (fun h => wsL_law0_r23_in w h))))))))))))))))))))))) (fun h => wsX10_inT w h)) (fun h => wsX20_inT w h)) (fun h => wsX00_inT w h)) (fun h => absurd h List.not_mem_nil)
theorem wsL_law_x0 : ∀ w ∈ (vx_atS RX1 159 "java/lang/IndexOutOfBoundsException" ["java/lang/RuntimeException", "java/lang/Exception"]).filter goodWord, w ∈ lw_tbl := by decide +kernel
theorem wsL_law_x1 : ∀ w ∈ (vx_atS RX1 76 "java/lang/IllegalStateException" ["java/lang/RuntimeException", "java/lang/Exception"]).filter goodWord, w ∈ lw_tbl := by decide +kernel
theorem wsL_law_x2 : ∀ w ∈ (vx_atS RX1 101 "java/lang/IllegalArgumentException" ["java/lang/RuntimeException", "java/lang/Exception"]).filter goodWord, w ∈ lw_tbl := by decide +kernel
theorem wsL_law_in : ∀ w ∈ wsL_law, w ∈ lw_tbl := fun w h => (List.mem_append.mp h).elim (fun h => (List.mem_append.mp h).elim (fun h => (List.mem_append.mp h).elim (fun h => wsL_law_in0 w h) (fun h => wsL_law_x0 w h)) (fun h => wsL_law_x1 w h)) (fun h => wsL_law_x2 w h)
theorem inlX0 : ∀ w ∈ wsX00, w ∈ wsL_law := fun _ h => List.mem_append_left _ (List.mem_append_left _ (List.mem_append_left _ (List.mem_append_left _ (List.mem_append_right _ h))))
theorem inX0 : ∀ w ∈ wsX00, w ∈ lw_tbl := fun w h => wsL_law_in w (inlX0 w h)
theorem inlX1 : ∀ w ∈ wsX10, w ∈ wsL_law := fun _ h => List.mem_append_left _ (List.mem_append_left _ (List.mem_append_left _ (List.mem_append_left _ (List.mem_append_left _ (List.mem_append_left _ (List.mem_append_right _ h))))))
theorem inX1 : ∀ w ∈ wsX10, w ∈ lw_tbl := fun w h => wsL_law_in w (inlX1 w h)
theorem inlX2 : ∀ w ∈ wsX20, w ∈ wsL_law := fun _ h => List.mem_append_left _ (List.mem_append_left _ (List.mem_append_left _ (List.mem_append_left _ (List.mem_append_left _ (List.mem_append_right _ h)))))
theorem inX2 : ∀ w ∈ wsX20, w ∈ lw_tbl := fun w h => wsL_law_in w (inlX2 w h)
theorem inJ6 : ∀ w ∈ wsJ60, w ∈ lw_tbl := by decide +kernel
theorem inJ0 : ∀ w ∈ wsJ00, w ∈ lw_tbl := by decide +kernel
abbrev vwCl : List vw_C := [(RX0, TX0, 2), (RX1, TX1, 20), (RX2, TX2, 15)]
end
section
/-! MY OWN KIT: worlds of single objects, one environment, contracts and calls in short -/
section GBase
abbrev gIO : String := "java/lang/IndexOutOfBoundsException"
abbrev gIA : String := "java/lang/IllegalArgumentException"
abbrev gIS : String := "java/lang/IllegalStateException"
/-- ids of the array classes: int[], boolean[], long[], double[] -/
abbrev gTy : Type := ClassId × ClassId × ClassId × ClassId
abbrev gTys (k : gTy) : List (ClassId × FieldType) := [(k.1, .int), (k.2.1, .boolean), (k.2.2.1, .long), (k.2.2.2, .double)]
/-- what stays through a run: ids of classes and fields, of array classes, the places of the texts, the place of ORDERS -/
abbrev gG : Type := va_G × gTy × (Nat → Nat) × Nat
/-- the number of orders of n defaults, as ORDERS has it -/
def gOrd (j : Nat) : Int32 := match j with
  | 0 => 1
  | 1 => 1
  | 2 => 2
  | 3 => 6
  | 4 => 24
  | 5 => 120
  | _ => 720
/-- the texts of the class's throws: place in its pool, text -/
def gStr : List (Nat × String) := [(74, "there are 16 strict rules"), (82, "there are 6 defaults"), (84, "there is no strict rule"), (86, "there is no default"), (99, "a default would come before itself"), (157, "the latest walk has no such index"), (170, "a literal is 0 to 15"), (172, "a set is 0 to 65535"), (174, "there is no such default"), (176, "there is no such extension"), (181, "there is no such order")]
def gCa (C T : String) (U : State) : Prop := ∃ c t : ClassId, U.vm.findClass C = some c ∧ U.vm.findClass T = some t ∧ U.vm.assignable c t = true
theorem gCa.moved {C T : String} {u U : State} (hvm : u.vm.Alike U.vm) (h : gCa C T u) : gCa C T U := by
  obtain ⟨c, t, h1, h2, h3⟩ := h
  exact ⟨c, t, by rw [hvm.findClass]; exact h1, by rw [hvm.findClass]; exact h2, by rw [hvm.assignable]; exact h3⟩
theorem gCa.of {args : Array Value} {s : State} {C T : String} (h : (Cond.castable C T).before args s = true) : gCa C T s := by
  obtain ⟨c, t, h1, h2, h3⟩ := Cond.castable_spec h
  exact ⟨c, t, h1, h2, h3⟩
theorem gCa.use {args : Array Value} {s : State} {C T : String} (h : gCa C T s) : (Cond.castable C T).before args s = true := by
  obtain ⟨c, t, h1, h2, h3⟩ := h
  simp [Cond.before, Cond.holds, Cond.value, h1, h2, h3]
def gNest : List Cond := [.methodLinkNest RX1 27 yX0_init RX1, .methodLinkNest RX1 110 yX0_pairs RX1, .methodLinkNest RX1 114 yX0_clear RX1]
def gSup : List String := ["java/lang/RuntimeException", "java/lang/Exception"]
def gDecs : List Cond := [.declares (Bundle.initS "java/lang/RuntimeException"), .declares (Bundle.initS "java/lang/Exception"), .declares (Bundle.initS Bundle.tN)]
/-- of the tables: texts, castable or not, nest mates, constructors above -/
def gTab (sa : Nat → Nat) (U : State) : Prop := (∀ q ∈ gStr, vk_R RX1 q.1 q.2 (sa q.1) U) ∧ (gCa gIO gIO U ∧ gCa gIA gIA U ∧ gCa gIS gIS U) ∧ (va_Nc gIA gIO U ∧ va_Nc gIS gIO U ∧ va_Nc gIS gIA U) ∧ (∀ w ∈ gNest, va_Nw w U) ∧ ∀ w ∈ gDecs, va_Nw w U
theorem gTab.same {sa : Nat → Nat} {u U : State} (hv : U.vm = u.vm) (h : gTab sa u) : gTab sa U := by
  have ha : u.vm.Alike U.vm := by rw [hv]; exact Vm.Alike.refl u.vm
  obtain ⟨h1, ⟨a1, a2, a3⟩, ⟨b1, b2, b3⟩, h4, h5⟩ := h
  refine ⟨fun q hq => vk_R.same hv (h1 q hq), ⟨a1.moved ha, a2.moved ha, a3.moved ha⟩, ⟨b1.moved ha, b2.moved ha, b3.moved ha⟩, fun w hw => ?_, fun w hw => ?_⟩
  · have hz := h4 w hw
    simp only [gNest, List.mem_cons, List.not_mem_nil, or_false] at hw
    rcases hw with rfl | rfl | rfl <;> exact va_Nw.same rfl hv.symm hz
  · have hz := h5 w hw
    simp only [gDecs, List.mem_cons, List.not_mem_nil, or_false] at hw
    rcases hw with rfl | rfl | rfl <;> exact va_Nw.same rfl hv.symm hz
theorem gTab.warm {sa : Nat → Nat} {s U : State} (hW : s.WarmedH U.vm) (h : gTab sa s) : gTab sa U := by
  have ha : s.vm.Alike U.vm := hW.alike
  obtain ⟨h1, ⟨a1, a2, a3⟩, ⟨b1, b2, b3⟩, h4, h5⟩ := h
  refine ⟨fun q hq => vk_R.warm hW (h1 q hq), ⟨a1.moved ha, a2.moved ha, a3.moved ha⟩, ⟨b1.moved ha, b2.moved ha, b3.moved ha⟩, fun w hw => ?_, fun w hw => ?_⟩
  · have hz := h4 w hw
    simp only [gNest, List.mem_cons, List.not_mem_nil, or_false] at hw
    rcases hw with rfl | rfl | rfl <;> exact va_Nw.warmM hW hz
  · have hz := h5 w hw
    simp only [gDecs, List.mem_cons, List.not_mem_nil, or_false] at hw
    rcases hw with rfl | rfl | rfl <;> exact va_Nw.warmD hW hz
/-- of statics: those that a throw carries, and ORDERS -/
def gSta (oA : Nat) (A : Nat → Prop) (U : State) (H : Heap) : Prop := vx_Zq Bundle.tN "UNASSIGNED_STACK" Bundle.steD A U H ∧ vx_Zq Bundle.tN "SUPPRESSED_SENTINEL" Bundle.listD A U H ∧ va_Z RX1 "ORDERS" "[I" (.ref oA) A U H ∧ va_T .int oA 7 (fun j => .int (gOrd j)) A U H
theorem gSta.moved {oA : Nat} {A : Nat → Prop} {u U : State} {H : Heap} (hvm : u.vm.Alike U.vm) (h : gSta oA A u H) : gSta oA A U H := ⟨h.1.moved hvm, h.2.1.moved hvm, h.2.2.1.moved hvm, h.2.2.2.moved hvm⟩
theorem gSta.kept {oA : Nat} {A : Nat → Prop} {U : State} {H H1 : Heap} (h : gSta oA A U H) (hq : ∀ a : Nat, a < H.size → ¬ A a → H1[a]? = H[a]?) : gSta oA A U H1 := ⟨h.1.kept hq, h.2.1.kept hq, h.2.2.1.kept hq, h.2.2.2.kept hq⟩
theorem gSta.narrow {oA : Nat} {A B : Nat → Prop} {U : State} {H : Heap} (h : gSta oA A U H) (hAB : ∀ q, B q → A q) : gSta oA B U H := ⟨h.1.narrow hAB, h.2.1.narrow hAB, h.2.2.1.narrow hAB, h.2.2.2.narrow hAB⟩
def gEnv (g : gG) (A : Nat → Prop) (U : State) (H : Heap) : Prop := gTab g.2.2.1 U ∧ gSta g.2.2.2 A U H
/-- a contract's start: the cells ws lie apart in the heap, the classes are known, the environment stands -/
def gPre (g : gG) (ws : va_W) (sz : Nat) (U : State) : Prop := U.heap.size = sz ∧ va_P g.1 vwCl ws U.heap ∧ va_K g.1 vwCl (gTys g.2.1) U ∧ va_D (fun _ => True) ws ∧ gEnv g (va_A ws sz) U U.heap
/-- .. and its end -/
def gPost (g : gG) (A : Nat → Prop) (ws : va_W) (t : State) : Prop := va_P g.1 vwCl ws t.heap ∧ va_D A ws
theorem gPre.blind {g : gG} {av : List Value} {ws : va_W} {sz : Nat} : FrameBlind (va_Pc av (gPre g ws sz)) := by
  intro a U f mk q
  obtain ⟨q0, q1, qP, qK, qD, qT, qS⟩ := q
  exact ⟨q0, q1, qP, va_K.moved (u := U) (U := U.calling f mk a) (Vm.Alike.refl U.vm) qK, qD, qT.same (u := U) (U := U.calling f mk a) rfl, qS.moved (u := U) (U := U.calling f mk a) (Vm.Alike.refl U.vm)⟩
/-- contracts: void, int (and boolean), long, double; then those that may throw -/
abbrev gMv (l : Launch) (y : MethodName) (wy : List Cond) (rm : Room) (g : gG) (av : List Value) (ws : va_W) (sz : Nat) {S : Type} (post : S → Prop) (ws' : S → va_W) (mc ms : Nat) : Prop :=
  Met l y wy rm (va_Pc av (gPre g ws sz)) (va_Qv post (fun u t => gPost g (va_A ws sz) (ws' u) t) (va_A ws sz)) mc ms (va_A ws sz)
abbrev gMi (l : Launch) (y : MethodName) (wy : List Cond) (rm : Room) (g : gG) (av : List Value) (ws : va_W) (sz : Nat) {S : Type} (post : Int32 → S → Prop) (ws' : S → va_W) (mc ms : Nat) : Prop :=
  Met l y wy rm (va_Pc av (gPre g ws sz)) (va_Qi post (fun u t => gPost g (va_A ws sz) (ws' u) t) (va_A ws sz)) mc ms (va_A ws sz)
abbrev gMl (l : Launch) (y : MethodName) (wy : List Cond) (rm : Room) (g : gG) (av : List Value) (ws : va_W) (sz : Nat) {S : Type} (post : Int64 → S → Prop) (ws' : S → va_W) (mc ms : Nat) : Prop :=
  Met l y wy rm (va_Pc av (gPre g ws sz)) (va_Ql post (fun u t => gPost g (va_A ws sz) (ws' u) t) (va_A ws sz)) mc ms (va_A ws sz)
abbrev gMd (l : Launch) (y : MethodName) (wy : List Cond) (rm : Room) (g : gG) (av : List Value) (ws : va_W) (sz : Nat) {S : Type} (post : UInt64 → S → Prop) (ws' : S → va_W) (mc ms : Nat) : Prop :=
  Met l y wy rm (va_Pc av (gPre g ws sz)) (va_Qd post (fun u t => gPost g (va_A ws sz) (ws' u) t) (va_A ws sz)) mc ms (va_A ws sz)
/-- what is said where one throws: of the class of what is thrown -/
abbrev gThr (px : String → Prop) (A : Nat → Prop) : String → State → State → Prop := vx_X (fun _ : Unit => True) (fun E _ _ => px E) A
abbrev gXv (l : Launch) (y : MethodName) (wy : List Cond) (rm : Room) (g : gG) (av : List Value) (ws : va_W) (sz : Nat) {S : Type} (post : S → Prop) (ws' : S → va_W) (px : String → Prop) (mc ms : Nat) : Prop :=
  vx_Met l y wy rm (va_Pc av (gPre g ws sz)) (va_Qv post (fun u t => gPost g (va_A ws sz) (ws' u) t) (va_A ws sz)) (gThr px (va_A ws sz)) mc ms (va_A ws sz)
abbrev gXi (l : Launch) (y : MethodName) (wy : List Cond) (rm : Room) (g : gG) (av : List Value) (ws : va_W) (sz : Nat) {S : Type} (post : Int32 → S → Prop) (ws' : S → va_W) (px : String → Prop) (mc ms : Nat) : Prop :=
  vx_Met l y wy rm (va_Pc av (gPre g ws sz)) (va_Qi post (fun u t => gPost g (va_A ws sz) (ws' u) t) (va_A ws sz)) (gThr px (va_A ws sz)) mc ms (va_A ws sz)
abbrev gXd (l : Launch) (y : MethodName) (wy : List Cond) (rm : Room) (g : gG) (av : List Value) (ws : va_W) (sz : Nat) {S : Type} (post : UInt64 → S → Prop) (ws' : S → va_W) (px : String → Prop) (mc ms : Nat) : Prop :=
  vx_Met l y wy rm (va_Pc av (gPre g ws sz)) (va_Qd post (fun u t => gPost g (va_A ws sz) (ws' u) t) (va_A ws sz)) (gThr px (va_A ws sz)) mc ms (va_A ws sz)
/-- a body's start -/
theorem g_of {l : Launch} {y : MethodName} {wy ws0 : List Cond} {rm : Room} {cc : ByteArray} {maxL : Nat} {ret : Option FieldType} {g : gG} {av : List Value} {ws : va_W} {sz mc ms : Nat} {Qc : (Nat → Prop) → Array Value → State → Outcome → State → Prop}
    (hy : plainName y.cls = true) (hw : wy = Cond.code y cc maxL ret :: ws0) (hlen : (lg_sl av).length ≤ maxL)
    (body : ∀ (p : Program) (e : Env) (s : State) (m : MethodId) (below : List Frame) (meth : Method) (c : Code) (A : Nat → Prop) (ls : Array Slot), p.tables.exec = Jvm.exec → c.code = cc → meth.sig.returnType = ret → c.maxLocals = maxL → s.vm.findClass y.cls = some m.cls → (∀ w ∈ wy, w.before av.toArray s = true) → meth.locks = false → meth.name = y.name →
      (∀ q, s.heap.size ≤ q → A q) → va_K g.1 vwCl (gTys g.2.1) s → gEnv g A s s.heap → va_P g.1 vwCl ws s.heap → va_D A ws → va_S A s.heap s.heap [] → lv_has ls maxL (lv_args 0 av) →
      W p l e rm s m av.toArray below meth c s.heap [] 0 0 (MQ below (Qc A) av.toArray s mc ms A) (F0 m 0 ls [])) :
    Met l y wy rm (va_Pc av (gPre g ws sz)) (Qc (va_A ws sz)) mc ms (va_A ws sz) := by
  refine Met.ofW (cc := cc) (maxL := maxL) (ret := ret) hy hw ?_
  intro p e s m args below meth c s₁ B hml hv
  obtain ⟨rfl, hsz, hP, hK, hD0, hE⟩ := hv
  subst hsz
  rw [lg_entry_eq]
  exact body p e s m below meth c (va_A ws s.heap.size) _ B.exec B.bytes B.returns hml (findClass_of_methodNamed B.named) (atoms_spec (ws := wy) B.pre) B.notSynchronized (name_of_methodNamed B.named B.method).1 (fun q h => Or.inr h) hK hE hP (hD0.self (sz := s.heap.size)) va_S.rf (lv_entry av (n := maxL) hlen)
theorem gx_of {l : Launch} {y : MethodName} {wy ws0 : List Cond} {rm : Room} {cc : ByteArray} {maxL : Nat} {ret : Option FieldType} {g : gG} {av : List Value} {ws : va_W} {sz mc ms : Nat} {Qc : (Nat → Prop) → Array Value → State → Outcome → State → Prop} {XC : (Nat → Prop) → String → State → State → Prop}
    (hy : plainName y.cls = true) (hw : wy = Cond.code y cc maxL ret :: ws0) (hlen : (lg_sl av).length ≤ maxL)
    (body : ∀ (p : Program) (e : Env) (s : State) (m : MethodId) (below : List Frame) (meth : Method) (c : Code) (A : Nat → Prop) (ls : Array Slot), p.tables.exec = Jvm.exec → c.code = cc → meth.sig.returnType = ret → c.maxLocals = maxL → s.vm.findClass y.cls = some m.cls → (∀ w ∈ wy, w.before av.toArray s = true) → meth.locks = false → (∀ x ∈ c.exceptionTable.toList, False) →
      (∀ q, s.heap.size ≤ q → A q) → va_K g.1 vwCl (gTys g.2.1) s → gEnv g A s s.heap → va_P g.1 vwCl ws s.heap → va_D A ws → va_S A s.heap s.heap [] → lv_has ls maxL (lv_args 0 av) →
      W p l e rm s m av.toArray below meth c s.heap [] 0 0 (vx_MQ below (Qc A) (XC A) av.toArray s mc ms A) (F0 m 0 ls [])) :
    vx_Met l y wy rm (va_Pc av (gPre g ws sz)) (Qc (va_A ws sz)) (XC (va_A ws sz)) mc ms (va_A ws sz) := by
  refine vx_ofW (cc := cc) (maxL := maxL) (ret := ret) hy hw ?_
  intro p e s m args below meth c s₁ B hml htab hv
  obtain ⟨rfl, hsz, hP, hK, hD0, hE⟩ := hv
  subst hsz
  rw [lg_entry_eq]
  exact body p e s m below meth c (va_A ws s.heap.size) _ B.exec B.bytes B.returns hml (findClass_of_methodNamed B.named) (atoms_spec (ws := wy) B.pre) B.notSynchronized htab (fun q h => Or.inr h) hK hE hP (hD0.self (sz := s.heap.size)) va_S.rf (lv_entry av (n := maxL) hlen)
/-- .. of a method with handlers that lets nothing out -/
theorem gh_of {l : Launch} {y : MethodName} {wy ws0 : List Cond} {rm : Room} {cc : ByteArray} {maxL : Nat} {ret : Option FieldType} {hh : List (Nat × Nat × Nat × Nat)} {g : gG} {av : List Value} {ws : va_W} {sz mc ms : Nat} {Qc : (Nat → Prop) → Array Value → State → Outcome → State → Prop}
    (hy : plainName y.cls = true) (hw : wy = Cond.codeWith y cc maxL ret hh :: ws0) (hlen : (lg_sl av).length ≤ maxL)
    (body : ∀ (p : Program) (e : Env) (s : State) (m : MethodId) (below : List Frame) (meth : Method) (c : Code) (A : Nat → Prop) (ls : Array Slot), p.tables.exec = Jvm.exec → c.code = cc → meth.sig.returnType = ret → c.maxLocals = maxL → s.vm.findClass y.cls = some m.cls → (∀ w ∈ wy, w.before av.toArray s = true) → meth.locks = false → c.exceptionTable.toList = tableOf hh →
      (∀ q, s.heap.size ≤ q → A q) → va_K g.1 vwCl (gTys g.2.1) s → gEnv g A s s.heap → va_P g.1 vwCl ws s.heap → va_D A ws → va_S A s.heap s.heap [] → lv_has ls maxL (lv_args 0 av) →
      W p l e rm s m av.toArray below meth c s.heap [] 0 0 (MQ below (Qc A) av.toArray s mc ms A) (F0 m 0 ls [])) :
    Met l y wy rm (va_Pc av (gPre g ws sz)) (Qc (va_A ws sz)) mc ms (va_A ws sz) := by
  refine va_MetW (cc := cc) (maxL := maxL) (ret := ret) (hh := hh) hy hw ?_
  intro p e s m args below meth c s₁ B hml hv
  obtain ⟨rfl, hsz, hP, hK, hD0, hE⟩ := hv
  subst hsz
  rw [lg_entry_eq]
  have hts := atoms_spec (ws := wy) B.pre
  exact body p e s m below meth c (va_A ws s.heap.size) _ B.exec B.bytes B.returns hml (findClass_of_methodNamed B.named) hts B.notSynchronized (vx_table (x := y) B (hts _ (by rw [hw]; exact List.mem_cons_self))) (fun q h => Or.inr h) hK hE hP (hD0.self (sz := s.heap.size)) va_S.rf (lv_entry av (n := maxL) hlen)
end GBase
end
section
section GRows
variable {p : Program} {l : Launch} {e : Env} {R : Room} {s : State} {m : MethodId} {args : Array Value} {below : List Frame} {meth : Method} {c : Code} {H : Heap} {locs : List Loc} {cells slots : Nat} {Q : State → Prop}
variable {cc : ByteArray} {pc : Nat} {ls : Array Slot} {rest st0 : List Value} {A : Nat → Prop} {g : gG} {ws : va_W}
/-- another text for what lies on top -/
theorem sy_i {x y : Int32} (h : x = y) (k : W p l e R s m args below meth c H locs cells slots Q (F0 m pc ls (.int y :: rest))) : W p l e R s m args below meth c H locs cells slots Q (F0 m pc ls (.int x :: rest)) := h ▸ k
theorem sy_l {x y : Int64} (h : x = y) (k : W p l e R s m args below meth c H locs cells slots Q (F0 m pc ls (.long y :: rest))) : W p l e R s m args below meth c H locs cells slots Q (F0 m pc ls (.long x :: rest)) := h ▸ k
theorem sy_d {x y : UInt64} (h : x = y) (k : W p l e R s m args below meth c H locs cells slots Q (F0 m pc ls (.double y :: rest))) : W p l e R s m args below meth c H locs cells slots Q (F0 m pc ls (.double x :: rest)) := h ▸ k
/-- ends -/
theorem g_ir {S : Type} {post : Int32 → S → Prop} {ws' : S → va_W} {v : Int32} {mc ms : Nat} (hx : p.tables.exec = Jvm.exec) (hb : c.code = cc) (hr : meth.sig.returnType = some .int) (hlocks : meth.locks = false) (hP : va_P g.1 vwCl ws H) (hD : va_D A ws) (hS : va_S A s.heap H locs) (u : S) (is : List Nat) (h1 : is.filterMap (fun i => ws[i]?) = ws' u) (hn : va_nd is = true) (h2 : is.map (fun i => ws[i]?) = (ws' u).map some) (hdg : decode cc pc = .ok (.ireturn, 1)) (hc : cells ≤ mc) (hs : slots ≤ ms) (hp : post v u) :
    W p l e R s m args below meth c H locs cells slots (MQ below (va_Qi post (fun u t => gPost g A (ws' u) t) A) args s mc ms A) (F0 m pc ls [.int v]) :=
  W.widen hc hs (W.iret (v := v) hx hb hr (fun t ht hW => ⟨⟨v, u, rfl, hp, by rw [ht]; exact hP.sub is h1, hD.sub is hn h2⟩, hS.F ht⟩) hS.2.2 hdg hlocks)
theorem g_zr {S : Type} {post : Int32 → S → Prop} {ws' : S → va_W} {v : Int32} {mc ms : Nat} (hx : p.tables.exec = Jvm.exec) (hb : c.code = cc) (hr : meth.sig.returnType = some .boolean) (hlocks : meth.locks = false) (hP : va_P g.1 vwCl ws H) (hD : va_D A ws) (hS : va_S A s.heap H locs) (u : S) (is : List Nat) (h1 : is.filterMap (fun i => ws[i]?) = ws' u) (hn : va_nd is = true) (h2 : is.map (fun i => ws[i]?) = (ws' u).map some) (hdg : decode cc pc = .ok (.ireturn, 1)) (hc : cells ≤ mc) (hs : slots ≤ ms) (hv : v = 0 ∨ v = 1) (hp : post v u) :
    W p l e R s m args below meth c H locs cells slots (MQ below (va_Qi post (fun u t => gPost g A (ws' u) t) A) args s mc ms A) (F0 m pc ls [.int v]) :=
  W.widen hc hs (W.zret (v := v) hx hb hr (by rcases hv with rfl | rfl <;> rfl) (fun t ht hW => ⟨⟨v, u, rfl, hp, by rw [ht]; exact hP.sub is h1, hD.sub is hn h2⟩, hS.F ht⟩) hS.2.2 hdg hlocks)
theorem g_lr {S : Type} {post : Int64 → S → Prop} {ws' : S → va_W} {v : Int64} {mc ms : Nat} (hx : p.tables.exec = Jvm.exec) (hb : c.code = cc) (hr : meth.sig.returnType = some .long) (hlocks : meth.locks = false) (hP : va_P g.1 vwCl ws H) (hD : va_D A ws) (hS : va_S A s.heap H locs) (u : S) (is : List Nat) (h1 : is.filterMap (fun i => ws[i]?) = ws' u) (hn : va_nd is = true) (h2 : is.map (fun i => ws[i]?) = (ws' u).map some) (hdg : decode cc pc = .ok (.lreturn, 1)) (hc : cells ≤ mc) (hs : slots ≤ ms) (hp : post v u) :
    W p l e R s m args below meth c H locs cells slots (MQ below (va_Ql post (fun u t => gPost g A (ws' u) t) A) args s mc ms A) (F0 m pc ls [.long v]) :=
  W.widen hc hs (W.lret (v := v) hx hb hr (fun t ht hW => ⟨⟨v, u, rfl, hp, by rw [ht]; exact hP.sub is h1, hD.sub is hn h2⟩, hS.F ht⟩) hS.2.2 hdg hlocks)
theorem g_dr {S : Type} {post : UInt64 → S → Prop} {ws' : S → va_W} {v : UInt64} {mc ms : Nat} (hx : p.tables.exec = Jvm.exec) (hb : c.code = cc) (hr : meth.sig.returnType = some .double) (hlocks : meth.locks = false) (hP : va_P g.1 vwCl ws H) (hD : va_D A ws) (hS : va_S A s.heap H locs) (u : S) (is : List Nat) (h1 : is.filterMap (fun i => ws[i]?) = ws' u) (hn : va_nd is = true) (h2 : is.map (fun i => ws[i]?) = (ws' u).map some) (hdg : decode cc pc = .ok (.dreturn, 1)) (hc : cells ≤ mc) (hs : slots ≤ ms) (hp : post v u) :
    W p l e R s m args below meth c H locs cells slots (MQ below (va_Qd post (fun u t => gPost g A (ws' u) t) A) args s mc ms A) (F0 m pc ls [.double v]) :=
  W.widen hc hs (W.dret (v := v) hx hb hr (fun t ht hW => ⟨⟨v, u, rfl, hp, by rw [ht]; exact hP.sub is h1, hD.sub is hn h2⟩, hS.F ht⟩) hS.2.2 hdg hlocks)
theorem g_vr {S : Type} {post : S → Prop} {ws' : S → va_W} {mc ms : Nat} (hx : p.tables.exec = Jvm.exec) (hb : c.code = cc) (hr : meth.sig.returnType = none) (hlocks : meth.locks = false) (hP : va_P g.1 vwCl ws H) (hD : va_D A ws) (hS : va_S A s.heap H locs) (u : S) (is : List Nat) (h1 : is.filterMap (fun i => ws[i]?) = ws' u) (hn : va_nd is = true) (h2 : is.map (fun i => ws[i]?) = (ws' u).map some) (hdg : decode cc pc = .ok (.return_, 1)) (hc : cells ≤ mc) (hs : slots ≤ ms) (hp : post u) :
    W p l e R s m args below meth c H locs cells slots (MQ below (va_Qv post (fun u t => gPost g A (ws' u) t) A) args s mc ms A) (F0 m pc ls []) :=
  W.widen hc hs (W.vret hx hb hr (fun t ht hW => ⟨⟨u, rfl, hp, by rw [ht]; exact hP.sub is h1, hD.sub is hn h2⟩, hS.F ht⟩) hS.2.2 hdg hlocks)
/-- a new array, its class known -/
theorem g_newa (hx : p.tables.exec = Jvm.exec) (hb : c.code = cc) {atype : ArrayType} (harr : (Cond.arrayClass (newarray.typeOf atype)).before args s = true) {ty : FieldType} (hty : newarray.typeOf atype = ty) (hK : va_K g.1 vwCl (gTys g.2.1) s) (t0 : Nat) {cA : ClassId} (ht : (gTys g.2.1)[t0]? = some (cA, ty)) (hra : ∀ z : ClassId, va_RA s z ty → s.vm.findClass ("[" ++ ty.toString) = some z) (hP : va_P g.1 vwCl ws H) (hD : va_D A ws) (hS : va_S A s.heap H locs) (hA : ∀ q, s.heap.size ≤ q → A q)
    {n : Int32} {N' : Nat} {a0 : vp_A} (ha : ∀ cA : ClassId, vp_cell cA a0 = arrV cA N' (fun _ => defaultValue ty)) (hn : ¬ n < 0) (hN : n.toNatClampNeg = N') (hbytes : N' * componentBytes ty ≤ 536870912) (hcells : cells + 1 ≤ R.cells) (hslots : slots + N' ≤ R.slots) (hdg : decode cc pc = .ok (.newarray atype, 2))
    (kk : ∀ (q : Nat) (H1 : Heap), va_P g.1 vwCl (ws ++ [(q, .inl (cA, a0))]) H1 → va_D A (ws ++ [(q, .inl (cA, a0))]) → va_S A s.heap H1 locs →
      W p l e R s m args below meth c H1 locs (cells + 1) (slots + N') Q (F0 m (pc + 2) ls (.ref q :: rest))) : W p l e R s m args below meth c H locs cells slots Q (F0 m pc ls (.int n :: rest)) := by
  refine va_newa hx hb harr hty hK hP hD hS hA ha hn hN hbytes hcells hslots hdg (fun q cB H1 hK1 hP1 hD1 hS1 => ?_)
  have e1 := hra _ (hK1.2 4 (cB, ty) rfl).2
  have e2 := hra _ (hK.2 t0 _ ht).2
  have e3 : cB = cA := Option.some.inj (e1.symm.trans e2)
  subst e3
  exact kk q H1 hP1 hD1 hS1
/-- the environment where a callee starts -/
theorem gEnv.to {wc : va_W} {U : State} (hE : gEnv g A s s.heap) (hS : va_S A s.heap H locs) (hFc : ∀ q, va_A wc H.size q → A q) (hU : U.heap = H) (hW : s.WarmedH U.vm) : gEnv g (va_A wc H.size) U U.heap := by
  rw [hU]
  exact ⟨hE.1.warm hW, ((hE.2.kept hS.2.1).narrow hFc).moved hW.alike⟩
section Runs
variable {y : MethodName} {wy ws0 : List Cond} {rm : Room} {As : List Value} {b : Nat} {wc : va_W} {mc ms n index maxL nL ci N q0 : Nat} {bytes : ByteArray} {ret : Option FieldType} {Ts : List Cond} {own C host : String} {T : u_T} {fs : List Value} {Qc : Array Value → State → Outcome → State → Prop} {XC : String → State → State → Prop} {free : Addr → Prop} {hh : List (Nat × Nat × Nat × Nat)}
theorem gp_S (hK : va_K g.1 vwCl (gTys g.2.1) s) (hE : gEnv g A s s.heap) (hA : ∀ q, s.heap.size ≤ q → A q) (hP : va_P g.1 vwCl ws H) (hD : va_D A ws) (hS : va_S A s.heap H locs) (isC : List Nat) (h1 : isC.filterMap (fun i => ws[i]?) = wc) (hnC : va_nd isC = true) (hC : isC.map (fun i => ws[i]?) = wc.map some) : PreS s H (va_Pc As (gPre g wc H.size)) As := by
  have hFc := va_free (wc := wc) hD hS hA isC hC
  have hDc : va_D A wc := hD.sub isC hnC hC
  exact ⟨gPre.blind, fun U hU hW => ⟨rfl, by rw [hU], by rw [hU]; exact hP.sub isC h1, va_K.moved hW.alike hK, hDc.weaken (fun _ _ _ _ => trivial), hE.to hS hFc hU hW⟩⟩
theorem gp_V (hK : va_K g.1 vwCl (gTys g.2.1) s) (hE : gEnv g A s s.heap) (hA : ∀ q, s.heap.size ≤ q → A q) (hP : va_P g.1 vwCl ws H) (hD : va_D A ws) (hS : va_S A s.heap H locs) (isC : List Nat) (h1 : isC.filterMap (fun i => ws[i]?) = wc) (hnC : va_nd isC = true) (hC : isC.map (fun i => ws[i]?) = wc.map some) (he : wc[q0]? = some (b, .inr (ci, fs))) (hcl : vwCl[ci]? = some (C, T, N)) : PreV s H C b (va_Pc (.ref b :: As) (gPre g wc H.size)) As := by
  have hPc : va_P g.1 vwCl wc H := hP.sub isC h1
  exact ⟨gPre.blind, va_recv hK hPc hcl he, (gp_S hK hE hA hP hD hS isC h1 hnC hC).2⟩
theorem gr_V (F : CallFix p m c cc nL s args Ts own) (hM : Met l y wy rm (va_Pc (.ref b :: As) (gPre g wc H.size)) Qc mc ms free) (hG : GoodIn Ts (wsV own index C y wy)) (hw : wy = Cond.code y bytes maxL ret :: ws0) (hrc : rm.cells = mc) (hrs : rm.slots = ms)
    (hd : y.cls = C ∧ y.cls ≠ "java/lang/invoke/MethodHandle" ∧ y.cls ≠ "java/lang/invoke/VarHandle" ∧ (parseMethodDescriptor y.desc).map (fun d => d.parameters.length) = some n) (hR : rm.frames + 1 ≤ R.frames ∧ 8 + (maxL + 11) + rm.locals ≤ R.locals) (hp : PreV s H C b (va_Pc (.ref b :: As) (gPre g wc H.size)) As)
    (hn : As.length = n) (hl : ls.size = nL) (hst : st0 = As.reverse ++ .ref b :: rest) (hrm : (rest.map fun v => v.category).sum ≤ 8) (hdg : decode cc pc = .ok (.invokevirtual index, 3)) (hf : cells + mc ≤ R.cells ∧ slots + ms ≤ R.slots) :
    va_Run p l e R s m args below meth c H locs cells slots mc ms (F0 m pc ls st0) rest (Qc (Value.ref b :: As).toArray) free :=
  va_runV F hM (cwV n F.2.2.2.2 hG hw hrc hrs hd hR) hp rfl hn hl hst (lv_room hrm) hdg hf
theorem gr_S (F : CallFix p m c cc nL s args Ts own) (hM : Met l y wy rm (va_Pc As (gPre g wc H.size)) Qc mc ms free) (hG : GoodIn Ts (va_wsS own index y wy)) (hw : wy = Cond.code y bytes maxL ret :: ws0) (hrc : rm.cells = mc) (hrs : rm.slots = ms)
    (hd : y.cls ≠ "java/lang/invoke/MethodHandle" ∧ y.cls ≠ "java/lang/invoke/VarHandle" ∧ (parseMethodDescriptor y.desc).map (fun d => d.parameters.length) = some n) (hR : rm.frames + 1 ≤ R.frames ∧ 8 + (maxL + 11) + rm.locals ≤ R.locals) (hp : PreS s H (va_Pc As (gPre g wc H.size)) As)
    (hn : As.length = n) (hl : ls.size = nL) (hst : st0 = As.reverse ++ rest) (hrm : (rest.map fun v => v.category).sum ≤ 8) (hdg : decode cc pc = .ok (.invokestatic index, 3)) (hf : cells + mc ≤ R.cells ∧ slots + ms ≤ R.slots) :
    va_Run p l e R s m args below meth c H locs cells slots mc ms (F0 m pc ls st0) rest (Qc As.toArray) free :=
  va_runS F hM (va_cwS n F.2.2.2.2 hG hw hrc hrs hd hR) hp rfl hn hl hst (lv_room hrm) hdg hf
/-- a static call of a method with handlers -/
theorem gr_H (F : CallFix p m c cc nL s args Ts own) (hM : Met l y wy rm (va_Pc As (gPre g wc H.size)) Qc mc ms free) (hG : GoodIn Ts (va_wsS own index y wy)) (hw : wy = Cond.codeWith y bytes maxL ret hh :: ws0) (hrc : rm.cells = mc) (hrs : rm.slots = ms)
    (hd : y.cls ≠ "java/lang/invoke/MethodHandle" ∧ y.cls ≠ "java/lang/invoke/VarHandle" ∧ (parseMethodDescriptor y.desc).map (fun d => d.parameters.length) = some n) (hR : rm.frames + 1 ≤ R.frames ∧ 8 + (maxL + 11) + rm.locals ≤ R.locals) (hp : PreS s H (va_Pc As (gPre g wc H.size)) As)
    (hn : As.length = n) (hl : ls.size = nL) (hst : st0 = As.reverse ++ rest) (hrm : (rest.map fun v => v.category).sum ≤ 8) (hdg : decode cc pc = .ok (.invokestatic index, 3)) (hf : cells + mc ≤ R.cells ∧ slots + ms ≤ R.slots) :
    va_Run p l e R s m args below meth c H locs cells slots mc ms (F0 m pc ls st0) rest (Qc As.toArray) free :=
  vx_runSW F hM (vx_cwSW n F.2.2.2.2 hG hw hrc hrs hd hR) hp rfl hn hl hst (lv_room hrm) hdg hf
/-- a private method of a nest mate -/
theorem gr_N (F : CallFix p m c cc nL s args Ts own) (hM : Met l y wy rm (va_Pc (.ref b :: As) (gPre g wc H.size)) Qc mc ms free) (hG : GoodIn Ts wy) (hw : wy = Cond.code y bytes maxL ret :: ws0) (hrc : rm.cells = mc) (hrs : rm.slots = ms) (hnw : va_Nw (.methodLinkNest own index y host) s) (hini : (Cond.initialized y.cls).before args s = true) (hin : (Cond.instanceMethod y).before args s = true) (hse : (Cond.selects C y y).before args s = true)
    (hd : y.cls ≠ "java/lang/invoke/MethodHandle" ∧ y.cls ≠ "java/lang/invoke/VarHandle" ∧ (parseMethodDescriptor y.desc).map (fun d => d.parameters.length) = some n) (hR : rm.frames + 1 ≤ R.frames ∧ 8 + (maxL + 11) + rm.locals ≤ R.locals) (hp : PreV s H C b (va_Pc (.ref b :: As) (gPre g wc H.size)) As)
    (hn : As.length = n) (hl : ls.size = nL) (hst : st0 = As.reverse ++ .ref b :: rest) (hrm : (rest.map fun v => v.category).sum ≤ 8) (hdg : decode cc pc = .ok (.invokevirtual index, 3)) (hf : cells + mc ≤ R.cells ∧ slots + ms ≤ R.slots) :
    va_Run p l e R s m args below meth c H locs cells slots mc ms (F0 m pc ls st0) rest (Qc (Value.ref b :: As).toArray) free :=
  va_runVN F hM ⟨va_cnB n F.2.2.2.2 hG hw hrc hrs hnw hini hd hR, hin, hse⟩ hp rfl hn hl hst (lv_room hrm) hdg hf
theorem gr_I (F : CallFix p m c cc nL s args Ts own) (hM : Met l y wy rm (va_Pc (.ref b :: As) (gPre g wc H.size)) Qc mc ms free) (hG : GoodIn Ts wy) (hw : wy = Cond.code y bytes maxL none :: ws0) (hrc : rm.cells = mc) (hrs : rm.slots = ms) (hini : (Cond.initialized y.cls).before args s = true) (hlk : (Cond.methodLink own index y).before args s = true) (hin : (Cond.instanceMethod y).before args s = true) (hy1 : y.name = "<init>")
    (hd : y.cls ≠ "java/lang/invoke/MethodHandle" ∧ y.cls ≠ "java/lang/invoke/VarHandle" ∧ (parseMethodDescriptor y.desc).map (fun d => d.parameters.length) = some n) (hR : rm.frames + 1 ≤ R.frames ∧ 8 + (maxL + 11) + rm.locals ≤ R.locals) (hp : PreS s H (va_Pc (.ref b :: As) (gPre g wc H.size)) (.ref b :: As))
    (hn : As.length = n) (hl : ls.size = nL) (hst : st0 = As.reverse ++ .ref b :: rest) (hrm : (rest.map fun v => v.category).sum ≤ 8) (hdg : decode cc pc = .ok (.invokespecial index, 3)) (hf : cells + mc ≤ R.cells ∧ slots + ms ≤ R.slots) :
    va_Run p l e R s m args below meth c H locs cells slots mc ms (F0 m pc ls st0) rest (Qc (Value.ref b :: As).toArray) free :=
  va_runI F hM (cwI n F.2.2.2.2 hG hw hrc hrs hini hlk hin hy1 hd hR) hp rfl hn hl hst (lv_room hrm) hdg hf
theorem gr_IN (F : CallFix p m c cc nL s args Ts own) (hM : Met l y wy rm (va_Pc (.ref b :: As) (gPre g wc H.size)) Qc mc ms free) (hG : GoodIn Ts wy) (hw : wy = Cond.code y bytes maxL none :: ws0) (hrc : rm.cells = mc) (hrs : rm.slots = ms) (hnw : va_Nw (.methodLinkNest own index y host) s) (hini : (Cond.initialized y.cls).before args s = true) (hin : (Cond.instanceMethod y).before args s = true) (hy1 : y.name = "<init>")
    (hd : y.cls ≠ "java/lang/invoke/MethodHandle" ∧ y.cls ≠ "java/lang/invoke/VarHandle" ∧ (parseMethodDescriptor y.desc).map (fun d => d.parameters.length) = some n) (hR : rm.frames + 1 ≤ R.frames ∧ 8 + (maxL + 11) + rm.locals ≤ R.locals) (hp : PreS s H (va_Pc (.ref b :: As) (gPre g wc H.size)) (.ref b :: As))
    (hn : As.length = n) (hl : ls.size = nL) (hst : st0 = As.reverse ++ .ref b :: rest) (hrm : (rest.map fun v => v.category).sum ≤ 8) (hdg : decode cc pc = .ok (.invokespecial index, 3)) (hf : cells + mc ≤ R.cells ∧ slots + ms ≤ R.slots) :
    va_Run p l e R s m args below meth c H locs cells slots mc ms (F0 m pc ls st0) rest (Qc (Value.ref b :: As).toArray) free :=
  va_runIN F hM ⟨va_cnB n F.2.2.2.2 hG hw hrc hrs hnw hini hd hR, hy1, hin⟩ hp rfl hn hl hst (lv_room hrm) hdg hf
/-- calls of what may throw -/
theorem gxr_V (F : CallFix p m c cc nL s args Ts own) (hM : vx_Met l y wy rm (va_Pc (.ref b :: As) (gPre g wc H.size)) Qc XC mc ms free) (hG : GoodIn Ts (wsV own index C y wy)) (hw : wy = Cond.code y bytes maxL ret :: ws0) (hrc : rm.cells = mc) (hrs : rm.slots = ms)
    (hd : y.cls = C ∧ y.cls ≠ "java/lang/invoke/MethodHandle" ∧ y.cls ≠ "java/lang/invoke/VarHandle" ∧ (parseMethodDescriptor y.desc).map (fun d => d.parameters.length) = some n) (hR : rm.frames + 1 ≤ R.frames ∧ 8 + (maxL + 11) + rm.locals ≤ R.locals) (hp : PreV s H C b (va_Pc (.ref b :: As) (gPre g wc H.size)) As)
    (hn : As.length = n) (hl : ls.size = nL) (hst : st0 = As.reverse ++ .ref b :: rest) (hrm : (rest.map fun v => v.category).sum ≤ 8) (hdg : decode cc pc = .ok (.invokevirtual index, 3)) (hf : cells + mc ≤ R.cells ∧ slots + ms ≤ R.slots) :
    vx_Run p l e R s m args below meth c H locs cells slots mc ms (F0 m pc ls st0) rest (Qc (Value.ref b :: As).toArray) XC free :=
  vx_runV F hM (cwV n F.2.2.2.2 hG hw hrc hrs hd hR) hp rfl hn hl hst (lv_room hrm) hdg hf
theorem gxr_S (F : CallFix p m c cc nL s args Ts own) (hM : vx_Met l y wy rm (va_Pc As (gPre g wc H.size)) Qc XC mc ms free) (hG : GoodIn Ts (va_wsS own index y wy)) (hw : wy = Cond.code y bytes maxL ret :: ws0) (hrc : rm.cells = mc) (hrs : rm.slots = ms)
    (hd : y.cls ≠ "java/lang/invoke/MethodHandle" ∧ y.cls ≠ "java/lang/invoke/VarHandle" ∧ (parseMethodDescriptor y.desc).map (fun d => d.parameters.length) = some n) (hR : rm.frames + 1 ≤ R.frames ∧ 8 + (maxL + 11) + rm.locals ≤ R.locals) (hp : PreS s H (va_Pc As (gPre g wc H.size)) As)
    (hn : As.length = n) (hl : ls.size = nL) (hst : st0 = As.reverse ++ rest) (hrm : (rest.map fun v => v.category).sum ≤ 8) (hdg : decode cc pc = .ok (.invokestatic index, 3)) (hf : cells + mc ≤ R.cells ∧ slots + ms ≤ R.slots) :
    vx_Run p l e R s m args below meth c H locs cells slots mc ms (F0 m pc ls st0) rest (Qc As.toArray) XC free :=
  vx_runS F hM (va_cwS n F.2.2.2.2 hG hw hrc hrs hd hR) hp rfl hn hl hst (lv_room hrm) hdg hf
end Runs
section Joins
variable {wc wr : va_W} {mc ms : Nat} {a : Array Value} {S : Type} {ws' : S → va_W} {px : String → Prop}
theorem gj_i {post : Int32 → S → Prop} (hr : va_Run p l e R s m args below meth c H locs cells slots mc ms (F0 m pc ls st0) rest (va_Qi post (fun u t => gPost g (va_A wc H.size) (ws' u) t) (va_A wc H.size) a) (va_A wc H.size)) (hP : va_P g.1 vwCl ws H) (hD : va_D A ws) (hS : va_S A s.heap H locs) (hA : ∀ q, s.heap.size ≤ q → A q)
    (isC isR : List Nat) (hC : isC.map (fun i => ws[i]?) = wc.map some) (hRr : isR.map (fun i => ws[i]?) = wr.map some) (hn : va_nd isR = true) (hdis : ∀ i ∈ isR, i ∉ isC)
    (kk : ∀ (r : Int32) (u : S) (H1 : Heap) (locs1 : List Loc), post r u → va_P g.1 vwCl (wr ++ ws' u) H1 → va_D A (wr ++ ws' u) → va_S A s.heap H1 locs1 → W p l e R s m args below meth c H1 locs1 (cells + mc) (slots + ms) Q (F0 m (pc + 3) ls (.int r :: rest))) : W p l e R s m args below meth c H locs cells slots Q (F0 m pc ls st0) := by
  have hFc := va_free (wc := wc) hD hS hA isC hC
  refine va_calli hr hS (fun q _ h => hFc q h) hFc (fun r u t H1 locs1 ht hvm hw hB hz1 hk1 hS1 => ?_)
  obtain ⟨hP1, hD1⟩ := hB
  rw [ht] at hP1
  obtain ⟨hP2, hD2⟩ := va_join hP hD isC isR hC hRr hn hdis hk1 hFc hP1 hD1
  exact kk r u H1 locs1 hw hP2 hD2 hS1
theorem gj_l {post : Int64 → S → Prop} (hr : va_Run p l e R s m args below meth c H locs cells slots mc ms (F0 m pc ls st0) rest (va_Ql post (fun u t => gPost g (va_A wc H.size) (ws' u) t) (va_A wc H.size) a) (va_A wc H.size)) (hP : va_P g.1 vwCl ws H) (hD : va_D A ws) (hS : va_S A s.heap H locs) (hA : ∀ q, s.heap.size ≤ q → A q)
    (isC isR : List Nat) (hC : isC.map (fun i => ws[i]?) = wc.map some) (hRr : isR.map (fun i => ws[i]?) = wr.map some) (hn : va_nd isR = true) (hdis : ∀ i ∈ isR, i ∉ isC)
    (kk : ∀ (r : Int64) (u : S) (H1 : Heap) (locs1 : List Loc), post r u → va_P g.1 vwCl (wr ++ ws' u) H1 → va_D A (wr ++ ws' u) → va_S A s.heap H1 locs1 → W p l e R s m args below meth c H1 locs1 (cells + mc) (slots + ms) Q (F0 m (pc + 3) ls (.long r :: rest))) : W p l e R s m args below meth c H locs cells slots Q (F0 m pc ls st0) := by
  have hFc := va_free (wc := wc) hD hS hA isC hC
  refine va_calll hr hS (fun q _ h => hFc q h) hFc (fun r u t H1 locs1 ht hvm hw hB hz1 hk1 hS1 => ?_)
  obtain ⟨hP1, hD1⟩ := hB
  rw [ht] at hP1
  obtain ⟨hP2, hD2⟩ := va_join hP hD isC isR hC hRr hn hdis hk1 hFc hP1 hD1
  exact kk r u H1 locs1 hw hP2 hD2 hS1
theorem gj_d {post : UInt64 → S → Prop} (hr : va_Run p l e R s m args below meth c H locs cells slots mc ms (F0 m pc ls st0) rest (va_Qd post (fun u t => gPost g (va_A wc H.size) (ws' u) t) (va_A wc H.size) a) (va_A wc H.size)) (hP : va_P g.1 vwCl ws H) (hD : va_D A ws) (hS : va_S A s.heap H locs) (hA : ∀ q, s.heap.size ≤ q → A q)
    (isC isR : List Nat) (hC : isC.map (fun i => ws[i]?) = wc.map some) (hRr : isR.map (fun i => ws[i]?) = wr.map some) (hn : va_nd isR = true) (hdis : ∀ i ∈ isR, i ∉ isC)
    (kk : ∀ (r : UInt64) (u : S) (H1 : Heap) (locs1 : List Loc), post r u → va_P g.1 vwCl (wr ++ ws' u) H1 → va_D A (wr ++ ws' u) → va_S A s.heap H1 locs1 → W p l e R s m args below meth c H1 locs1 (cells + mc) (slots + ms) Q (F0 m (pc + 3) ls (.double r :: rest))) : W p l e R s m args below meth c H locs cells slots Q (F0 m pc ls st0) := by
  have hFc := va_free (wc := wc) hD hS hA isC hC
  refine va_calld hr hS (fun q _ h => hFc q h) hFc (fun r u t H1 locs1 ht hvm hw hB hz1 hk1 hS1 => ?_)
  obtain ⟨hP1, hD1⟩ := hB
  rw [ht] at hP1
  obtain ⟨hP2, hD2⟩ := va_join hP hD isC isR hC hRr hn hdis hk1 hFc hP1 hD1
  exact kk r u H1 locs1 hw hP2 hD2 hS1
theorem gj_v {post : S → Prop} (hr : va_Run p l e R s m args below meth c H locs cells slots mc ms (F0 m pc ls st0) rest (va_Qv post (fun u t => gPost g (va_A wc H.size) (ws' u) t) (va_A wc H.size) a) (va_A wc H.size)) (hP : va_P g.1 vwCl ws H) (hD : va_D A ws) (hS : va_S A s.heap H locs) (hA : ∀ q, s.heap.size ≤ q → A q)
    (isC isR : List Nat) (hC : isC.map (fun i => ws[i]?) = wc.map some) (hRr : isR.map (fun i => ws[i]?) = wr.map some) (hn : va_nd isR = true) (hdis : ∀ i ∈ isR, i ∉ isC)
    (kk : ∀ (u : S) (H1 : Heap) (locs1 : List Loc), post u → va_P g.1 vwCl (wr ++ ws' u) H1 → va_D A (wr ++ ws' u) → va_S A s.heap H1 locs1 → W p l e R s m args below meth c H1 locs1 (cells + mc) (slots + ms) Q (F0 m (pc + 3) ls rest)) : W p l e R s m args below meth c H locs cells slots Q (F0 m pc ls st0) := by
  have hFc := va_free (wc := wc) hD hS hA isC hC
  refine va_callv hr hS (fun q _ h => hFc q h) hFc (fun u t H1 locs1 ht hvm hw hB hz1 hk1 hS1 => ?_)
  obtain ⟨hP1, hD1⟩ := hB
  rw [ht] at hP1
  obtain ⟨hP2, hD2⟩ := va_join hP hD isC isR hC hRr hn hdis hk1 hFc hP1 hD1
  exact kk u H1 locs1 hw hP2 hD2 hS1
/-- .. of what may throw: where it throws, the rest of the world is as it was -/
theorem gxj_v {post : S → Prop} (hr : vx_Run p l e R s m args below meth c H locs cells slots mc ms (F0 m pc ls st0) rest (va_Qv post (fun u t => gPost g (va_A wc H.size) (ws' u) t) (va_A wc H.size) a) (gThr px (va_A wc H.size)) (va_A wc H.size)) (hP : va_P g.1 vwCl ws H) (hD : va_D A ws) (hS : va_S A s.heap H locs) (hA : ∀ q, s.heap.size ≤ q → A q)
    (isC isR : List Nat) (hC : isC.map (fun i => ws[i]?) = wc.map some) (hRr : isR.map (fun i => ws[i]?) = wr.map some) (hn : va_nd isR = true) (hdis : ∀ i ∈ isR, i ∉ isC)
    (kx : ∀ (E : String) (ce : Cell) (q9 : Addr) (H1 : Heap) (locs1 : List Loc), px E → va_P g.1 vwCl wr H1 → va_D A wr → va_S A s.heap H1 locs1 → H1[q9]? = some ce → ce.vm = .none → s.vm.findClass E = some ce.cls → vx_W p l e R s m args below meth c H1 locs1 (cells + mc) (slots + ms) Q (F0 m pc ls rest) q9)
    (kk : ∀ (u : S) (H1 : Heap) (locs1 : List Loc), post u → va_P g.1 vwCl (wr ++ ws' u) H1 → va_D A (wr ++ ws' u) → va_S A s.heap H1 locs1 → W p l e R s m args below meth c H1 locs1 (cells + mc) (slots + ms) Q (F0 m (pc + 3) ls rest)) : W p l e R s m args below meth c H locs cells slots Q (F0 m pc ls st0) := by
  have hFc := va_free (wc := wc) hD hS hA isC hC
  refine vx_callv hr hS (fun q _ h => hFc q h) hFc (fun q _ h => hFc q h) (fun E ce q9 u t H1 locs1 ht hvm hpu hB hz1 hk1 hS1 h7 h8 h9 => ?_) (fun u t H1 locs1 ht hvm hw hB hz1 hk1 hS1 => ?_)
  · obtain ⟨hP2, hD2⟩ := va_join (w1 := []) hP hD isC isR hC hRr hn hdis hk1 hFc (fun k q h => by simp at h) ⟨fun i j p q h => by simp at h, fun k q h => by simp at h⟩
    rw [List.append_nil] at hP2 hD2
    exact kx E ce q9 H1 locs1 hB hP2 hD2 hS1 h7 h8 h9
  · obtain ⟨hP1, hD1⟩ := hB
    rw [ht] at hP1
    obtain ⟨hP2, hD2⟩ := va_join hP hD isC isR hC hRr hn hdis hk1 hFc hP1 hD1
    exact kk u H1 locs1 hw hP2 hD2 hS1
theorem gxj_i {post : Int32 → S → Prop} (hr : vx_Run p l e R s m args below meth c H locs cells slots mc ms (F0 m pc ls st0) rest (va_Qi post (fun u t => gPost g (va_A wc H.size) (ws' u) t) (va_A wc H.size) a) (gThr px (va_A wc H.size)) (va_A wc H.size)) (hP : va_P g.1 vwCl ws H) (hD : va_D A ws) (hS : va_S A s.heap H locs) (hA : ∀ q, s.heap.size ≤ q → A q)
    (isC isR : List Nat) (hC : isC.map (fun i => ws[i]?) = wc.map some) (hRr : isR.map (fun i => ws[i]?) = wr.map some) (hn : va_nd isR = true) (hdis : ∀ i ∈ isR, i ∉ isC)
    (kx : ∀ (E : String) (ce : Cell) (q9 : Addr) (H1 : Heap) (locs1 : List Loc), px E → va_P g.1 vwCl wr H1 → va_D A wr → va_S A s.heap H1 locs1 → H1[q9]? = some ce → ce.vm = .none → s.vm.findClass E = some ce.cls → vx_W p l e R s m args below meth c H1 locs1 (cells + mc) (slots + ms) Q (F0 m pc ls rest) q9)
    (kk : ∀ (r : Int32) (u : S) (H1 : Heap) (locs1 : List Loc), post r u → va_P g.1 vwCl (wr ++ ws' u) H1 → va_D A (wr ++ ws' u) → va_S A s.heap H1 locs1 → W p l e R s m args below meth c H1 locs1 (cells + mc) (slots + ms) Q (F0 m (pc + 3) ls (.int r :: rest))) : W p l e R s m args below meth c H locs cells slots Q (F0 m pc ls st0) := by
  have hFc := va_free (wc := wc) hD hS hA isC hC
  refine vx_calli hr hS (fun q _ h => hFc q h) hFc (fun q _ h => hFc q h) (fun E ce q9 u t H1 locs1 ht hvm hpu hB hz1 hk1 hS1 h7 h8 h9 => ?_) (fun r u t H1 locs1 ht hvm hw hB hz1 hk1 hS1 => ?_)
  · obtain ⟨hP2, hD2⟩ := va_join (w1 := []) hP hD isC isR hC hRr hn hdis hk1 hFc (fun k q h => by simp at h) ⟨fun i j p q h => by simp at h, fun k q h => by simp at h⟩
    rw [List.append_nil] at hP2 hD2
    exact kx E ce q9 H1 locs1 hB hP2 hD2 hS1 h7 h8 h9
  · obtain ⟨hP1, hD1⟩ := hB
    rw [ht] at hP1
    obtain ⟨hP2, hD2⟩ := va_join hP hD isC isR hC hRr hn hdis hk1 hFc hP1 hD1
    exact kk r u H1 locs1 hw hP2 hD2 hS1
theorem gxj_d {post : UInt64 → S → Prop} (hr : vx_Run p l e R s m args below meth c H locs cells slots mc ms (F0 m pc ls st0) rest (va_Qd post (fun u t => gPost g (va_A wc H.size) (ws' u) t) (va_A wc H.size) a) (gThr px (va_A wc H.size)) (va_A wc H.size)) (hP : va_P g.1 vwCl ws H) (hD : va_D A ws) (hS : va_S A s.heap H locs) (hA : ∀ q, s.heap.size ≤ q → A q)
    (isC isR : List Nat) (hC : isC.map (fun i => ws[i]?) = wc.map some) (hRr : isR.map (fun i => ws[i]?) = wr.map some) (hn : va_nd isR = true) (hdis : ∀ i ∈ isR, i ∉ isC)
    (kx : ∀ (E : String) (ce : Cell) (q9 : Addr) (H1 : Heap) (locs1 : List Loc), px E → va_P g.1 vwCl wr H1 → va_D A wr → va_S A s.heap H1 locs1 → H1[q9]? = some ce → ce.vm = .none → s.vm.findClass E = some ce.cls → vx_W p l e R s m args below meth c H1 locs1 (cells + mc) (slots + ms) Q (F0 m pc ls rest) q9)
    (kk : ∀ (r : UInt64) (u : S) (H1 : Heap) (locs1 : List Loc), post r u → va_P g.1 vwCl (wr ++ ws' u) H1 → va_D A (wr ++ ws' u) → va_S A s.heap H1 locs1 → W p l e R s m args below meth c H1 locs1 (cells + mc) (slots + ms) Q (F0 m (pc + 3) ls (.double r :: rest))) : W p l e R s m args below meth c H locs cells slots Q (F0 m pc ls st0) := by
  have hFc := va_free (wc := wc) hD hS hA isC hC
  refine vx_calld hr hS (fun q _ h => hFc q h) hFc (fun q _ h => hFc q h) (fun E ce q9 u t H1 locs1 ht hvm hpu hB hz1 hk1 hS1 h7 h8 h9 => ?_) (fun r u t H1 locs1 ht hvm hw hB hz1 hk1 hS1 => ?_)
  · obtain ⟨hP2, hD2⟩ := va_join (w1 := []) hP hD isC isR hC hRr hn hdis hk1 hFc (fun k q h => by simp at h) ⟨fun i j p q h => by simp at h, fun k q h => by simp at h⟩
    rw [List.append_nil] at hP2 hD2
    exact kx E ce q9 H1 locs1 hB hP2 hD2 hS1 h7 h8 h9
  · obtain ⟨hP1, hD1⟩ := hB
    rw [ht] at hP1
    obtain ⟨hP2, hD2⟩ := va_join hP hD isC isR hC hRr hn hdis hk1 hFc hP1 hD1
    exact kk r u H1 locs1 hw hP2 hD2 hS1
/-- what a callee threw goes on to the caller -/
theorem gx_out {Qc : Array Value → State → Outcome → State → Prop} {E : String} {ce : Cell} {q9 : Addr} {mc ms : Nat} (htab : ∀ x ∈ c.exceptionTable.toList, False) (hlocks : meth.locks = false) (hS : va_S A s.heap H locs) (h7 : H[q9]? = some ce) (h8 : ce.vm = .none) (h9 : s.vm.findClass E = some ce.cls) (hpx : px E) (hc : cells ≤ mc) (hs : slots ≤ ms) :
    vx_W p l e R s m args below meth c H locs cells slots (vx_MQ below Qc (gThr px A) args s mc ms A) (F0 m pc ls rest) q9 :=
  vx_out (fun x hx => (htab x hx).elim) hlocks h7 h8 h9 (fun t ht hvm => ⟨(), trivial, hpx, hS.F ht⟩) hS.2.2 hc hs
end Joins
end GRows
end
section
section GThrow
variable {p : Program} {l : Launch} {e : Env} {R : Room} {s : State} {m : MethodId} {args : Array Value} {below : List Frame} {meth : Method} {c : Code} {H : Heap} {locs : List Loc} {cells slots : Nat}
variable {cc : ByteArray} {pc : Nat} {ls : Array Slot} {rest : List Value} {A : Nat → Prop} {g : gG} {px : String → Prop}
/-- 'throw new E("text")' in the class: it leaves the method -/
theorem gx_throw {Qc : Array Value → State → Outcome → State → Prop} {cls text : String} {ik is ic mc ms nL : Nat} {wy : List Cond} (hx : p.tables.exec = Jvm.exec) (hb : c.code = cc) (hl : l.stackTraces = false) (hown : s.vm.findClass RX1 = some m.cls) (hts : ∀ w ∈ wy, w.before args s = true) (htab : ∀ x ∈ c.exceptionTable.toList, False) (hlocks : meth.locks = false) (hE : gEnv g A s s.heap) (hS : va_S A s.heap H locs) (hsz : ls.size = nL) (hml : c.maxLocals = nL)
    (hcls : Bundle.fit cls = true) (hk : Cond.classLink RX1 ik cls ∈ wy) (hini : Cond.initialized cls ∈ wy) (hmem : (is, text) ∈ gStr) (hat : ∀ w ∈ (vx_atS RX1 ic cls gSup).filter goodWord, w ∈ wy) (hng : ∀ w ∈ (vx_atS RX1 ic cls gSup).filter (fun w => !goodWord w), w ∈ (Cond.castable cls cls :: gDecs)) (hca : gCa cls cls s)
    (hgood : ∀ w ∈ Cond.classLink RX1 ik cls :: Cond.initialized cls :: vx_atS RX1 ic cls gSup, vx_ot w = true)
    (d0 : decode cc pc = .ok (.new ik, 3)) (d3 : decode cc (pc + 3) = .ok (.dup, 1)) (d4 : decode cc (pc + 4) = .ok (.ldc is, 2)) (d6 : decode cc (pc + 6) = .ok (.invokespecial ic, 3)) (d9 : decode cc (pc + 9) = .ok (.athrow, 1))
    (hRf : 5 < R.frames) (hRl : (rest.map fun v => v.category).sum + 82 ≤ R.locals) (hRc : cells + 1 ≤ R.cells) (hRs : slots + 6 ≤ R.slots) (hc : cells + 1 ≤ mc) (hs : slots + 6 ≤ ms) (hpx : px cls) :
    W p l e R s m args below meth c H locs cells slots (vx_MQ below Qc (gThr px A) args s mc ms A) (F0 m pc ls rest) := by
  have hat' : ∀ w ∈ vx_atS RX1 ic cls gSup, w.before args s = true := by
    refine vx_hat (B := Cond.castable cls cls :: gDecs) (fun w hw => hts w (hat w hw)) hng (vx_c hca.use (fun w hw => ?_))
    have hz := hE.1.2.2.2.2 w hw
    simp only [gDecs, List.mem_cons, List.not_mem_nil, or_false] at hw
    rcases hw with rfl | rfl | rfl <;> exact va_Nw.use rfl hz
  exact vx_throwS (names := gSup) hx hb hl hown hcls (by decide) (hts _ hk) (hts _ hini) (hE.1.1 _ hmem) hat' hgood hE.2.1 hE.2.2.1 hS (hsz.trans hml.symm) d0 d3 d4 d6 d9 (fun x hx => (htab x hx).elim) hRf hRl hRc hRs hlocks
    (fun t hvm hz hq => ⟨(), trivial, hpx, Nat.le_trans hS.1 hz, fun q h1 h2 => (hq q (Nat.lt_of_lt_of_le h1 hS.1)).trans (hS.2.1 q h1 h2)⟩) hS.2.2 hc hs
end GThrow
theorem gng_IO : ∀ w ∈ (vx_atS RX1 159 gIO gSup).filter (fun w => !goodWord w), w ∈ (Cond.castable gIO gIO :: gDecs) := by decide +kernel
theorem gng_IA : ∀ w ∈ (vx_atS RX1 101 gIA gSup).filter (fun w => !goodWord w), w ∈ (Cond.castable gIA gIA :: gDecs) := by decide +kernel
theorem gng_IS : ∀ w ∈ (vx_atS RX1 76 gIS gSup).filter (fun w => !goodWord w), w ∈ (Cond.castable gIS gIS :: gDecs) := by decide +kernel
theorem ggd_IO : ∀ w ∈ Cond.classLink RX1 155 gIO :: Cond.initialized gIO :: vx_atS RX1 159 gIO gSup, vx_ot w = true := by decide +kernel
theorem ggd_IA : ∀ w ∈ Cond.classLink RX1 97 gIA :: Cond.initialized gIA :: vx_atS RX1 101 gIA gSup, vx_ot w = true := by decide +kernel
theorem ggd_IS : ∀ w ∈ Cond.classLink RX1 72 gIS :: Cond.initialized gIS :: vx_atS RX1 76 gIS gSup, vx_ot w = true := by decide +kernel
end
