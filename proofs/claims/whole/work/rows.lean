section
-- ===== PART A: goes FIRST, ahead of the names: the tables' words, and 'selects' of the private methods out of them =====
/-- a private method of a class that the tables say can be made, by its rows of tables_1 -/
def lw_okq (q : MethodName × Nat) : Prop := (q.1.cls ≠ "java/lang/invoke/MethodHandle" ∧ q.1.cls ≠ "java/lang/invoke/VarHandle") ∧ Cond.instantiable q.1.cls q.2 ∈ tables_1 ∧ Cond.privateMethod q.1 ∈ tables_1 ∧ Cond.instanceMethod q.1 ∈ tables_1
theorem lw_p0 : lw_okq (⟨"FaultEvidence", "isNode", "(I)Z"⟩, 14) := ⟨⟨by decide +kernel, by decide +kernel⟩, List.mem_of_getElem? (i := 14) (by decide +kernel), List.mem_of_getElem? (i := 107) (by decide +kernel), List.mem_of_getElem? (i := 108) (by decide +kernel)⟩
theorem lw_p1 : lw_okq (⟨"FaultEvidence", "weighNodes", "(I)V"⟩, 14) := ⟨⟨by decide +kernel, by decide +kernel⟩, List.mem_of_getElem? (i := 14) (by decide +kernel), List.mem_of_getElem? (i := 117) (by decide +kernel), List.mem_of_getElem? (i := 118) (by decide +kernel)⟩
theorem lw_p2 : lw_okq (⟨"FaultEvidence", "voteRefusal", "(IIIII)I"⟩, 14) := ⟨⟨by decide +kernel, by decide +kernel⟩, List.mem_of_getElem? (i := 14) (by decide +kernel), List.mem_of_getElem? (i := 136) (by decide +kernel), List.mem_of_getElem? (i := 137) (by decide +kernel)⟩
theorem lw_p3 : lw_okq (⟨"FaultEvidence", "isOpen", "(I)Z"⟩, 14) := ⟨⟨by decide +kernel, by decide +kernel⟩, List.mem_of_getElem? (i := 14) (by decide +kernel), List.mem_of_getElem? (i := 140) (by decide +kernel), List.mem_of_getElem? (i := 141) (by decide +kernel)⟩
theorem lw_p4 : lw_okq (⟨"FaultEvidence", "hasBegun", "(I)Z"⟩, 14) := ⟨⟨by decide +kernel, by decide +kernel⟩, List.mem_of_getElem? (i := 14) (by decide +kernel), List.mem_of_getElem? (i := 144) (by decide +kernel), List.mem_of_getElem? (i := 145) (by decide +kernel)⟩
theorem lw_p5 : lw_okq (⟨"FaultEvidence", "numberOf", "(I)I"⟩, 14) := ⟨⟨by decide +kernel, by decide +kernel⟩, List.mem_of_getElem? (i := 14) (by decide +kernel), List.mem_of_getElem? (i := 154) (by decide +kernel), List.mem_of_getElem? (i := 155) (by decide +kernel)⟩
theorem lw_p6 : lw_okq (⟨"FaultEvidence", "keep", "(I)V"⟩, 14) := ⟨⟨by decide +kernel, by decide +kernel⟩, List.mem_of_getElem? (i := 14) (by decide +kernel), List.mem_of_getElem? (i := 158) (by decide +kernel), List.mem_of_getElem? (i := 159) (by decide +kernel)⟩
theorem lw_p7 : lw_okq (⟨"FaultEvidence", "weightFor", "(I)J"⟩, 14) := ⟨⟨by decide +kernel, by decide +kernel⟩, List.mem_of_getElem? (i := 14) (by decide +kernel), List.mem_of_getElem? (i := 168) (by decide +kernel), List.mem_of_getElem? (i := 169) (by decide +kernel)⟩
theorem lw_p8 : lw_okq (⟨"FaultEvidence", "isTheMost", "(IJ)Z"⟩, 14) := ⟨⟨by decide +kernel, by decide +kernel⟩, List.mem_of_getElem? (i := 14) (by decide +kernel), List.mem_of_getElem? (i := 175) (by decide +kernel), List.mem_of_getElem? (i := 176) (by decide +kernel)⟩
theorem lw_p9 : lw_okq (⟨"FaultEvidence", "noteTheMost", "(I)V"⟩, 14) := ⟨⟨by decide +kernel, by decide +kernel⟩, List.mem_of_getElem? (i := 14) (by decide +kernel), List.mem_of_getElem? (i := 181) (by decide +kernel), List.mem_of_getElem? (i := 182) (by decide +kernel)⟩
theorem lw_p10 : lw_okq (⟨"FaultEvidence", "makesBreak", "(I)Z"⟩, 14) := ⟨⟨by decide +kernel, by decide +kernel⟩, List.mem_of_getElem? (i := 14) (by decide +kernel), List.mem_of_getElem? (i := 195) (by decide +kernel), List.mem_of_getElem? (i := 196) (by decide +kernel)⟩
theorem lw_p11 : lw_okq (⟨"FaultEvidence", "isBare", "(I)Z"⟩, 14) := ⟨⟨by decide +kernel, by decide +kernel⟩, List.mem_of_getElem? (i := 14) (by decide +kernel), List.mem_of_getElem? (i := 199) (by decide +kernel), List.mem_of_getElem? (i := 200) (by decide +kernel)⟩
theorem lw_p12 : lw_okq (⟨"FaultEvidence", "isBacked", "(III)Z"⟩, 14) := ⟨⟨by decide +kernel, by decide +kernel⟩, List.mem_of_getElem? (i := 14) (by decide +kernel), List.mem_of_getElem? (i := 206) (by decide +kernel), List.mem_of_getElem? (i := 207) (by decide +kernel)⟩
theorem lw_p13 : lw_okq (⟨"FaultEvidence", "isClash", "(II)Z"⟩, 14) := ⟨⟨by decide +kernel, by decide +kernel⟩, List.mem_of_getElem? (i := 14) (by decide +kernel), List.mem_of_getElem? (i := 216) (by decide +kernel), List.mem_of_getElem? (i := 217) (by decide +kernel)⟩
theorem lw_p14 : lw_okq (⟨"FaultEvidence", "isLock", "(II)Z"⟩, 14) := ⟨⟨by decide +kernel, by decide +kernel⟩, List.mem_of_getElem? (i := 14) (by decide +kernel), List.mem_of_getElem? (i := 223) (by decide +kernel), List.mem_of_getElem? (i := 224) (by decide +kernel)⟩
theorem lw_p15 : lw_okq (⟨"FaultEvidence", "isUnlocked", "(IIII)Z"⟩, 14) := ⟨⟨by decide +kernel, by decide +kernel⟩, List.mem_of_getElem? (i := 14) (by decide +kernel), List.mem_of_getElem? (i := 227) (by decide +kernel), List.mem_of_getElem? (i := 228) (by decide +kernel)⟩
def lw_privs_1 : List (MethodName × Nat) := [(⟨"FaultEvidence", "isNode", "(I)Z"⟩, 14), (⟨"FaultEvidence", "weighNodes", "(I)V"⟩, 14), (⟨"FaultEvidence", "voteRefusal", "(IIIII)I"⟩, 14), (⟨"FaultEvidence", "isOpen", "(I)Z"⟩, 14), (⟨"FaultEvidence", "hasBegun", "(I)Z"⟩, 14), (⟨"FaultEvidence", "numberOf", "(I)I"⟩, 14), (⟨"FaultEvidence", "keep", "(I)V"⟩, 14), (⟨"FaultEvidence", "weightFor", "(I)J"⟩, 14), (⟨"FaultEvidence", "isTheMost", "(IJ)Z"⟩, 14), (⟨"FaultEvidence", "noteTheMost", "(I)V"⟩, 14), (⟨"FaultEvidence", "makesBreak", "(I)Z"⟩, 14), (⟨"FaultEvidence", "isBare", "(I)Z"⟩, 14), (⟨"FaultEvidence", "isBacked", "(III)Z"⟩, 14), (⟨"FaultEvidence", "isClash", "(II)Z"⟩, 14), (⟨"FaultEvidence", "isLock", "(II)Z"⟩, 14), (⟨"FaultEvidence", "isUnlocked", "(IIII)Z"⟩, 14)]
theorem lw_r1 : ∀ q ∈ lw_privs_1, lw_okq q := List.forall_mem_cons.mpr ⟨lw_p0, List.forall_mem_cons.mpr ⟨lw_p1, List.forall_mem_cons.mpr ⟨lw_p2, List.forall_mem_cons.mpr ⟨lw_p3, List.forall_mem_cons.mpr ⟨lw_p4, List.forall_mem_cons.mpr ⟨lw_p5, List.forall_mem_cons.mpr ⟨lw_p6, List.forall_mem_cons.mpr ⟨lw_p7, List.forall_mem_cons.mpr ⟨lw_p8, List.forall_mem_cons.mpr ⟨lw_p9, List.forall_mem_cons.mpr ⟨lw_p10, List.forall_mem_cons.mpr ⟨lw_p11, List.forall_mem_cons.mpr ⟨lw_p12, List.forall_mem_cons.mpr ⟨lw_p13, List.forall_mem_cons.mpr ⟨lw_p14, List.forall_mem_cons.mpr ⟨lw_p15, fun _ h => absurd h List.not_mem_nil⟩⟩⟩⟩⟩⟩⟩⟩⟩⟩⟩⟩⟩⟩⟩⟩
theorem lw_p16 : lw_okq (⟨"FaultEvidence", "accuseRefusal", "(IIII)I"⟩, 14) := ⟨⟨by decide +kernel, by decide +kernel⟩, List.mem_of_getElem? (i := 14) (by decide +kernel), List.mem_of_getElem? (i := 235) (by decide +kernel), List.mem_of_getElem? (i := 236) (by decide +kernel)⟩
theorem lw_p17 : lw_okq (⟨"FaultEvidence", "isVote", "(I)Z"⟩, 14) := ⟨⟨by decide +kernel, by decide +kernel⟩, List.mem_of_getElem? (i := 14) (by decide +kernel), List.mem_of_getElem? (i := 239) (by decide +kernel), List.mem_of_getElem? (i := 240) (by decide +kernel)⟩
theorem lw_p18 : lw_okq (⟨"FaultEvidence", "isNodeOrNone", "(I)Z"⟩, 14) := ⟨⟨by decide +kernel, by decide +kernel⟩, List.mem_of_getElem? (i := 14) (by decide +kernel), List.mem_of_getElem? (i := 243) (by decide +kernel), List.mem_of_getElem? (i := 244) (by decide +kernel)⟩
theorem lw_p19 : lw_okq (⟨"FaultEvidence", "isPair", "(III)Z"⟩, 14) := ⟨⟨by decide +kernel, by decide +kernel⟩, List.mem_of_getElem? (i := 14) (by decide +kernel), List.mem_of_getElem? (i := 250) (by decide +kernel), List.mem_of_getElem? (i := 251) (by decide +kernel)⟩
theorem lw_p20 : lw_okq (⟨"FaultEvidence", "wasTaken", "(II)Z"⟩, 14) := ⟨⟨by decide +kernel, by decide +kernel⟩, List.mem_of_getElem? (i := 14) (by decide +kernel), List.mem_of_getElem? (i := 254) (by decide +kernel), List.mem_of_getElem? (i := 255) (by decide +kernel)⟩
theorem lw_p21 : lw_okq (⟨"FaultEvidence", "take", "(IIII)J"⟩, 14) := ⟨⟨by decide +kernel, by decide +kernel⟩, List.mem_of_getElem? (i := 14) (by decide +kernel), List.mem_of_getElem? (i := 283) (by decide +kernel), List.mem_of_getElem? (i := 284) (by decide +kernel)⟩
theorem lw_p22 : lw_okq (⟨"java/util/ArrayList", "add", "(Ljava/lang/Object;[Ljava/lang/Object;I)V"⟩, 3) := ⟨⟨by decide +kernel, by decide +kernel⟩, List.mem_of_getElem? (i := 26) (by decide +kernel), List.mem_of_getElem? (i := 326) (by decide +kernel), List.mem_of_getElem? (i := 327) (by decide +kernel)⟩
theorem lw_p23 : lw_okq (⟨"java/util/ArrayList", "grow", "()[Ljava/lang/Object;"⟩, 3) := ⟨⟨by decide +kernel, by decide +kernel⟩, List.mem_of_getElem? (i := 26) (by decide +kernel), List.mem_of_getElem? (i := 330) (by decide +kernel), List.mem_of_getElem? (i := 331) (by decide +kernel)⟩
theorem lw_p24 : lw_okq (⟨"java/util/ArrayList", "grow", "(I)[Ljava/lang/Object;"⟩, 3) := ⟨⟨by decide +kernel, by decide +kernel⟩, List.mem_of_getElem? (i := 26) (by decide +kernel), List.mem_of_getElem? (i := 334) (by decide +kernel), List.mem_of_getElem? (i := 335) (by decide +kernel)⟩
theorem lw_p25 : lw_okq (⟨"FaultEvidence", "countTakenOf", "(I)I"⟩, 14) := ⟨⟨by decide +kernel, by decide +kernel⟩, List.mem_of_getElem? (i := 14) (by decide +kernel), List.mem_of_getElem? (i := 377) (by decide +kernel), List.mem_of_getElem? (i := 378) (by decide +kernel)⟩
theorem lw_p26 : lw_okq (⟨"FaultEvidence", "countBreaksFrom", "(II)I"⟩, 14) := ⟨⟨by decide +kernel, by decide +kernel⟩, List.mem_of_getElem? (i := 14) (by decide +kernel), List.mem_of_getElem? (i := 401) (by decide +kernel), List.mem_of_getElem? (i := 402) (by decide +kernel)⟩
theorem lw_p27 : lw_okq (⟨"FaultEvidence", "partner", "(III)I"⟩, 14) := ⟨⟨by decide +kernel, by decide +kernel⟩, List.mem_of_getElem? (i := 14) (by decide +kernel), List.mem_of_getElem? (i := 412) (by decide +kernel), List.mem_of_getElem? (i := 413) (by decide +kernel)⟩
theorem lw_p28 : lw_okq (⟨"FaultEvidenceModel", "isNode", "(I)Z"⟩, 27) := ⟨⟨by decide +kernel, by decide +kernel⟩, List.mem_of_getElem? (i := 424) (by decide +kernel), List.mem_of_getElem? (i := 524) (by decide +kernel), List.mem_of_getElem? (i := 525) (by decide +kernel)⟩
theorem lw_p29 : lw_okq (⟨"FaultEvidenceModel", "refusal", "(IIIII)I"⟩, 27) := ⟨⟨by decide +kernel, by decide +kernel⟩, List.mem_of_getElem? (i := 424) (by decide +kernel), List.mem_of_getElem? (i := 545) (by decide +kernel), List.mem_of_getElem? (i := 546) (by decide +kernel)⟩
theorem lw_p30 : lw_okq (⟨"FaultEvidenceModel", "find", "(IIIII)I"⟩, 27) := ⟨⟨by decide +kernel, by decide +kernel⟩, List.mem_of_getElem? (i := 424) (by decide +kernel), List.mem_of_getElem? (i := 551) (by decide +kernel), List.mem_of_getElem? (i := 552) (by decide +kernel)⟩
theorem lw_p31 : lw_okq (⟨"FaultEvidenceModel", "saidBy", "(IIII)I"⟩, 27) := ⟨⟨by decide +kernel, by decide +kernel⟩, List.mem_of_getElem? (i := 424) (by decide +kernel), List.mem_of_getElem? (i := 562) (by decide +kernel), List.mem_of_getElem? (i := 563) (by decide +kernel)⟩
def lw_privs_2 : List (MethodName × Nat) := [(⟨"FaultEvidence", "accuseRefusal", "(IIII)I"⟩, 14), (⟨"FaultEvidence", "isVote", "(I)Z"⟩, 14), (⟨"FaultEvidence", "isNodeOrNone", "(I)Z"⟩, 14), (⟨"FaultEvidence", "isPair", "(III)Z"⟩, 14), (⟨"FaultEvidence", "wasTaken", "(II)Z"⟩, 14), (⟨"FaultEvidence", "take", "(IIII)J"⟩, 14), (⟨"java/util/ArrayList", "add", "(Ljava/lang/Object;[Ljava/lang/Object;I)V"⟩, 3), (⟨"java/util/ArrayList", "grow", "()[Ljava/lang/Object;"⟩, 3), (⟨"java/util/ArrayList", "grow", "(I)[Ljava/lang/Object;"⟩, 3), (⟨"FaultEvidence", "countTakenOf", "(I)I"⟩, 14), (⟨"FaultEvidence", "countBreaksFrom", "(II)I"⟩, 14), (⟨"FaultEvidence", "partner", "(III)I"⟩, 14), (⟨"FaultEvidenceModel", "isNode", "(I)Z"⟩, 27), (⟨"FaultEvidenceModel", "refusal", "(IIIII)I"⟩, 27), (⟨"FaultEvidenceModel", "find", "(IIIII)I"⟩, 27), (⟨"FaultEvidenceModel", "saidBy", "(IIII)I"⟩, 27)]
theorem lw_r2 : ∀ q ∈ lw_privs_2, lw_okq q := List.forall_mem_cons.mpr ⟨lw_p16, List.forall_mem_cons.mpr ⟨lw_p17, List.forall_mem_cons.mpr ⟨lw_p18, List.forall_mem_cons.mpr ⟨lw_p19, List.forall_mem_cons.mpr ⟨lw_p20, List.forall_mem_cons.mpr ⟨lw_p21, List.forall_mem_cons.mpr ⟨lw_p22, List.forall_mem_cons.mpr ⟨lw_p23, List.forall_mem_cons.mpr ⟨lw_p24, List.forall_mem_cons.mpr ⟨lw_p25, List.forall_mem_cons.mpr ⟨lw_p26, List.forall_mem_cons.mpr ⟨lw_p27, List.forall_mem_cons.mpr ⟨lw_p28, List.forall_mem_cons.mpr ⟨lw_p29, List.forall_mem_cons.mpr ⟨lw_p30, List.forall_mem_cons.mpr ⟨lw_p31, fun _ h => absurd h List.not_mem_nil⟩⟩⟩⟩⟩⟩⟩⟩⟩⟩⟩⟩⟩⟩⟩⟩
theorem lw_p32 : lw_okq (⟨"FaultEvidenceModel", "isBacked", "(III)Z"⟩, 27) := ⟨⟨by decide +kernel, by decide +kernel⟩, List.mem_of_getElem? (i := 424) (by decide +kernel), List.mem_of_getElem? (i := 566) (by decide +kernel), List.mem_of_getElem? (i := 567) (by decide +kernel)⟩
theorem lw_p33 : lw_okq (⟨"FaultEvidenceModel", "haveMost", "(II)Z"⟩, 27) := ⟨⟨by decide +kernel, by decide +kernel⟩, List.mem_of_getElem? (i := 424) (by decide +kernel), List.mem_of_getElem? (i := 570) (by decide +kernel), List.mem_of_getElem? (i := 571) (by decide +kernel)⟩
theorem lw_p34 : lw_okq (⟨"FaultEvidenceModel", "weightOf", "(II)J"⟩, 27) := ⟨⟨by decide +kernel, by decide +kernel⟩, List.mem_of_getElem? (i := 424) (by decide +kernel), List.mem_of_getElem? (i := 575) (by decide +kernel), List.mem_of_getElem? (i := 576) (by decide +kernel)⟩
theorem lw_p35 : lw_okq (⟨"FaultEvidenceModel", "isVote", "(I)Z"⟩, 27) := ⟨⟨by decide +kernel, by decide +kernel⟩, List.mem_of_getElem? (i := 424) (by decide +kernel), List.mem_of_getElem? (i := 583) (by decide +kernel), List.mem_of_getElem? (i := 584) (by decide +kernel)⟩
theorem lw_p36 : lw_okq (⟨"FaultEvidenceModel", "isBreak", "(III)Z"⟩, 27) := ⟨⟨by decide +kernel, by decide +kernel⟩, List.mem_of_getElem? (i := 424) (by decide +kernel), List.mem_of_getElem? (i := 587) (by decide +kernel), List.mem_of_getElem? (i := 588) (by decide +kernel)⟩
theorem lw_p37 : lw_okq (⟨"FaultEvidenceModel", "isTwice", "(II)Z"⟩, 27) := ⟨⟨by decide +kernel, by decide +kernel⟩, List.mem_of_getElem? (i := 424) (by decide +kernel), List.mem_of_getElem? (i := 591) (by decide +kernel), List.mem_of_getElem? (i := 592) (by decide +kernel)⟩
theorem lw_p38 : lw_okq (⟨"FaultEvidenceModel", "isLock", "(II)Z"⟩, 27) := ⟨⟨by decide +kernel, by decide +kernel⟩, List.mem_of_getElem? (i := 424) (by decide +kernel), List.mem_of_getElem? (i := 595) (by decide +kernel), List.mem_of_getElem? (i := 596) (by decide +kernel)⟩
theorem lw_p39 : lw_okq (⟨"FaultEvidenceModel", "isBare", "(I)Z"⟩, 27) := ⟨⟨by decide +kernel, by decide +kernel⟩, List.mem_of_getElem? (i := 424) (by decide +kernel), List.mem_of_getElem? (i := 599) (by decide +kernel), List.mem_of_getElem? (i := 600) (by decide +kernel)⟩
theorem lw_p40 : lw_okq (⟨"FaultEvidenceModel", "isHeight", "(I)Z"⟩, 27) := ⟨⟨by decide +kernel, by decide +kernel⟩, List.mem_of_getElem? (i := 424) (by decide +kernel), List.mem_of_getElem? (i := 624) (by decide +kernel), List.mem_of_getElem? (i := 625) (by decide +kernel)⟩
theorem lw_p41 : lw_okq (⟨"FaultEvidenceModel", "isCertain", "(II)Z"⟩, 27) := ⟨⟨by decide +kernel, by decide +kernel⟩, List.mem_of_getElem? (i := 424) (by decide +kernel), List.mem_of_getElem? (i := 636) (by decide +kernel), List.mem_of_getElem? (i := 637) (by decide +kernel)⟩
theorem lw_p42 : lw_okq (⟨"FaultEvidenceModel", "counts", "(IIII)Z"⟩, 27) := ⟨⟨by decide +kernel, by decide +kernel⟩, List.mem_of_getElem? (i := 424) (by decide +kernel), List.mem_of_getElem? (i := 644) (by decide +kernel), List.mem_of_getElem? (i := 645) (by decide +kernel)⟩
def lw_privs_3 : List (MethodName × Nat) := [(⟨"FaultEvidenceModel", "isBacked", "(III)Z"⟩, 27), (⟨"FaultEvidenceModel", "haveMost", "(II)Z"⟩, 27), (⟨"FaultEvidenceModel", "weightOf", "(II)J"⟩, 27), (⟨"FaultEvidenceModel", "isVote", "(I)Z"⟩, 27), (⟨"FaultEvidenceModel", "isBreak", "(III)Z"⟩, 27), (⟨"FaultEvidenceModel", "isTwice", "(II)Z"⟩, 27), (⟨"FaultEvidenceModel", "isLock", "(II)Z"⟩, 27), (⟨"FaultEvidenceModel", "isBare", "(I)Z"⟩, 27), (⟨"FaultEvidenceModel", "isHeight", "(I)Z"⟩, 27), (⟨"FaultEvidenceModel", "isCertain", "(II)Z"⟩, 27), (⟨"FaultEvidenceModel", "counts", "(IIII)Z"⟩, 27)]
theorem lw_r3 : ∀ q ∈ lw_privs_3, lw_okq q := List.forall_mem_cons.mpr ⟨lw_p32, List.forall_mem_cons.mpr ⟨lw_p33, List.forall_mem_cons.mpr ⟨lw_p34, List.forall_mem_cons.mpr ⟨lw_p35, List.forall_mem_cons.mpr ⟨lw_p36, List.forall_mem_cons.mpr ⟨lw_p37, List.forall_mem_cons.mpr ⟨lw_p38, List.forall_mem_cons.mpr ⟨lw_p39, List.forall_mem_cons.mpr ⟨lw_p40, List.forall_mem_cons.mpr ⟨lw_p41, List.forall_mem_cons.mpr ⟨lw_p42, fun _ h => absurd h List.not_mem_nil⟩⟩⟩⟩⟩⟩⟩⟩⟩⟩⟩
def lw_privs : List (MethodName × Nat) := lw_privs_1 ++ (lw_privs_2 ++ (lw_privs_3))
def lw_tbl : List Cond := k2_sels lw_privs ++ tables_1
theorem lw_privs_ok : ∀ q ∈ lw_privs, lw_okq q := by
  show ∀ q ∈ lw_privs_1 ++ (lw_privs_2 ++ (lw_privs_3)), lw_okq q
  exact List.forall_mem_append.mpr ⟨lw_r1, List.forall_mem_append.mpr ⟨lw_r2, lw_r3⟩⟩
-- ===== end of PART A; then your names; then what follows =====
end
section
/-! ===== BEGIN words of one list among another's, by their places ===== -/
theorem goodIn_r {big : List Cond} (ws : List Cond) (ps : List Nat) (hp : ws = ps.filterMap (fun i => big[i]?)) (h : ws.all goodWord = true) : GoodIn big ws := by
  intro w hw
  have h1 := List.all_eq_true.mp h w hw
  rw [hp] at hw
  obtain ⟨i, -, hi⟩ := List.mem_filterMap.mp hw
  have hm : w ∈ big := by first | exact List.mem_of_getElem? hi | exact List.getElem?_mem hi
  exact ⟨hm, good_of_word h1⟩
theorem goodIn_app {big a b : List Cond} (ha : GoodIn big a) (hb : GoodIn big b) : GoodIn big (a ++ b) := fun w h => (List.mem_append.mp h).elim (ha w) (hb w)
theorem goodIn_ca {big a b : List Cond} {c : Cond} (ha : GoodIn big (c :: a)) (hb : GoodIn big b) : GoodIn big (c :: (a ++ b)) := fun w h => (List.mem_cons.mp h).elim (fun e => ha w (List.mem_cons.mpr (Or.inl e))) (fun h => (List.mem_append.mp h).elim (fun h => ha w (List.mem_cons.mpr (Or.inr h))) (hb w))
theorem goodIn_sub {big ws : List Cond} (hm : ∀ w ∈ ws, w ∈ big) (h : ws.all goodWord = true) : GoodIn big ws := fun w hw => ⟨hm w hw, good_of_word (List.all_eq_true.mp h w hw)⟩
/-! ===== END ===== -/

/-! ===== BEGIN printed: names, fields, word lists, decode rows ===== -/
def RX0 : String := "FaultEvidence$Taken"
def TX0 : u_T := fun k => match k with
  | 0 => ("FaultEvidence$Taken", "kind", "I", true)
  | 1 => ("FaultEvidence$Taken", "first", "I", true)
  | 2 => ("FaultEvidence$Taken", "second", "I", true)
  | 3 => ("FaultEvidence$Taken", "accuser", "I", true)
  | 4 => ("FaultEvidence$Taken", "heightThen", "I", true)
  | 5 => ("FaultEvidence$Taken", "cost", "J", true)
  | _ => ("FaultEvidence$Taken", "reward", "J", true)
def tyX0 : Nat → FieldType := fun k => match k with
  | 0 => .int
  | 1 => .int
  | 2 => .int
  | 3 => .int
  | 4 => .int
  | 5 => .long
  | _ => .long
abbrev wsX00 : List Cond := u_ws RX0 TX0 7
theorem nmX0 : ∀ a, a < 7 → ∀ b, b < 7 → a ≠ b → (TX0 a).2.1 ≠ (TX0 b).2.1 := by decide +kernel
theorem tyX0_ok : ∀ k, k < 7 → parseFieldDescriptor (TX0 k).2.2.1 = some (tyX0 k) := by decide +kernel
abbrev cX0_init : ByteArray := prog_2_method_1_code
def yX0_init : MethodName := ⟨RX0, "<init>", "(IIIIIJJ)V"⟩
def RX1 : String := "FaultEvidence"
def TX1 : u_T := fun k => match k with
  | 0 => ("FaultEvidence", "rules", "[J", true)
  | 1 => ("FaultEvidence", "stakes", "[J", true)
  | 2 => ("FaultEvidence", "purses", "[J", true)
  | 3 => ("FaultEvidence", "out", "[Z", true)
  | 4 => ("FaultEvidence", "nodeCount", "I", false)
  | 5 => ("FaultEvidence", "currentHeight", "I", false)
  | 6 => ("FaultEvidence", "weights", "[J", true)
  | 7 => ("FaultEvidence", "totals", "[J", true)
  | 8 => ("FaultEvidence", "votes", "[I", true)
  | 9 => ("FaultEvidence", "voteCount", "I", false)
  | 10 => ("FaultEvidence", "backedBlocks", "[I", true)
  | 11 => ("FaultEvidence", "certainBlocks", "[I", true)
  | 12 => ("FaultEvidence", "takenBreaks", "Ljava/util/ArrayList;", true)
  | _ => ("FaultEvidence", "burnt", "J", false)
def tyX1 : Nat → FieldType := fun k => match k with
  | 0 => .array .long
  | 1 => .array .long
  | 2 => .array .long
  | 3 => .array .boolean
  | 4 => .int
  | 5 => .int
  | 6 => .array .long
  | 7 => .array .long
  | 8 => .array .int
  | 9 => .int
  | 10 => .array .int
  | 11 => .array .int
  | 12 => .object "java/util/ArrayList"
  | _ => .long
abbrev wsX10 : List Cond := u_ws RX1 TX1 14
theorem nmX1 : ∀ a, a < 14 → ∀ b, b < 14 → a ≠ b → (TX1 a).2.1 ≠ (TX1 b).2.1 := by decide +kernel
theorem tyX1_ok : ∀ k, k < 14 → parseFieldDescriptor (TX1 k).2.2.1 = some (tyX1 k) := by decide +kernel
abbrev cX1_init : ByteArray := prog_1_method_1_code
def yX1_init : MethodName := ⟨RX1, "<init>", "()V"⟩
abbrev cX1_node : ByteArray := prog_1_method_2_code
def yX1_node : MethodName := ⟨RX1, "node", "(J)I"⟩
abbrev cX1_add : ByteArray := prog_1_method_3_code
def yX1_add : MethodName := ⟨RX1, "add", "(IJ)J"⟩
abbrev cX1_next : ByteArray := prog_1_method_4_code
def yX1_next : MethodName := ⟨RX1, "next", "()I"⟩
abbrev cX1_set : ByteArray := prog_1_method_5_code
def yX1_set : MethodName := ⟨RX1, "set", "(IJ)J"⟩
abbrev cX1_vote : ByteArray := prog_1_method_6_code
def yX1_vote : MethodName := ⟨RX1, "vote", "(IIIII)I"⟩
abbrev cX1_may : ByteArray := prog_1_method_7_code
def yX1_may : MethodName := ⟨RX1, "may", "(IIIII)I"⟩
abbrev cX1_accuse : ByteArray := prog_1_method_8_code
def yX1_accuse : MethodName := ⟨RX1, "accuse", "(IIII)J"⟩
abbrev cX1_about : ByteArray := prog_1_method_9_code
def yX1_about : MethodName := ⟨RX1, "about", "(I)J"⟩
abbrev cX1_holds : ByteArray := prog_1_method_10_code
def yX1_holds : MethodName := ⟨RX1, "holds", "(II)J"⟩
abbrev cX1_said : ByteArray := prog_1_method_11_code
def yX1_said : MethodName := ⟨RX1, "said", "(II)I"⟩
abbrev cX1_weight : ByteArray := prog_1_method_12_code
def yX1_weight : MethodName := ⟨RX1, "weight", "(II)J"⟩
abbrev cX1_backed : ByteArray := prog_1_method_13_code
def yX1_backed : MethodName := ⟨RX1, "backed", "(IIII)J"⟩
abbrev cX1_certain : ByteArray := prog_1_method_14_code
def yX1_certain : MethodName := ⟨RX1, "certain", "(II)I"⟩
abbrev cX1_breaks : ByteArray := prog_1_method_15_code
def yX1_breaks : MethodName := ⟨RX1, "breaks", "(II)I"⟩
abbrev cX1_broken : ByteArray := prog_1_method_16_code
def yX1_broken : MethodName := ⟨RX1, "broken", "(IIII)I"⟩
abbrev cX1_named : ByteArray := prog_1_method_17_code
def yX1_named : MethodName := ⟨RX1, "named", "(I)I"⟩
abbrev cX1_taken : ByteArray := prog_1_method_18_code
def yX1_taken : MethodName := ⟨RX1, "taken", "(II)J"⟩
abbrev cX1_isNode : ByteArray := prog_1_method_19_code
def yX1_isNode : MethodName := ⟨RX1, "isNode", "(I)Z"⟩
abbrev cX1_isNodeOrNone : ByteArray := prog_1_method_20_code
def yX1_isNodeOrNone : MethodName := ⟨RX1, "isNodeOrNone", "(I)Z"⟩
abbrev cX1_isVote : ByteArray := prog_1_method_21_code
def yX1_isVote : MethodName := ⟨RX1, "isVote", "(I)Z"⟩
abbrev cX1_isKind : ByteArray := prog_1_method_22_code
def yX1_isKind : MethodName := ⟨RX1, "isKind", "(I)Z"⟩
abbrev cX1_isSayable : ByteArray := prog_1_method_23_code
def yX1_isSayable : MethodName := ⟨RX1, "isSayable", "(III)Z"⟩
abbrev cX1_hasBegun : ByteArray := prog_1_method_24_code
def yX1_hasBegun : MethodName := ⟨RX1, "hasBegun", "(I)Z"⟩
abbrev cX1_isOpen : ByteArray := prog_1_method_25_code
def yX1_isOpen : MethodName := ⟨RX1, "isOpen", "(I)Z"⟩
abbrev cX1_packed : ByteArray := prog_1_method_26_code
def yX1_packed : MethodName := ⟨RX1, "packed", "(IIIII)I"⟩
abbrev cX1_heightOf : ByteArray := prog_1_method_27_code
def yX1_heightOf : MethodName := ⟨RX1, "heightOf", "(I)I"⟩
abbrev cX1_nodeOf : ByteArray := prog_1_method_28_code
def yX1_nodeOf : MethodName := ⟨RX1, "nodeOf", "(I)I"⟩
abbrev cX1_roundOf : ByteArray := prog_1_method_29_code
def yX1_roundOf : MethodName := ⟨RX1, "roundOf", "(I)I"⟩
abbrev cX1_stepOf : ByteArray := prog_1_method_30_code
def yX1_stepOf : MethodName := ⟨RX1, "stepOf", "(I)I"⟩
abbrev cX1_blockOf : ByteArray := prog_1_method_31_code
def yX1_blockOf : MethodName := ⟨RX1, "blockOf", "(I)I"⟩
abbrev cX1_voterOf : ByteArray := prog_1_method_32_code
def yX1_voterOf : MethodName := ⟨RX1, "voterOf", "(I)I"⟩
abbrev cX1_weightIndex : ByteArray := prog_1_method_33_code
def yX1_weightIndex : MethodName := ⟨RX1, "weightIndex", "(II)I"⟩
abbrev cX1_weighNodes : ByteArray := prog_1_method_34_code
def yX1_weighNodes : MethodName := ⟨RX1, "weighNodes", "(I)V"⟩
abbrev cX1_weightFor : ByteArray := prog_1_method_35_code
def yX1_weightFor : MethodName := ⟨RX1, "weightFor", "(I)J"⟩
abbrev cX1_isTheMost : ByteArray := prog_1_method_36_code
def yX1_isTheMost : MethodName := ⟨RX1, "isTheMost", "(IJ)Z"⟩
abbrev cX1_voteRefusal : ByteArray := prog_1_method_37_code
def yX1_voteRefusal : MethodName := ⟨RX1, "voteRefusal", "(IIIII)I"⟩
abbrev cX1_numberOf : ByteArray := prog_1_method_38_code
def yX1_numberOf : MethodName := ⟨RX1, "numberOf", "(I)I"⟩
abbrev cX1_keep : ByteArray := prog_1_method_39_code
def yX1_keep : MethodName := ⟨RX1, "keep", "(I)V"⟩
abbrev cX1_noteTheMost : ByteArray := prog_1_method_40_code
def yX1_noteTheMost : MethodName := ⟨RX1, "noteTheMost", "(I)V"⟩
abbrev cX1_hasBlock : ByteArray := prog_1_method_41_code
def yX1_hasBlock : MethodName := ⟨RX1, "hasBlock", "(II)Z"⟩
abbrev cX1_isBacked : ByteArray := prog_1_method_42_code
def yX1_isBacked : MethodName := ⟨RX1, "isBacked", "(III)Z"⟩
abbrev cX1_isTwice : ByteArray := prog_1_method_43_code
def yX1_isTwice : MethodName := ⟨RX1, "isTwice", "(II)Z"⟩
abbrev cX1_isLocking : ByteArray := prog_1_method_44_code
def yX1_isLocking : MethodName := ⟨RX1, "isLocking", "(I)Z"⟩
abbrev cX1_isLock : ByteArray := prog_1_method_45_code
def yX1_isLock : MethodName := ⟨RX1, "isLock", "(II)Z"⟩
abbrev cX1_isUnlocked : ByteArray := prog_1_method_46_code
def yX1_isUnlocked : MethodName := ⟨RX1, "isUnlocked", "(IIII)Z"⟩
abbrev cX1_isBare : ByteArray := prog_1_method_47_code
def yX1_isBare : MethodName := ⟨RX1, "isBare", "(I)Z"⟩
abbrev cX1_isPair : ByteArray := prog_1_method_48_code
def yX1_isPair : MethodName := ⟨RX1, "isPair", "(III)Z"⟩
abbrev cX1_makesBreak : ByteArray := prog_1_method_49_code
def yX1_makesBreak : MethodName := ⟨RX1, "makesBreak", "(I)Z"⟩
abbrev cX1_isClash : ByteArray := prog_1_method_50_code
def yX1_isClash : MethodName := ⟨RX1, "isClash", "(II)Z"⟩
abbrev cX1_countBreaksFrom : ByteArray := prog_1_method_51_code
def yX1_countBreaksFrom : MethodName := ⟨RX1, "countBreaksFrom", "(II)I"⟩
abbrev cX1_partner : ByteArray := prog_1_method_52_code
def yX1_partner : MethodName := ⟨RX1, "partner", "(III)I"⟩
abbrev cX1_firstPartner : ByteArray := prog_1_method_53_code
def yX1_firstPartner : MethodName := ⟨RX1, "firstPartner", "(II)I"⟩
abbrev cX1_accuseRefusal : ByteArray := prog_1_method_54_code
def yX1_accuseRefusal : MethodName := ⟨RX1, "accuseRefusal", "(IIII)I"⟩
abbrev cX1_wasTaken : ByteArray := prog_1_method_55_code
def yX1_wasTaken : MethodName := ⟨RX1, "wasTaken", "(II)Z"⟩
abbrev cX1_countTakenOf : ByteArray := prog_1_method_56_code
def yX1_countTakenOf : MethodName := ⟨RX1, "countTakenOf", "(I)I"⟩
abbrev cX1_take : ByteArray := prog_1_method_57_code
def yX1_take : MethodName := ⟨RX1, "take", "(IIII)J"⟩
def RX2 : String := "FaultEvidenceModel"
def TX2 : u_T := fun k => match k with
  | 0 => ("FaultEvidenceModel", "nodes", "I", false)
  | 1 => ("FaultEvidenceModel", "stakes", "[J", true)
  | 2 => ("FaultEvidenceModel", "purses", "[J", true)
  | 3 => ("FaultEvidenceModel", "isOut", "[Z", true)
  | 4 => ("FaultEvidenceModel", "height", "I", false)
  | 5 => ("FaultEvidenceModel", "weights", "[J", true)
  | 6 => ("FaultEvidenceModel", "totals", "[J", true)
  | 7 => ("FaultEvidenceModel", "votes", "I", false)
  | 8 => ("FaultEvidenceModel", "who", "[I", true)
  | 9 => ("FaultEvidenceModel", "when", "[I", true)
  | 10 => ("FaultEvidenceModel", "rounds", "[I", true)
  | 11 => ("FaultEvidenceModel", "steps", "[I", true)
  | 12 => ("FaultEvidenceModel", "blocks", "[I", true)
  | 13 => ("FaultEvidenceModel", "saying", "[I", true)
  | 14 => ("FaultEvidenceModel", "rates", "[I", true)
  | 15 => ("FaultEvidenceModel", "span", "I", false)
  | 16 => ("FaultEvidenceModel", "least", "J", false)
  | 17 => ("FaultEvidenceModel", "burnt", "J", false)
  | 18 => ("FaultEvidenceModel", "takenMany", "I", false)
  | 19 => ("FaultEvidenceModel", "takenKind", "[I", true)
  | 20 => ("FaultEvidenceModel", "takenA", "[I", true)
  | 21 => ("FaultEvidenceModel", "takenB", "[I", true)
  | 22 => ("FaultEvidenceModel", "takenBy", "[I", true)
  | 23 => ("FaultEvidenceModel", "takenAt", "[I", true)
  | 24 => ("FaultEvidenceModel", "takenCost", "[J", true)
  | 25 => ("FaultEvidenceModel", "takenShare", "[J", true)
  | _ => ("FaultEvidenceModel", "isDone", "[Z", true)
def tyX2 : Nat → FieldType := fun k => match k with
  | 0 => .int
  | 1 => .array .long
  | 2 => .array .long
  | 3 => .array .boolean
  | 4 => .int
  | 5 => .array .long
  | 6 => .array .long
  | 7 => .int
  | 8 => .array .int
  | 9 => .array .int
  | 10 => .array .int
  | 11 => .array .int
  | 12 => .array .int
  | 13 => .array .int
  | 14 => .array .int
  | 15 => .int
  | 16 => .long
  | 17 => .long
  | 18 => .int
  | 19 => .array .int
  | 20 => .array .int
  | 21 => .array .int
  | 22 => .array .int
  | 23 => .array .int
  | 24 => .array .long
  | 25 => .array .long
  | _ => .array .boolean
abbrev wsX20 : List Cond := u_ws RX2 TX2 27
theorem nmX2 : ∀ a, a < 27 → ∀ b, b < 27 → a ≠ b → (TX2 a).2.1 ≠ (TX2 b).2.1 := by decide +kernel
theorem tyX2_ok : ∀ k, k < 27 → parseFieldDescriptor (TX2 k).2.2.1 = some (tyX2 k) := by decide +kernel
abbrev cX2_init : ByteArray := prog_4_method_1_code
def yX2_init : MethodName := ⟨RX2, "<init>", "()V"⟩
abbrev cX2_in : ByteArray := prog_4_method_2_code
def yX2_in : MethodName := ⟨RX2, "in", "(JJJ)Z"⟩
abbrev cX2_isNode : ByteArray := prog_4_method_3_code
def yX2_isNode : MethodName := ⟨RX2, "isNode", "(I)Z"⟩
abbrev cX2_isVote : ByteArray := prog_4_method_4_code
def yX2_isVote : MethodName := ⟨RX2, "isVote", "(I)Z"⟩
abbrev cX2_isHeight : ByteArray := prog_4_method_5_code
def yX2_isHeight : MethodName := ⟨RX2, "isHeight", "(I)Z"⟩
abbrev cX2_place : ByteArray := prog_4_method_6_code
def yX2_place : MethodName := ⟨RX2, "place", "(IIII)I"⟩
abbrev cX2_weightOf : ByteArray := prog_4_method_7_code
def yX2_weightOf : MethodName := ⟨RX2, "weightOf", "(II)J"⟩
abbrev cX2_haveMost : ByteArray := prog_4_method_8_code
def yX2_haveMost : MethodName := ⟨RX2, "haveMost", "(II)Z"⟩
abbrev cX2_isBacked : ByteArray := prog_4_method_9_code
def yX2_isBacked : MethodName := ⟨RX2, "isBacked", "(III)Z"⟩
abbrev cX2_isCertain : ByteArray := prog_4_method_10_code
def yX2_isCertain : MethodName := ⟨RX2, "isCertain", "(II)Z"⟩
abbrev cX2_isTwice : ByteArray := prog_4_method_11_code
def yX2_isTwice : MethodName := ⟨RX2, "isTwice", "(II)Z"⟩
abbrev cX2_isLock : ByteArray := prog_4_method_12_code
def yX2_isLock : MethodName := ⟨RX2, "isLock", "(II)Z"⟩
abbrev cX2_isBare : ByteArray := prog_4_method_13_code
def yX2_isBare : MethodName := ⟨RX2, "isBare", "(I)Z"⟩
abbrev cX2_isBreak : ByteArray := prog_4_method_14_code
def yX2_isBreak : MethodName := ⟨RX2, "isBreak", "(III)Z"⟩
abbrev cX2_node : ByteArray := prog_4_method_15_code
def yX2_node : MethodName := ⟨RX2, "node", "(J)I"⟩
abbrev cX2_add : ByteArray := prog_4_method_16_code
def yX2_add : MethodName := ⟨RX2, "add", "(IJ)J"⟩
abbrev cX2_next : ByteArray := prog_4_method_17_code
def yX2_next : MethodName := ⟨RX2, "next", "()I"⟩
abbrev cX2_set : ByteArray := prog_4_method_18_code
def yX2_set : MethodName := ⟨RX2, "set", "(IJ)J"⟩
abbrev cX2_refusal : ByteArray := prog_4_method_19_code
def yX2_refusal : MethodName := ⟨RX2, "refusal", "(IIIII)I"⟩
abbrev cX2_find : ByteArray := prog_4_method_20_code
def yX2_find : MethodName := ⟨RX2, "find", "(IIIII)I"⟩
abbrev cX2_vote : ByteArray := prog_4_method_21_code
def yX2_vote : MethodName := ⟨RX2, "vote", "(IIIII)I"⟩
abbrev cX2_saidBy : ByteArray := prog_4_method_22_code
def yX2_saidBy : MethodName := ⟨RX2, "saidBy", "(IIII)I"⟩
abbrev cX2_may : ByteArray := prog_4_method_23_code
def yX2_may : MethodName := ⟨RX2, "may", "(IIIII)I"⟩
abbrev cX2_accuse : ByteArray := prog_4_method_24_code
def yX2_accuse : MethodName := ⟨RX2, "accuse", "(IIII)J"⟩
abbrev cX2_about : ByteArray := prog_4_method_25_code
def yX2_about : MethodName := ⟨RX2, "about", "(I)J"⟩
abbrev cX2_holds : ByteArray := prog_4_method_26_code
def yX2_holds : MethodName := ⟨RX2, "holds", "(II)J"⟩
abbrev cX2_said : ByteArray := prog_4_method_27_code
def yX2_said : MethodName := ⟨RX2, "said", "(II)I"⟩
abbrev cX2_weight : ByteArray := prog_4_method_28_code
def yX2_weight : MethodName := ⟨RX2, "weight", "(II)J"⟩
abbrev cX2_backed : ByteArray := prog_4_method_29_code
def yX2_backed : MethodName := ⟨RX2, "backed", "(IIII)J"⟩
abbrev cX2_certain : ByteArray := prog_4_method_30_code
def yX2_certain : MethodName := ⟨RX2, "certain", "(II)I"⟩
abbrev cX2_counts : ByteArray := prog_4_method_31_code
def yX2_counts : MethodName := ⟨RX2, "counts", "(IIII)Z"⟩
abbrev cX2_breaks : ByteArray := prog_4_method_32_code
def yX2_breaks : MethodName := ⟨RX2, "breaks", "(II)I"⟩
abbrev cX2_broken : ByteArray := prog_4_method_33_code
def yX2_broken : MethodName := ⟨RX2, "broken", "(IIII)I"⟩
abbrev cX2_named : ByteArray := prog_4_method_34_code
def yX2_named : MethodName := ⟨RX2, "named", "(I)I"⟩
abbrev cX2_taken : ByteArray := prog_4_method_35_code
def yX2_taken : MethodName := ⟨RX2, "taken", "(II)J"⟩
def RJx145de : String := "java/io/Serializable"
def TJx145de : u_T := fun k => match k with
  | _ => ("", "", "", false)
def tyJx145de : Nat → FieldType := fun k => match k with
  | _ => .int
abbrev wsJx145de0 : List Cond := u_ws RJx145de TJx145de 0
theorem nmJx145de : ∀ a, a < 0 → ∀ b, b < 0 → a ≠ b → (TJx145de a).2.1 ≠ (TJx145de b).2.1 := by decide +kernel
theorem tyJx145de_ok : ∀ k, k < 0 → parseFieldDescriptor (TJx145de k).2.2.1 = some (tyJx145de k) := by decide +kernel
def RJx8e188 : String := "java/lang/Cloneable"
def TJx8e188 : u_T := fun k => match k with
  | _ => ("", "", "", false)
def tyJx8e188 : Nat → FieldType := fun k => match k with
  | _ => .int
abbrev wsJx8e1880 : List Cond := u_ws RJx8e188 TJx8e188 0
theorem nmJx8e188 : ∀ a, a < 0 → ∀ b, b < 0 → a ≠ b → (TJx8e188 a).2.1 ≠ (TJx8e188 b).2.1 := by decide +kernel
theorem tyJx8e188_ok : ∀ k, k < 0 → parseFieldDescriptor (TJx8e188 k).2.2.1 = some (tyJx8e188 k) := by decide +kernel
def RJxab1ab : String := "java/lang/Iterable"
def TJxab1ab : u_T := fun k => match k with
  | _ => ("", "", "", false)
def tyJxab1ab : Nat → FieldType := fun k => match k with
  | _ => .int
abbrev wsJxab1ab0 : List Cond := u_ws RJxab1ab TJxab1ab 0
theorem nmJxab1ab : ∀ a, a < 0 → ∀ b, b < 0 → a ≠ b → (TJxab1ab a).2.1 ≠ (TJxab1ab b).2.1 := by decide +kernel
theorem tyJxab1ab_ok : ∀ k, k < 0 → parseFieldDescriptor (TJxab1ab k).2.2.1 = some (tyJxab1ab k) := by decide +kernel
def RJ9 : String := "java/lang/Math"
def TJ9 : u_T := fun k => match k with
  | _ => ("", "", "", false)
def tyJ9 : Nat → FieldType := fun k => match k with
  | _ => .int
abbrev wsJ90 : List Cond := u_ws RJ9 TJ9 0
theorem nmJ9 : ∀ a, a < 0 → ∀ b, b < 0 → a ≠ b → (TJ9 a).2.1 ≠ (TJ9 b).2.1 := by decide +kernel
theorem tyJ9_ok : ∀ k, k < 0 → parseFieldDescriptor (TJ9 k).2.2.1 = some (tyJ9 k) := by decide +kernel
abbrev cJ9_max_7cf53 : ByteArray := prog_8_method_65_code
def yJ9_max_7cf53 : MethodName := ⟨RJ9, "max", "(II)I"⟩
abbrev cJ9_min_7cf53 : ByteArray := prog_8_method_69_code
def yJ9_min_7cf53 : MethodName := ⟨RJ9, "min", "(II)I"⟩
def RJ10 : String := "java/lang/System"
def TJ10 : u_T := fun k => match k with
  | _ => ("", "", "", false)
def tyJ10 : Nat → FieldType := fun k => match k with
  | _ => .int
abbrev wsJ100 : List Cond := u_ws RJ10 TJ10 0
theorem nmJ10 : ∀ a, a < 0 → ∀ b, b < 0 → a ≠ b → (TJ10 a).2.1 ≠ (TJ10 b).2.1 := by decide +kernel
theorem tyJ10_ok : ∀ k, k < 0 → parseFieldDescriptor (TJ10 k).2.2.1 = some (tyJ10 k) := by decide +kernel
def RJxa1e45 : String := "java/util/AbstractCollection"
def TJxa1e45 : u_T := fun k => match k with
  | _ => ("", "", "", false)
def tyJxa1e45 : Nat → FieldType := fun k => match k with
  | _ => .int
abbrev wsJxa1e450 : List Cond := u_ws RJxa1e45 TJxa1e45 0
theorem nmJxa1e45 : ∀ a, a < 0 → ∀ b, b < 0 → a ≠ b → (TJxa1e45 a).2.1 ≠ (TJxa1e45 b).2.1 := by decide +kernel
theorem tyJxa1e45_ok : ∀ k, k < 0 → parseFieldDescriptor (TJxa1e45 k).2.2.1 = some (tyJxa1e45 k) := by decide +kernel
abbrev cJxa1e45_init_da8c8 : ByteArray := prog_10_method_1_code
def yJxa1e45_init_da8c8 : MethodName := ⟨RJxa1e45, "<init>", "()V"⟩
def RJxc12de : String := "java/util/AbstractList"
def TJxc12de : u_T := fun k => match k with
  | _ => ("", "", "", false)
def tyJxc12de : Nat → FieldType := fun k => match k with
  | _ => .int
abbrev wsJxc12de0 : List Cond := u_ws RJxc12de TJxc12de 0
theorem nmJxc12de : ∀ a, a < 0 → ∀ b, b < 0 → a ≠ b → (TJxc12de a).2.1 ≠ (TJxc12de b).2.1 := by decide +kernel
theorem tyJxc12de_ok : ∀ k, k < 0 → parseFieldDescriptor (TJxc12de k).2.2.1 = some (tyJxc12de k) := by decide +kernel
abbrev cJxc12de_init_da8c8 : ByteArray := prog_11_method_1_code
def yJxc12de_init_da8c8 : MethodName := ⟨RJxc12de, "<init>", "()V"⟩
def RJx4a65c : String := "java/util/ArrayList"
def TJx4a65c : u_T := fun k => match k with
  | 0 => ("java/util/AbstractList", "modCount", "I", false)
  | 1 => ("java/util/ArrayList", "elementData", "[Ljava/lang/Object;", false)
  | _ => ("java/util/ArrayList", "size", "I", false)
def tyJx4a65c : Nat → FieldType := fun k => match k with
  | 0 => .int
  | 1 => .array (.object "java/lang/Object")
  | _ => .int
abbrev wsJx4a65c0 : List Cond := u_ws RJx4a65c TJx4a65c 3
theorem nmJx4a65c : ∀ a, a < 3 → ∀ b, b < 3 → a ≠ b → (TJx4a65c a).2.1 ≠ (TJx4a65c b).2.1 := by decide +kernel
theorem tyJx4a65c_ok : ∀ k, k < 3 → parseFieldDescriptor (TJx4a65c k).2.2.1 = some (tyJx4a65c k) := by decide +kernel
abbrev cJx4a65c_init_da8c8 : ByteArray := prog_12_method_2_code
def yJx4a65c_init_da8c8 : MethodName := ⟨RJx4a65c, "<init>", "()V"⟩
abbrev cJx4a65c_grow_92f84 : ByteArray := prog_12_method_6_code
def yJx4a65c_grow_92f84 : MethodName := ⟨RJx4a65c, "grow", "(I)[Ljava/lang/Object;"⟩
abbrev cJx4a65c_grow_d5877 : ByteArray := prog_12_method_7_code
def yJx4a65c_grow_d5877 : MethodName := ⟨RJx4a65c, "grow", "()[Ljava/lang/Object;"⟩
abbrev cJx4a65c_size_8abf5 : ByteArray := prog_12_method_8_code
def yJx4a65c_size_8abf5 : MethodName := ⟨RJx4a65c, "size", "()I"⟩
abbrev cJx4a65c_elementData_915e3 : ByteArray := prog_12_method_18_code
def yJx4a65c_elementData_915e3 : MethodName := ⟨RJx4a65c, "elementData", "(I)Ljava/lang/Object;"⟩
abbrev cJx4a65c_get_915e3 : ByteArray := prog_12_method_20_code
def yJx4a65c_get_915e3 : MethodName := ⟨RJx4a65c, "get", "(I)Ljava/lang/Object;"⟩
abbrev cJx4a65c_add_72be8 : ByteArray := prog_12_method_24_code
def yJx4a65c_add_72be8 : MethodName := ⟨RJx4a65c, "add", "(Ljava/lang/Object;[Ljava/lang/Object;I)V"⟩
abbrev cJx4a65c_add_9ea2d : ByteArray := prog_12_method_25_code
def yJx4a65c_add_9ea2d : MethodName := ⟨RJx4a65c, "add", "(Ljava/lang/Object;)Z"⟩
def RJ7 : String := "java/util/Arrays"
def TJ7 : u_T := fun k => match k with
  | _ => ("", "", "", false)
def tyJ7 : Nat → FieldType := fun k => match k with
  | _ => .int
abbrev wsJ70 : List Cond := u_ws RJ7 TJ7 0
theorem nmJ7 : ∀ a, a < 0 → ∀ b, b < 0 → a ≠ b → (TJ7 a).2.1 ≠ (TJ7 b).2.1 := by decide +kernel
theorem tyJ7_ok : ∀ k, k < 0 → parseFieldDescriptor (TJ7 k).2.2.1 = some (tyJ7 k) := by decide +kernel
abbrev cJ7_copyOf_1904c : ByteArray := prog_13_method_119_code
def yJ7_copyOf_1904c : MethodName := ⟨RJ7, "copyOf", "([Ljava/lang/Object;I)[Ljava/lang/Object;"⟩
abbrev cJ7_copyOf_6403c : ByteArray := prog_13_method_120_code
def yJ7_copyOf_6403c : MethodName := ⟨RJ7, "copyOf", "([Ljava/lang/Object;ILjava/lang/Class;)[Ljava/lang/Object;"⟩
def RJx5ef63 : String := "java/util/Collection"
def TJx5ef63 : u_T := fun k => match k with
  | _ => ("", "", "", false)
def tyJx5ef63 : Nat → FieldType := fun k => match k with
  | _ => .int
abbrev wsJx5ef630 : List Cond := u_ws RJx5ef63 TJx5ef63 0
theorem nmJx5ef63 : ∀ a, a < 0 → ∀ b, b < 0 → a ≠ b → (TJx5ef63 a).2.1 ≠ (TJx5ef63 b).2.1 := by decide +kernel
theorem tyJx5ef63_ok : ∀ k, k < 0 → parseFieldDescriptor (TJx5ef63 k).2.2.1 = some (tyJx5ef63 k) := by decide +kernel
def RJxbd725 : String := "java/util/List"
def TJxbd725 : u_T := fun k => match k with
  | _ => ("", "", "", false)
def tyJxbd725 : Nat → FieldType := fun k => match k with
  | _ => .int
abbrev wsJxbd7250 : List Cond := u_ws RJxbd725 TJxbd725 0
theorem nmJxbd725 : ∀ a, a < 0 → ∀ b, b < 0 → a ≠ b → (TJxbd725 a).2.1 ≠ (TJxbd725 b).2.1 := by decide +kernel
theorem tyJxbd725_ok : ∀ k, k < 0 → parseFieldDescriptor (TJxbd725 k).2.2.1 = some (tyJxbd725 k) := by decide +kernel
def RJ15 : String := "java/util/Objects"
def TJ15 : u_T := fun k => match k with
  | _ => ("", "", "", false)
def tyJ15 : Nat → FieldType := fun k => match k with
  | _ => .int
abbrev wsJ150 : List Cond := u_ws RJ15 TJ15 0
theorem nmJ15 : ∀ a, a < 0 → ∀ b, b < 0 → a ≠ b → (TJ15 a).2.1 ≠ (TJ15 b).2.1 := by decide +kernel
theorem tyJ15_ok : ∀ k, k < 0 → parseFieldDescriptor (TJ15 k).2.2.1 = some (tyJ15 k) := by decide +kernel
abbrev cJ15_checkIndex_7cf53 : ByteArray := prog_16_method_17_code
def yJ15_checkIndex_7cf53 : MethodName := ⟨RJ15, "checkIndex", "(II)I"⟩
def RJxf0a74 : String := "java/util/RandomAccess"
def TJxf0a74 : u_T := fun k => match k with
  | _ => ("", "", "", false)
def tyJxf0a74 : Nat → FieldType := fun k => match k with
  | _ => .int
abbrev wsJxf0a740 : List Cond := u_ws RJxf0a74 TJxf0a74 0
theorem nmJxf0a74 : ∀ a, a < 0 → ∀ b, b < 0 → a ≠ b → (TJxf0a74 a).2.1 ≠ (TJxf0a74 b).2.1 := by decide +kernel
theorem tyJxf0a74_ok : ∀ k, k < 0 → parseFieldDescriptor (TJxf0a74 k).2.2.1 = some (tyJxf0a74 k) := by decide +kernel
def RJxa66e6 : String := "java/util/SequencedCollection"
def TJxa66e6 : u_T := fun k => match k with
  | _ => ("", "", "", false)
def tyJxa66e6 : Nat → FieldType := fun k => match k with
  | _ => .int
abbrev wsJxa66e60 : List Cond := u_ws RJxa66e6 TJxa66e6 0
theorem nmJxa66e6 : ∀ a, a < 0 → ∀ b, b < 0 → a ≠ b → (TJxa66e6 a).2.1 ≠ (TJxa66e6 b).2.1 := by decide +kernel
theorem tyJxa66e6_ok : ∀ k, k < 0 → parseFieldDescriptor (TJxa66e6 k).2.2.1 = some (tyJxa66e6 k) := by decide +kernel
def RJ8 : String := "jdk/internal/util/ArraysSupport"
def TJ8 : u_T := fun k => match k with
  | _ => ("", "", "", false)
def tyJ8 : Nat → FieldType := fun k => match k with
  | _ => .int
abbrev wsJ80 : List Cond := u_ws RJ8 TJ8 0
theorem nmJ8 : ∀ a, a < 0 → ∀ b, b < 0 → a ≠ b → (TJ8 a).2.1 ≠ (TJ8 b).2.1 := by decide +kernel
theorem tyJ8_ok : ∀ k, k < 0 → parseFieldDescriptor (TJ8 k).2.2.1 = some (tyJ8 k) := by decide +kernel
abbrev cJ8_newLength_cabcc : ByteArray := prog_19_method_27_code
def yJ8_newLength_cabcc : MethodName := ⟨RJ8, "newLength", "(III)I"⟩
abbrev cJ8_hugeLength_7cf53 : ByteArray := prog_19_method_28_code
def yJ8_hugeLength_7cf53 : MethodName := ⟨RJ8, "hugeLength", "(II)I"⟩
def RJ3 : String := "jdk/internal/util/Preconditions"
def TJ3 : u_T := fun k => match k with
  | _ => ("", "", "", false)
def tyJ3 : Nat → FieldType := fun k => match k with
  | _ => .int
abbrev wsJ30 : List Cond := u_ws RJ3 TJ3 0
theorem nmJ3 : ∀ a, a < 0 → ∀ b, b < 0 → a ≠ b → (TJ3 a).2.1 ≠ (TJ3 b).2.1 := by decide +kernel
theorem tyJ3_ok : ∀ k, k < 0 → parseFieldDescriptor (TJ3 k).2.2.1 = some (tyJ3 k) := by decide +kernel
abbrev cJ3_checkIndex_8e157 : ByteArray := prog_20_method_11_code
def yJ3_checkIndex_8e157 : MethodName := ⟨RJ3, "checkIndex", "(IILjava/util/function/BiFunction;)I"⟩
def RL : String := "FaultEvidenceLaw"
abbrev cL_law : ByteArray := code
def yL_law : MethodName := ⟨RL, "law", "([I)Z"⟩
def wsX0_init : List Cond := .code yX0_init cX0_init 10 none :: ([.methodLink RX0 1 objectInit, .instanceMethod objectInit, .code objectInit ⟨#[0xb1]⟩ 1 none, .fieldLink RX0 7 "FaultEvidence$Taken" "kind" "I", .fieldLink RX0 13 "FaultEvidence$Taken" "first" "I", .fieldLink RX0 16 "FaultEvidence$Taken" "second" "I", .fieldLink RX0 19 "FaultEvidence$Taken" "accuser" "I", .fieldLink RX0 22 "FaultEvidence$Taken" "heightThen" "I", .fieldLink RX0 25 "FaultEvidence$Taken" "cost" "J", .fieldLink RX0 29 "FaultEvidence$Taken" "reward" "J"] ++ wsX00)
def wsJxa1e45_init_da8c8 : List Cond := .code yJxa1e45_init_da8c8 cJxa1e45_init_da8c8 1 none :: ([.methodLink RJxa1e45 1 objectInit, .instanceMethod objectInit, .code objectInit ⟨#[0xb1]⟩ 1 none])
def wsJxc12de_init_da8c8 : List Cond := .code yJxc12de_init_da8c8 cJxc12de_init_da8c8 1 none :: ([.fieldLink RJxc12de 7 "java/util/AbstractList" "modCount" "I", .methodLink RJxc12de 1 yJxa1e45_init_da8c8, .instanceMethod yJxa1e45_init_da8c8, .initialized RJxa1e45, .code yJxa1e45_init_da8c8 cJxa1e45_init_da8c8 1 none, .methodLink RJxa1e45 1 objectInit, .instanceMethod objectInit, .code objectInit ⟨#[0xb1]⟩ 1 none] ++ wsJx4a65c0)
def wsJx4a65c_init_da8c8 : List Cond := .code yJx4a65c_init_da8c8 cJx4a65c_init_da8c8 1 none :: ([.fieldLink RJx4a65c 39 "java/util/ArrayList" "DEFAULTCAPACITY_EMPTY_ELEMENTDATA" "[Ljava/lang/Object;", .fieldLink RJx4a65c 9 "java/util/ArrayList" "elementData" "[Ljava/lang/Object;", .methodLink RJx4a65c 1 yJxc12de_init_da8c8, .instanceMethod yJxc12de_init_da8c8, .initialized RJxc12de, .code yJxc12de_init_da8c8 cJxc12de_init_da8c8 1 none, .fieldLink RJxc12de 7 "java/util/AbstractList" "modCount" "I", .methodLink RJxc12de 1 yJxa1e45_init_da8c8, .instanceMethod yJxa1e45_init_da8c8, .initialized RJxa1e45, .code yJxa1e45_init_da8c8 cJxa1e45_init_da8c8 1 none, .methodLink RJxa1e45 1 objectInit, .instanceMethod objectInit, .code objectInit ⟨#[0xb1]⟩ 1 none] ++ wsJx4a65c0)
def wsX1_init_r1 : List Cond := [Cond.methodLink RX1 3 objectInit, Cond.instanceMethod objectInit, Cond.code objectInit ⟨#[0xb1]⟩ 1 none, Cond.arrayClass .long, Cond.constantLong RX1 9 (50), Cond.constantLong RX1 11 (100), Cond.constantLong RX1 13 (200), Cond.constantLong RX1 15 (10), Cond.fieldLink RX1 17 "FaultEvidence" "rules" "[J", Cond.fieldLink RX1 21 "FaultEvidence" "stakes" "[J", Cond.fieldLink RX1 24 "FaultEvidence" "purses" "[J", Cond.arrayClass .boolean, Cond.fieldLink RX1 27 "FaultEvidence" "out" "[Z", Cond.fieldLink RX1 31 "FaultEvidence" "nodeCount" "I", Cond.fieldLink RX1 35 "FaultEvidence" "currentHeight" "I", Cond.fieldLink RX1 38 "FaultEvidence" "weights" "[J", Cond.fieldLink RX1 41 "FaultEvidence" "totals" "[J", Cond.arrayClass .int, Cond.fieldLink RX1 44 "FaultEvidence" "votes" "[I", Cond.fieldLink RX1 48 "FaultEvidence" "voteCount" "I", Cond.fieldLink RX1 51 "FaultEvidence" "backedBlocks" "[I", Cond.fieldLink RX1 54 "FaultEvidence" "certainBlocks" "[I", Cond.classLink RX1 57 RJx4a65c, Cond.instantiable RJx4a65c 3]
def wsX1_init_r2 : List Cond := [Cond.initialized RJx4a65c, Cond.fieldLink RX1 60 "FaultEvidence" "takenBreaks" "Ljava/util/ArrayList;", Cond.fieldLink RX1 64 "FaultEvidence" "burnt" "J", Cond.methodLink RX1 59 yJx4a65c_init_da8c8, Cond.instanceMethod yJx4a65c_init_da8c8, Cond.code yJx4a65c_init_da8c8 cJx4a65c_init_da8c8 1 none, Cond.fieldLink RJx4a65c 39 "java/util/ArrayList" "DEFAULTCAPACITY_EMPTY_ELEMENTDATA" "[Ljava/lang/Object;", Cond.fieldLink RJx4a65c 9 "java/util/ArrayList" "elementData" "[Ljava/lang/Object;", Cond.methodLink RJx4a65c 1 yJxc12de_init_da8c8, Cond.instanceMethod yJxc12de_init_da8c8, Cond.initialized RJxc12de, Cond.code yJxc12de_init_da8c8 cJxc12de_init_da8c8 1 none, Cond.fieldLink RJxc12de 7 "java/util/AbstractList" "modCount" "I", Cond.methodLink RJxc12de 1 yJxa1e45_init_da8c8, Cond.instanceMethod yJxa1e45_init_da8c8, Cond.initialized RJxa1e45, Cond.code yJxa1e45_init_da8c8 cJxa1e45_init_da8c8 1 none, Cond.methodLink RJxa1e45 1 objectInit]
def wsX1_init : List Cond := .code yX1_init cX1_init 1 none :: ((wsX1_init_r1 ++ wsX1_init_r2) ++ wsX10 ++ wsJx4a65c0)
def wsX1_node : List Cond := .code yX1_node cX1_node 3 (some .int) :: ([.constantLong RX1 68 (1000000000), .fieldLink RX1 31 "FaultEvidence" "nodeCount" "I", .fieldLink RX1 21 "FaultEvidence" "stakes" "[J"] ++ wsX10)
def wsX1_isNode : List Cond := .code yX1_isNode cX1_isNode 2 (some .boolean) :: ([.fieldLink RX1 31 "FaultEvidence" "nodeCount" "I"] ++ wsX10)
def wsX1_add : List Cond := .code yX1_add cX1_add 4 (some .long) :: ([.constantLong RX1 74 (-101), .constantLong RX1 68 (1000000000), .fieldLink RX1 21 "FaultEvidence" "stakes" "[J", .constantLong RX1 76 (-102), .methodLink RX1 70 yX1_isNode, .instanceMethod yX1_isNode, .selects RX1 yX1_isNode yX1_isNode, .initialized RX1, .code yX1_isNode cX1_isNode 2 (some .boolean), .fieldLink RX1 31 "FaultEvidence" "nodeCount" "I"] ++ wsX10)
def wsX1_weightIndex : List Cond := .code yX1_weightIndex cX1_weightIndex 2 (some .int) :: ([])
def wsX1_weighNodes : List Cond := .code yX1_weighNodes cX1_weighNodes 7 none :: ([.fieldLink RX1 31 "FaultEvidence" "nodeCount" "I", .fieldLink RX1 27 "FaultEvidence" "out" "[Z", .fieldLink RX1 21 "FaultEvidence" "stakes" "[J", .fieldLink RX1 38 "FaultEvidence" "weights" "[J", .fieldLink RX1 41 "FaultEvidence" "totals" "[J", .methodLink RX1 153 yX1_weightIndex, .static yX1_weightIndex, .initialized RX1, .code yX1_weightIndex cX1_weightIndex 2 (some .int)] ++ wsX10)
def wsX1_next : List Cond := .code yX1_next cX1_next 1 (some .int) :: ([.fieldLink RX1 35 "FaultEvidence" "currentHeight" "I", .methodLink RX1 78 yX1_weighNodes, .instanceMethod yX1_weighNodes, .selects RX1 yX1_weighNodes yX1_weighNodes, .initialized RX1, .code yX1_weighNodes cX1_weighNodes 7 none, .fieldLink RX1 31 "FaultEvidence" "nodeCount" "I", .fieldLink RX1 27 "FaultEvidence" "out" "[Z", .fieldLink RX1 21 "FaultEvidence" "stakes" "[J", .fieldLink RX1 38 "FaultEvidence" "weights" "[J", .fieldLink RX1 41 "FaultEvidence" "totals" "[J", .methodLink RX1 153 yX1_weightIndex, .static yX1_weightIndex, .code yX1_weightIndex cX1_weightIndex 2 (some .int)] ++ wsX10)
def wsX1_set : List Cond := .code yX1_set cX1_set 6 (some .long) :: ([.fieldLink RX1 82 "FaultEvidence" "RULE_FROM" "[J", .fieldLink RX1 85 "FaultEvidence" "RULE_TO" "[J", .constantLong RX1 76 (-102), .fieldLink RX1 17 "FaultEvidence" "rules" "[J"] ++ wsX10)
def wsX1_hasBegun : List Cond := .code yX1_hasBegun cX1_hasBegun 2 (some .boolean) :: ([.fieldLink RX1 35 "FaultEvidence" "currentHeight" "I"] ++ wsX10)
def wsX1_isOpen : List Cond := .code yX1_isOpen cX1_isOpen 2 (some .boolean) :: ([.fieldLink RX1 35 "FaultEvidence" "currentHeight" "I", .methodLink RX1 150 yX1_hasBegun, .instanceMethod yX1_hasBegun, .selects RX1 yX1_hasBegun yX1_hasBegun, .initialized RX1, .code yX1_hasBegun cX1_hasBegun 2 (some .boolean)] ++ wsX10)
def wsX1_isSayable : List Cond := .code yX1_isSayable cX1_isSayable 3 (some .boolean) :: ([])
def wsX1_voteRefusal : List Cond := .code yX1_voteRefusal cX1_voteRefusal 6 (some .int) :: ([.fieldLink RX1 38 "FaultEvidence" "weights" "[J", .methodLink RX1 70 yX1_isNode, .instanceMethod yX1_isNode, .selects RX1 yX1_isNode yX1_isNode, .initialized RX1, .code yX1_isNode cX1_isNode 2 (some .boolean), .fieldLink RX1 31 "FaultEvidence" "nodeCount" "I", .methodLink RX1 209 yX1_isOpen, .instanceMethod yX1_isOpen, .selects RX1 yX1_isOpen yX1_isOpen, .code yX1_isOpen cX1_isOpen 2 (some .boolean), .fieldLink RX1 35 "FaultEvidence" "currentHeight" "I", .methodLink RX1 150 yX1_hasBegun, .instanceMethod yX1_hasBegun, .selects RX1 yX1_hasBegun yX1_hasBegun, .code yX1_hasBegun cX1_hasBegun 2 (some .boolean), .methodLink RX1 156 yX1_isSayable, .static yX1_isSayable, .code yX1_isSayable cX1_isSayable 3 (some .boolean), .methodLink RX1 153 yX1_weightIndex, .static yX1_weightIndex, .code yX1_weightIndex cX1_weightIndex 2 (some .int)] ++ wsX10)
def wsX1_packed : List Cond := .code yX1_packed cX1_packed 5 (some .int) :: ([])
def wsX1_numberOf : List Cond := .code yX1_numberOf cX1_numberOf 3 (some .int) :: ([.fieldLink RX1 48 "FaultEvidence" "voteCount" "I", .fieldLink RX1 44 "FaultEvidence" "votes" "[I"] ++ wsX10)
def wsX1_blockOf : List Cond := .code yX1_blockOf cX1_blockOf 1 (some .int) :: ([])
def wsX1_heightOf : List Cond := .code yX1_heightOf cX1_heightOf 1 (some .int) :: ([])
def wsX1_nodeOf : List Cond := .code yX1_nodeOf cX1_nodeOf 1 (some .int) :: ([])
def wsX1_weightFor : List Cond := .code yX1_weightFor cX1_weightFor 7 (some .long) :: ([.fieldLink RX1 48 "FaultEvidence" "voteCount" "I", .fieldLink RX1 44 "FaultEvidence" "votes" "[I", .fieldLink RX1 38 "FaultEvidence" "weights" "[J", .methodLink RX1 135 yX1_heightOf, .static yX1_heightOf, .initialized RX1, .code yX1_heightOf cX1_heightOf 1 (some .int), .methodLink RX1 132 yX1_nodeOf, .static yX1_nodeOf, .code yX1_nodeOf cX1_nodeOf 1 (some .int), .methodLink RX1 153 yX1_weightIndex, .static yX1_weightIndex, .code yX1_weightIndex cX1_weightIndex 2 (some .int)] ++ wsX10)
def wsX1_isTheMost : List Cond := .code yX1_isTheMost cX1_isTheMost 4 (some .boolean) :: ([.constantLong RX1 205 (3), .constantLong RX1 207 (2), .fieldLink RX1 41 "FaultEvidence" "totals" "[J"] ++ wsX10)
def wsX1_stepOf : List Cond := .code yX1_stepOf cX1_stepOf 1 (some .int) :: ([])
def wsX1_roundOf : List Cond := .code yX1_roundOf cX1_roundOf 1 (some .int) :: ([])
def wsX1_noteTheMost : List Cond := .code yX1_noteTheMost cX1_noteTheMost 3 none :: ([.fieldLink RX1 51 "FaultEvidence" "backedBlocks" "[I", .fieldLink RX1 54 "FaultEvidence" "certainBlocks" "[I", .methodLink RX1 144 yX1_blockOf, .static yX1_blockOf, .initialized RX1, .code yX1_blockOf cX1_blockOf 1 (some .int), .methodLink RX1 141 yX1_stepOf, .static yX1_stepOf, .code yX1_stepOf cX1_stepOf 1 (some .int), .methodLink RX1 135 yX1_heightOf, .static yX1_heightOf, .code yX1_heightOf cX1_heightOf 1 (some .int), .methodLink RX1 138 yX1_roundOf, .static yX1_roundOf, .code yX1_roundOf cX1_roundOf 1 (some .int)] ++ wsX10)
def wsX1_keep_r1 : List Cond := [Cond.fieldLink RX1 44 "FaultEvidence" "votes" "[I", Cond.fieldLink RX1 48 "FaultEvidence" "voteCount" "I", Cond.methodLink RX1 144 yX1_blockOf, Cond.static yX1_blockOf, Cond.initialized RX1, Cond.code yX1_blockOf cX1_blockOf 1 (some .int), Cond.methodLink RX1 135 yX1_heightOf, Cond.static yX1_heightOf, Cond.code yX1_heightOf cX1_heightOf 1 (some .int), Cond.methodLink RX1 160 yX1_weightFor, Cond.instanceMethod yX1_weightFor, Cond.selects RX1 yX1_weightFor yX1_weightFor, Cond.code yX1_weightFor cX1_weightFor 7 (some .long), Cond.fieldLink RX1 38 "FaultEvidence" "weights" "[J", Cond.methodLink RX1 132 yX1_nodeOf, Cond.static yX1_nodeOf, Cond.code yX1_nodeOf cX1_nodeOf 1 (some .int), Cond.methodLink RX1 153 yX1_weightIndex, Cond.static yX1_weightIndex, Cond.code yX1_weightIndex cX1_weightIndex 2 (some .int), Cond.methodLink RX1 212 yX1_isTheMost, Cond.instanceMethod yX1_isTheMost, Cond.selects RX1 yX1_isTheMost yX1_isTheMost, Cond.code yX1_isTheMost cX1_isTheMost 4 (some .boolean)]
def wsX1_keep_r2 : List Cond := [Cond.constantLong RX1 205 (3), Cond.constantLong RX1 207 (2), Cond.fieldLink RX1 41 "FaultEvidence" "totals" "[J", Cond.methodLink RX1 216 yX1_noteTheMost, Cond.instanceMethod yX1_noteTheMost, Cond.selects RX1 yX1_noteTheMost yX1_noteTheMost, Cond.code yX1_noteTheMost cX1_noteTheMost 3 none, Cond.fieldLink RX1 51 "FaultEvidence" "backedBlocks" "[I", Cond.fieldLink RX1 54 "FaultEvidence" "certainBlocks" "[I", Cond.methodLink RX1 141 yX1_stepOf, Cond.static yX1_stepOf, Cond.code yX1_stepOf cX1_stepOf 1 (some .int), Cond.methodLink RX1 138 yX1_roundOf, Cond.static yX1_roundOf, Cond.code yX1_roundOf cX1_roundOf 1 (some .int)]
def wsX1_keep : List Cond := .code yX1_keep cX1_keep 2 none :: ((wsX1_keep_r1 ++ wsX1_keep_r2) ++ wsX10)
def wsX1_vote_r1 : List Cond := [Cond.fieldLink RX1 48 "FaultEvidence" "voteCount" "I", Cond.methodLink RX1 88 yX1_voteRefusal, Cond.instanceMethod yX1_voteRefusal, Cond.selects RX1 yX1_voteRefusal yX1_voteRefusal, Cond.initialized RX1, Cond.code yX1_voteRefusal cX1_voteRefusal 6 (some .int), Cond.fieldLink RX1 38 "FaultEvidence" "weights" "[J", Cond.methodLink RX1 70 yX1_isNode, Cond.instanceMethod yX1_isNode, Cond.selects RX1 yX1_isNode yX1_isNode, Cond.code yX1_isNode cX1_isNode 2 (some .boolean), Cond.fieldLink RX1 31 "FaultEvidence" "nodeCount" "I", Cond.methodLink RX1 209 yX1_isOpen, Cond.instanceMethod yX1_isOpen, Cond.selects RX1 yX1_isOpen yX1_isOpen, Cond.code yX1_isOpen cX1_isOpen 2 (some .boolean), Cond.fieldLink RX1 35 "FaultEvidence" "currentHeight" "I", Cond.methodLink RX1 150 yX1_hasBegun, Cond.instanceMethod yX1_hasBegun, Cond.selects RX1 yX1_hasBegun yX1_hasBegun, Cond.code yX1_hasBegun cX1_hasBegun 2 (some .boolean), Cond.methodLink RX1 156 yX1_isSayable, Cond.static yX1_isSayable, Cond.code yX1_isSayable cX1_isSayable 3 (some .boolean)]
def wsX1_vote_r2 : List Cond := [Cond.methodLink RX1 153 yX1_weightIndex, Cond.static yX1_weightIndex, Cond.code yX1_weightIndex cX1_weightIndex 2 (some .int), Cond.methodLink RX1 92 yX1_packed, Cond.static yX1_packed, Cond.code yX1_packed cX1_packed 5 (some .int), Cond.methodLink RX1 95 yX1_numberOf, Cond.instanceMethod yX1_numberOf, Cond.selects RX1 yX1_numberOf yX1_numberOf, Cond.code yX1_numberOf cX1_numberOf 3 (some .int), Cond.fieldLink RX1 44 "FaultEvidence" "votes" "[I", Cond.methodLink RX1 99 yX1_keep, Cond.instanceMethod yX1_keep, Cond.selects RX1 yX1_keep yX1_keep, Cond.code yX1_keep cX1_keep 2 none, Cond.methodLink RX1 144 yX1_blockOf, Cond.static yX1_blockOf, Cond.code yX1_blockOf cX1_blockOf 1 (some .int), Cond.methodLink RX1 135 yX1_heightOf, Cond.static yX1_heightOf, Cond.code yX1_heightOf cX1_heightOf 1 (some .int), Cond.methodLink RX1 160 yX1_weightFor, Cond.instanceMethod yX1_weightFor, Cond.selects RX1 yX1_weightFor yX1_weightFor]
def wsX1_vote_r3 : List Cond := [Cond.code yX1_weightFor cX1_weightFor 7 (some .long), Cond.methodLink RX1 132 yX1_nodeOf, Cond.static yX1_nodeOf, Cond.code yX1_nodeOf cX1_nodeOf 1 (some .int), Cond.methodLink RX1 212 yX1_isTheMost, Cond.instanceMethod yX1_isTheMost, Cond.selects RX1 yX1_isTheMost yX1_isTheMost, Cond.code yX1_isTheMost cX1_isTheMost 4 (some .boolean), Cond.constantLong RX1 205 (3), Cond.constantLong RX1 207 (2), Cond.fieldLink RX1 41 "FaultEvidence" "totals" "[J", Cond.methodLink RX1 216 yX1_noteTheMost, Cond.instanceMethod yX1_noteTheMost, Cond.selects RX1 yX1_noteTheMost yX1_noteTheMost, Cond.code yX1_noteTheMost cX1_noteTheMost 3 none, Cond.fieldLink RX1 51 "FaultEvidence" "backedBlocks" "[I", Cond.fieldLink RX1 54 "FaultEvidence" "certainBlocks" "[I", Cond.methodLink RX1 141 yX1_stepOf, Cond.static yX1_stepOf, Cond.code yX1_stepOf cX1_stepOf 1 (some .int), Cond.methodLink RX1 138 yX1_roundOf, Cond.static yX1_roundOf, Cond.code yX1_roundOf cX1_roundOf 1 (some .int)]
def wsX1_vote : List Cond := .code yX1_vote cX1_vote 9 (some .int) :: ((wsX1_vote_r1 ++ (wsX1_vote_r2 ++ wsX1_vote_r3)) ++ wsX10)
def wsX1_isLocking : List Cond := .code yX1_isLocking cX1_isLocking 1 (some .boolean) :: ([.methodLink RX1 141 yX1_stepOf, .static yX1_stepOf, .initialized RX1, .code yX1_stepOf cX1_stepOf 1 (some .int), .methodLink RX1 144 yX1_blockOf, .static yX1_blockOf, .code yX1_blockOf cX1_blockOf 1 (some .int)])
def wsX1_hasBlock : List Cond := .code yX1_hasBlock cX1_hasBlock 2 (some .boolean) :: ([])
def wsX1_isBacked : List Cond := .code yX1_isBacked cX1_isBacked 4 (some .boolean) :: ([.fieldLink RX1 51 "FaultEvidence" "backedBlocks" "[I", .methodLink RX1 164 yX1_hasBlock, .static yX1_hasBlock, .initialized RX1, .code yX1_hasBlock cX1_hasBlock 2 (some .boolean)] ++ wsX10)
def wsX1_isBare : List Cond := .code yX1_isBare cX1_isBare 2 (some .boolean) :: ([.methodLink RX1 219 yX1_isLocking, .static yX1_isLocking, .initialized RX1, .code yX1_isLocking cX1_isLocking 1 (some .boolean), .methodLink RX1 141 yX1_stepOf, .static yX1_stepOf, .code yX1_stepOf cX1_stepOf 1 (some .int), .methodLink RX1 144 yX1_blockOf, .static yX1_blockOf, .code yX1_blockOf cX1_blockOf 1 (some .int), .methodLink RX1 135 yX1_heightOf, .static yX1_heightOf, .code yX1_heightOf cX1_heightOf 1 (some .int), .methodLink RX1 138 yX1_roundOf, .static yX1_roundOf, .code yX1_roundOf cX1_roundOf 1 (some .int), .methodLink RX1 229 yX1_isBacked, .instanceMethod yX1_isBacked, .selects RX1 yX1_isBacked yX1_isBacked, .code yX1_isBacked cX1_isBacked 4 (some .boolean), .fieldLink RX1 51 "FaultEvidence" "backedBlocks" "[I", .methodLink RX1 164 yX1_hasBlock, .static yX1_hasBlock, .code yX1_hasBlock cX1_hasBlock 2 (some .boolean)] ++ wsX10)
def wsX1_voterOf : List Cond := .code yX1_voterOf cX1_voterOf 1 (some .int) :: ([])
def wsX1_isTwice : List Cond := .code yX1_isTwice cX1_isTwice 2 (some .boolean) :: ([])
def wsX1_isUnlocked : List Cond := .code yX1_isUnlocked cX1_isUnlocked 6 (some .boolean) :: ([.methodLink RX1 229 yX1_isBacked, .instanceMethod yX1_isBacked, .selects RX1 yX1_isBacked yX1_isBacked, .initialized RX1, .code yX1_isBacked cX1_isBacked 4 (some .boolean), .fieldLink RX1 51 "FaultEvidence" "backedBlocks" "[I", .methodLink RX1 164 yX1_hasBlock, .static yX1_hasBlock, .code yX1_hasBlock cX1_hasBlock 2 (some .boolean)] ++ wsX10)
def wsX1_isLock_r1 : List Cond := [Cond.methodLink RX1 219 yX1_isLocking, Cond.static yX1_isLocking, Cond.initialized RX1, Cond.code yX1_isLocking cX1_isLocking 1 (some .boolean), Cond.methodLink RX1 141 yX1_stepOf, Cond.static yX1_stepOf, Cond.code yX1_stepOf cX1_stepOf 1 (some .int), Cond.methodLink RX1 144 yX1_blockOf, Cond.static yX1_blockOf, Cond.code yX1_blockOf cX1_blockOf 1 (some .int), Cond.methodLink RX1 222 yX1_voterOf, Cond.static yX1_voterOf, Cond.code yX1_voterOf cX1_voterOf 1 (some .int), Cond.methodLink RX1 138 yX1_roundOf, Cond.static yX1_roundOf, Cond.code yX1_roundOf cX1_roundOf 1 (some .int), Cond.methodLink RX1 135 yX1_heightOf, Cond.static yX1_heightOf, Cond.code yX1_heightOf cX1_heightOf 1 (some .int), Cond.methodLink RX1 225 yX1_isUnlocked, Cond.instanceMethod yX1_isUnlocked, Cond.selects RX1 yX1_isUnlocked yX1_isUnlocked, Cond.code yX1_isUnlocked cX1_isUnlocked 6 (some .boolean), Cond.methodLink RX1 229 yX1_isBacked]
def wsX1_isLock_r2 : List Cond := [Cond.instanceMethod yX1_isBacked, Cond.selects RX1 yX1_isBacked yX1_isBacked, Cond.code yX1_isBacked cX1_isBacked 4 (some .boolean), Cond.fieldLink RX1 51 "FaultEvidence" "backedBlocks" "[I", Cond.methodLink RX1 164 yX1_hasBlock, Cond.static yX1_hasBlock, Cond.code yX1_hasBlock cX1_hasBlock 2 (some .boolean)]
def wsX1_isLock : List Cond := .code yX1_isLock cX1_isLock 4 (some .boolean) :: ((wsX1_isLock_r1 ++ wsX1_isLock_r2) ++ wsX10)
def wsX1_isClash_r1 : List Cond := [Cond.methodLink RX1 232 yX1_isTwice, Cond.static yX1_isTwice, Cond.initialized RX1, Cond.code yX1_isTwice cX1_isTwice 2 (some .boolean), Cond.methodLink RX1 235 yX1_isLock, Cond.instanceMethod yX1_isLock, Cond.selects RX1 yX1_isLock yX1_isLock, Cond.code yX1_isLock cX1_isLock 4 (some .boolean), Cond.methodLink RX1 219 yX1_isLocking, Cond.static yX1_isLocking, Cond.code yX1_isLocking cX1_isLocking 1 (some .boolean), Cond.methodLink RX1 141 yX1_stepOf, Cond.static yX1_stepOf, Cond.code yX1_stepOf cX1_stepOf 1 (some .int), Cond.methodLink RX1 144 yX1_blockOf, Cond.static yX1_blockOf, Cond.code yX1_blockOf cX1_blockOf 1 (some .int), Cond.methodLink RX1 222 yX1_voterOf, Cond.static yX1_voterOf, Cond.code yX1_voterOf cX1_voterOf 1 (some .int), Cond.methodLink RX1 138 yX1_roundOf, Cond.static yX1_roundOf, Cond.code yX1_roundOf cX1_roundOf 1 (some .int), Cond.methodLink RX1 135 yX1_heightOf]
def wsX1_isClash_r2 : List Cond := [Cond.static yX1_heightOf, Cond.code yX1_heightOf cX1_heightOf 1 (some .int), Cond.methodLink RX1 225 yX1_isUnlocked, Cond.instanceMethod yX1_isUnlocked, Cond.selects RX1 yX1_isUnlocked yX1_isUnlocked, Cond.code yX1_isUnlocked cX1_isUnlocked 6 (some .boolean), Cond.methodLink RX1 229 yX1_isBacked, Cond.instanceMethod yX1_isBacked, Cond.selects RX1 yX1_isBacked yX1_isBacked, Cond.code yX1_isBacked cX1_isBacked 4 (some .boolean), Cond.fieldLink RX1 51 "FaultEvidence" "backedBlocks" "[I", Cond.methodLink RX1 164 yX1_hasBlock, Cond.static yX1_hasBlock, Cond.code yX1_hasBlock cX1_hasBlock 2 (some .boolean)]
def wsX1_isClash : List Cond := .code yX1_isClash cX1_isClash 3 (some .boolean) :: ((wsX1_isClash_r1 ++ wsX1_isClash_r2) ++ wsX10)
def wsX1_makesBreak_r1 : List Cond := [Cond.fieldLink RX1 48 "FaultEvidence" "voteCount" "I", Cond.fieldLink RX1 44 "FaultEvidence" "votes" "[I", Cond.methodLink RX1 238 yX1_isBare, Cond.instanceMethod yX1_isBare, Cond.selects RX1 yX1_isBare yX1_isBare, Cond.initialized RX1, Cond.code yX1_isBare cX1_isBare 2 (some .boolean), Cond.methodLink RX1 219 yX1_isLocking, Cond.static yX1_isLocking, Cond.code yX1_isLocking cX1_isLocking 1 (some .boolean), Cond.methodLink RX1 141 yX1_stepOf, Cond.static yX1_stepOf, Cond.code yX1_stepOf cX1_stepOf 1 (some .int), Cond.methodLink RX1 144 yX1_blockOf, Cond.static yX1_blockOf, Cond.code yX1_blockOf cX1_blockOf 1 (some .int), Cond.methodLink RX1 135 yX1_heightOf, Cond.static yX1_heightOf, Cond.code yX1_heightOf cX1_heightOf 1 (some .int), Cond.methodLink RX1 138 yX1_roundOf, Cond.static yX1_roundOf, Cond.code yX1_roundOf cX1_roundOf 1 (some .int), Cond.methodLink RX1 229 yX1_isBacked, Cond.instanceMethod yX1_isBacked]
def wsX1_makesBreak_r2 : List Cond := [Cond.selects RX1 yX1_isBacked yX1_isBacked, Cond.code yX1_isBacked cX1_isBacked 4 (some .boolean), Cond.fieldLink RX1 51 "FaultEvidence" "backedBlocks" "[I", Cond.methodLink RX1 164 yX1_hasBlock, Cond.static yX1_hasBlock, Cond.code yX1_hasBlock cX1_hasBlock 2 (some .boolean), Cond.methodLink RX1 222 yX1_voterOf, Cond.static yX1_voterOf, Cond.code yX1_voterOf cX1_voterOf 1 (some .int), Cond.methodLink RX1 241 yX1_isClash, Cond.instanceMethod yX1_isClash, Cond.selects RX1 yX1_isClash yX1_isClash, Cond.code yX1_isClash cX1_isClash 3 (some .boolean), Cond.methodLink RX1 232 yX1_isTwice, Cond.static yX1_isTwice, Cond.code yX1_isTwice cX1_isTwice 2 (some .boolean), Cond.methodLink RX1 235 yX1_isLock, Cond.instanceMethod yX1_isLock, Cond.selects RX1 yX1_isLock yX1_isLock, Cond.code yX1_isLock cX1_isLock 4 (some .boolean), Cond.methodLink RX1 225 yX1_isUnlocked, Cond.instanceMethod yX1_isUnlocked, Cond.selects RX1 yX1_isUnlocked yX1_isUnlocked, Cond.code yX1_isUnlocked cX1_isUnlocked 6 (some .boolean)]
def wsX1_makesBreak : List Cond := .code yX1_makesBreak cX1_makesBreak 4 (some .boolean) :: ((wsX1_makesBreak_r1 ++ wsX1_makesBreak_r2) ++ wsX10)
def wsX1_may_r1 : List Cond := [Cond.methodLink RX1 88 yX1_voteRefusal, Cond.instanceMethod yX1_voteRefusal, Cond.selects RX1 yX1_voteRefusal yX1_voteRefusal, Cond.initialized RX1, Cond.code yX1_voteRefusal cX1_voteRefusal 6 (some .int), Cond.fieldLink RX1 38 "FaultEvidence" "weights" "[J", Cond.methodLink RX1 70 yX1_isNode, Cond.instanceMethod yX1_isNode, Cond.selects RX1 yX1_isNode yX1_isNode, Cond.code yX1_isNode cX1_isNode 2 (some .boolean), Cond.fieldLink RX1 31 "FaultEvidence" "nodeCount" "I", Cond.methodLink RX1 209 yX1_isOpen, Cond.instanceMethod yX1_isOpen, Cond.selects RX1 yX1_isOpen yX1_isOpen, Cond.code yX1_isOpen cX1_isOpen 2 (some .boolean), Cond.fieldLink RX1 35 "FaultEvidence" "currentHeight" "I", Cond.methodLink RX1 150 yX1_hasBegun, Cond.instanceMethod yX1_hasBegun, Cond.selects RX1 yX1_hasBegun yX1_hasBegun, Cond.code yX1_hasBegun cX1_hasBegun 2 (some .boolean), Cond.methodLink RX1 156 yX1_isSayable, Cond.static yX1_isSayable, Cond.code yX1_isSayable cX1_isSayable 3 (some .boolean), Cond.methodLink RX1 153 yX1_weightIndex]
def wsX1_may_r2 : List Cond := [Cond.static yX1_weightIndex, Cond.code yX1_weightIndex cX1_weightIndex 2 (some .int), Cond.methodLink RX1 92 yX1_packed, Cond.static yX1_packed, Cond.code yX1_packed cX1_packed 5 (some .int), Cond.methodLink RX1 102 yX1_makesBreak, Cond.instanceMethod yX1_makesBreak, Cond.selects RX1 yX1_makesBreak yX1_makesBreak, Cond.code yX1_makesBreak cX1_makesBreak 4 (some .boolean), Cond.fieldLink RX1 48 "FaultEvidence" "voteCount" "I", Cond.fieldLink RX1 44 "FaultEvidence" "votes" "[I", Cond.methodLink RX1 238 yX1_isBare, Cond.instanceMethod yX1_isBare, Cond.selects RX1 yX1_isBare yX1_isBare, Cond.code yX1_isBare cX1_isBare 2 (some .boolean), Cond.methodLink RX1 219 yX1_isLocking, Cond.static yX1_isLocking, Cond.code yX1_isLocking cX1_isLocking 1 (some .boolean), Cond.methodLink RX1 141 yX1_stepOf, Cond.static yX1_stepOf, Cond.code yX1_stepOf cX1_stepOf 1 (some .int), Cond.methodLink RX1 144 yX1_blockOf, Cond.static yX1_blockOf, Cond.code yX1_blockOf cX1_blockOf 1 (some .int)]
def wsX1_may_r3 : List Cond := [Cond.methodLink RX1 135 yX1_heightOf, Cond.static yX1_heightOf, Cond.code yX1_heightOf cX1_heightOf 1 (some .int), Cond.methodLink RX1 138 yX1_roundOf, Cond.static yX1_roundOf, Cond.code yX1_roundOf cX1_roundOf 1 (some .int), Cond.methodLink RX1 229 yX1_isBacked, Cond.instanceMethod yX1_isBacked, Cond.selects RX1 yX1_isBacked yX1_isBacked, Cond.code yX1_isBacked cX1_isBacked 4 (some .boolean), Cond.fieldLink RX1 51 "FaultEvidence" "backedBlocks" "[I", Cond.methodLink RX1 164 yX1_hasBlock, Cond.static yX1_hasBlock, Cond.code yX1_hasBlock cX1_hasBlock 2 (some .boolean), Cond.methodLink RX1 222 yX1_voterOf, Cond.static yX1_voterOf, Cond.code yX1_voterOf cX1_voterOf 1 (some .int), Cond.methodLink RX1 241 yX1_isClash, Cond.instanceMethod yX1_isClash, Cond.selects RX1 yX1_isClash yX1_isClash, Cond.code yX1_isClash cX1_isClash 3 (some .boolean), Cond.methodLink RX1 232 yX1_isTwice, Cond.static yX1_isTwice, Cond.code yX1_isTwice cX1_isTwice 2 (some .boolean)]
def wsX1_may_r4 : List Cond := [Cond.methodLink RX1 235 yX1_isLock, Cond.instanceMethod yX1_isLock, Cond.selects RX1 yX1_isLock yX1_isLock, Cond.code yX1_isLock cX1_isLock 4 (some .boolean), Cond.methodLink RX1 225 yX1_isUnlocked, Cond.instanceMethod yX1_isUnlocked, Cond.selects RX1 yX1_isUnlocked yX1_isUnlocked, Cond.code yX1_isUnlocked cX1_isUnlocked 6 (some .boolean)]
def wsX1_may : List Cond := .code yX1_may cX1_may 7 (some .int) :: ((wsX1_may_r1 ++ (wsX1_may_r2 ++ (wsX1_may_r3 ++ wsX1_may_r4))) ++ wsX10)
def wsX1_isVote : List Cond := .code yX1_isVote cX1_isVote 2 (some .boolean) :: ([.fieldLink RX1 48 "FaultEvidence" "voteCount" "I"] ++ wsX10)
def wsX1_isNodeOrNone : List Cond := .code yX1_isNodeOrNone cX1_isNodeOrNone 2 (some .boolean) :: ([.methodLink RX1 70 yX1_isNode, .instanceMethod yX1_isNode, .selects RX1 yX1_isNode yX1_isNode, .initialized RX1, .code yX1_isNode cX1_isNode 2 (some .boolean), .fieldLink RX1 31 "FaultEvidence" "nodeCount" "I"] ++ wsX10)
def wsX1_isKind : List Cond := .code yX1_isKind cX1_isKind 1 (some .boolean) :: ([])
def wsX1_isPair_r1 : List Cond := [Cond.methodLink RX1 232 yX1_isTwice, Cond.static yX1_isTwice, Cond.initialized RX1, Cond.code yX1_isTwice cX1_isTwice 2 (some .boolean), Cond.methodLink RX1 235 yX1_isLock, Cond.instanceMethod yX1_isLock, Cond.selects RX1 yX1_isLock yX1_isLock, Cond.code yX1_isLock cX1_isLock 4 (some .boolean), Cond.methodLink RX1 219 yX1_isLocking, Cond.static yX1_isLocking, Cond.code yX1_isLocking cX1_isLocking 1 (some .boolean), Cond.methodLink RX1 141 yX1_stepOf, Cond.static yX1_stepOf, Cond.code yX1_stepOf cX1_stepOf 1 (some .int), Cond.methodLink RX1 144 yX1_blockOf, Cond.static yX1_blockOf, Cond.code yX1_blockOf cX1_blockOf 1 (some .int), Cond.methodLink RX1 222 yX1_voterOf, Cond.static yX1_voterOf, Cond.code yX1_voterOf cX1_voterOf 1 (some .int), Cond.methodLink RX1 138 yX1_roundOf, Cond.static yX1_roundOf, Cond.code yX1_roundOf cX1_roundOf 1 (some .int), Cond.methodLink RX1 135 yX1_heightOf]
def wsX1_isPair_r2 : List Cond := [Cond.static yX1_heightOf, Cond.code yX1_heightOf cX1_heightOf 1 (some .int), Cond.methodLink RX1 225 yX1_isUnlocked, Cond.instanceMethod yX1_isUnlocked, Cond.selects RX1 yX1_isUnlocked yX1_isUnlocked, Cond.code yX1_isUnlocked cX1_isUnlocked 6 (some .boolean), Cond.methodLink RX1 229 yX1_isBacked, Cond.instanceMethod yX1_isBacked, Cond.selects RX1 yX1_isBacked yX1_isBacked, Cond.code yX1_isBacked cX1_isBacked 4 (some .boolean), Cond.fieldLink RX1 51 "FaultEvidence" "backedBlocks" "[I", Cond.methodLink RX1 164 yX1_hasBlock, Cond.static yX1_hasBlock, Cond.code yX1_hasBlock cX1_hasBlock 2 (some .boolean)]
def wsX1_isPair : List Cond := .code yX1_isPair cX1_isPair 4 (some .boolean) :: ((wsX1_isPair_r1 ++ wsX1_isPair_r2) ++ wsX10)
def wsJx4a65c_size_8abf5 : List Cond := .code yJx4a65c_size_8abf5 cJx4a65c_size_8abf5 1 (some .int) :: ([.fieldLink RJx4a65c 48 "java/util/ArrayList" "size" "I"] ++ wsJx4a65c0)
def wsJ3_checkIndex_8e157 : List Cond := .code yJ3_checkIndex_8e157 cJ3_checkIndex_8e157 3 (some .int) :: ([])
def wsJ15_checkIndex_7cf53 : List Cond := .code yJ15_checkIndex_7cf53 cJ15_checkIndex_7cf53 2 (some .int) :: ([.methodLink RJ15 105 yJ3_checkIndex_8e157, .static yJ3_checkIndex_8e157, .initialized RJ3, .code yJ3_checkIndex_8e157 cJ3_checkIndex_8e157 3 (some .int)])
def wsJx4a65c_elementData_915e3 : List Cond := .code yJx4a65c_elementData_915e3 cJx4a65c_elementData_915e3 2 (some (.object "java/lang/Object")) :: ([.fieldLink RJx4a65c 9 "java/util/ArrayList" "elementData" "[Ljava/lang/Object;"] ++ wsJx4a65c0)
def wsJx4a65c_get_915e3 : List Cond := .code yJx4a65c_get_915e3 cJx4a65c_get_915e3 2 (some (.object "java/lang/Object")) :: ([.fieldLink RJx4a65c 48 "java/util/ArrayList" "size" "I", .methodLink RJx4a65c 118 yJ15_checkIndex_7cf53, .static yJ15_checkIndex_7cf53, .initialized RJ15, .code yJ15_checkIndex_7cf53 cJ15_checkIndex_7cf53 2 (some .int), .methodLink RJ15 105 yJ3_checkIndex_8e157, .static yJ3_checkIndex_8e157, .initialized RJ3, .code yJ3_checkIndex_8e157 cJ3_checkIndex_8e157 3 (some .int), .methodLink RJx4a65c 123 yJx4a65c_elementData_915e3, .instanceMethod yJx4a65c_elementData_915e3, .selects RJx4a65c yJx4a65c_elementData_915e3 yJx4a65c_elementData_915e3, .initialized RJx4a65c, .code yJx4a65c_elementData_915e3 cJx4a65c_elementData_915e3 2 (some (.object "java/lang/Object")), .fieldLink RJx4a65c 9 "java/util/ArrayList" "elementData" "[Ljava/lang/Object;"] ++ wsJx4a65c0)
def wsX1_wasTaken_r1 : List Cond := [Cond.fieldLink RX1 60 "FaultEvidence" "takenBreaks" "Ljava/util/ArrayList;", Cond.classLink RX1 182 "FaultEvidence$Taken", Cond.fieldLink RX1 44 "FaultEvidence" "votes" "[I", Cond.methodLink RX1 122 yJx4a65c_size_8abf5, Cond.instanceMethod yJx4a65c_size_8abf5, Cond.selects RJx4a65c yJx4a65c_size_8abf5 yJx4a65c_size_8abf5, Cond.initialized RJx4a65c, Cond.code yJx4a65c_size_8abf5 cJx4a65c_size_8abf5 1 (some .int), Cond.fieldLink RJx4a65c 48 "java/util/ArrayList" "size" "I", Cond.methodLink RX1 178 yJx4a65c_get_915e3, Cond.instanceMethod yJx4a65c_get_915e3, Cond.selects RJx4a65c yJx4a65c_get_915e3 yJx4a65c_get_915e3, Cond.code yJx4a65c_get_915e3 cJx4a65c_get_915e3 2 (some (.object "java/lang/Object")), Cond.methodLink RJx4a65c 118 yJ15_checkIndex_7cf53, Cond.static yJ15_checkIndex_7cf53, Cond.initialized RJ15, Cond.code yJ15_checkIndex_7cf53 cJ15_checkIndex_7cf53 2 (some .int), Cond.methodLink RJ15 105 yJ3_checkIndex_8e157, Cond.static yJ3_checkIndex_8e157, Cond.initialized RJ3, Cond.code yJ3_checkIndex_8e157 cJ3_checkIndex_8e157 3 (some .int), Cond.methodLink RJx4a65c 123 yJx4a65c_elementData_915e3, Cond.instanceMethod yJx4a65c_elementData_915e3, Cond.selects RJx4a65c yJx4a65c_elementData_915e3 yJx4a65c_elementData_915e3]
def wsX1_wasTaken_r2 : List Cond := [Cond.code yJx4a65c_elementData_915e3 cJx4a65c_elementData_915e3 2 (some (.object "java/lang/Object")), Cond.fieldLink RJx4a65c 9 "java/util/ArrayList" "elementData" "[Ljava/lang/Object;", Cond.methodLink RX1 222 yX1_voterOf, Cond.static yX1_voterOf, Cond.initialized RX1, Cond.code yX1_voterOf cX1_voterOf 1 (some .int)]
def wsX1_wasTaken : List Cond := .code yX1_wasTaken cX1_wasTaken 5 (some .boolean) :: ((wsX1_wasTaken_r1 ++ wsX1_wasTaken_r2) ++ wsX10 ++ wsX00 ++ wsJx4a65c0)
def wsX1_accuseRefusal_r1 : List Cond := [Cond.fieldLink RX1 44 "FaultEvidence" "votes" "[I", Cond.fieldLink RX1 35 "FaultEvidence" "currentHeight" "I", Cond.fieldLink RX1 17 "FaultEvidence" "rules" "[J", Cond.methodLink RX1 129 yX1_isVote, Cond.instanceMethod yX1_isVote, Cond.selects RX1 yX1_isVote yX1_isVote, Cond.initialized RX1, Cond.code yX1_isVote cX1_isVote 2 (some .boolean), Cond.fieldLink RX1 48 "FaultEvidence" "voteCount" "I", Cond.methodLink RX1 147 yX1_isNodeOrNone, Cond.instanceMethod yX1_isNodeOrNone, Cond.selects RX1 yX1_isNodeOrNone yX1_isNodeOrNone, Cond.code yX1_isNodeOrNone cX1_isNodeOrNone 2 (some .boolean), Cond.methodLink RX1 70 yX1_isNode, Cond.instanceMethod yX1_isNode, Cond.selects RX1 yX1_isNode yX1_isNode, Cond.code yX1_isNode cX1_isNode 2 (some .boolean), Cond.fieldLink RX1 31 "FaultEvidence" "nodeCount" "I", Cond.methodLink RX1 168 yX1_isKind, Cond.static yX1_isKind, Cond.code yX1_isKind cX1_isKind 1 (some .boolean), Cond.methodLink RX1 238 yX1_isBare, Cond.instanceMethod yX1_isBare, Cond.selects RX1 yX1_isBare yX1_isBare]
def wsX1_accuseRefusal_r2 : List Cond := [Cond.code yX1_isBare cX1_isBare 2 (some .boolean), Cond.methodLink RX1 219 yX1_isLocking, Cond.static yX1_isLocking, Cond.code yX1_isLocking cX1_isLocking 1 (some .boolean), Cond.methodLink RX1 141 yX1_stepOf, Cond.static yX1_stepOf, Cond.code yX1_stepOf cX1_stepOf 1 (some .int), Cond.methodLink RX1 144 yX1_blockOf, Cond.static yX1_blockOf, Cond.code yX1_blockOf cX1_blockOf 1 (some .int), Cond.methodLink RX1 135 yX1_heightOf, Cond.static yX1_heightOf, Cond.code yX1_heightOf cX1_heightOf 1 (some .int), Cond.methodLink RX1 138 yX1_roundOf, Cond.static yX1_roundOf, Cond.code yX1_roundOf cX1_roundOf 1 (some .int), Cond.methodLink RX1 229 yX1_isBacked, Cond.instanceMethod yX1_isBacked, Cond.selects RX1 yX1_isBacked yX1_isBacked, Cond.code yX1_isBacked cX1_isBacked 4 (some .boolean), Cond.fieldLink RX1 51 "FaultEvidence" "backedBlocks" "[I", Cond.methodLink RX1 164 yX1_hasBlock, Cond.static yX1_hasBlock, Cond.code yX1_hasBlock cX1_hasBlock 2 (some .boolean)]
def wsX1_accuseRefusal_r3 : List Cond := [Cond.methodLink RX1 247 yX1_isPair, Cond.instanceMethod yX1_isPair, Cond.selects RX1 yX1_isPair yX1_isPair, Cond.code yX1_isPair cX1_isPair 4 (some .boolean), Cond.methodLink RX1 232 yX1_isTwice, Cond.static yX1_isTwice, Cond.code yX1_isTwice cX1_isTwice 2 (some .boolean), Cond.methodLink RX1 235 yX1_isLock, Cond.instanceMethod yX1_isLock, Cond.selects RX1 yX1_isLock yX1_isLock, Cond.code yX1_isLock cX1_isLock 4 (some .boolean), Cond.methodLink RX1 222 yX1_voterOf, Cond.static yX1_voterOf, Cond.code yX1_voterOf cX1_voterOf 1 (some .int), Cond.methodLink RX1 225 yX1_isUnlocked, Cond.instanceMethod yX1_isUnlocked, Cond.selects RX1 yX1_isUnlocked yX1_isUnlocked, Cond.code yX1_isUnlocked cX1_isUnlocked 6 (some .boolean), Cond.methodLink RX1 209 yX1_isOpen, Cond.instanceMethod yX1_isOpen, Cond.selects RX1 yX1_isOpen yX1_isOpen, Cond.code yX1_isOpen cX1_isOpen 2 (some .boolean), Cond.methodLink RX1 150 yX1_hasBegun, Cond.instanceMethod yX1_hasBegun]
def wsX1_accuseRefusal_r4 : List Cond := [Cond.selects RX1 yX1_hasBegun yX1_hasBegun, Cond.code yX1_hasBegun cX1_hasBegun 2 (some .boolean), Cond.methodLink RX1 250 yX1_wasTaken, Cond.instanceMethod yX1_wasTaken, Cond.selects RX1 yX1_wasTaken yX1_wasTaken, Cond.code yX1_wasTaken cX1_wasTaken 5 (some .boolean), Cond.fieldLink RX1 60 "FaultEvidence" "takenBreaks" "Ljava/util/ArrayList;", Cond.classLink RX1 182 "FaultEvidence$Taken", Cond.methodLink RX1 122 yJx4a65c_size_8abf5, Cond.instanceMethod yJx4a65c_size_8abf5, Cond.selects RJx4a65c yJx4a65c_size_8abf5 yJx4a65c_size_8abf5, Cond.initialized RJx4a65c, Cond.code yJx4a65c_size_8abf5 cJx4a65c_size_8abf5 1 (some .int), Cond.fieldLink RJx4a65c 48 "java/util/ArrayList" "size" "I", Cond.methodLink RX1 178 yJx4a65c_get_915e3, Cond.instanceMethod yJx4a65c_get_915e3, Cond.selects RJx4a65c yJx4a65c_get_915e3 yJx4a65c_get_915e3, Cond.code yJx4a65c_get_915e3 cJx4a65c_get_915e3 2 (some (.object "java/lang/Object")), Cond.methodLink RJx4a65c 118 yJ15_checkIndex_7cf53, Cond.static yJ15_checkIndex_7cf53, Cond.initialized RJ15, Cond.code yJ15_checkIndex_7cf53 cJ15_checkIndex_7cf53 2 (some .int), Cond.methodLink RJ15 105 yJ3_checkIndex_8e157, Cond.static yJ3_checkIndex_8e157]
def wsX1_accuseRefusal_r5 : List Cond := [Cond.initialized RJ3, Cond.code yJ3_checkIndex_8e157 cJ3_checkIndex_8e157 3 (some .int), Cond.methodLink RJx4a65c 123 yJx4a65c_elementData_915e3, Cond.instanceMethod yJx4a65c_elementData_915e3, Cond.selects RJx4a65c yJx4a65c_elementData_915e3 yJx4a65c_elementData_915e3, Cond.code yJx4a65c_elementData_915e3 cJx4a65c_elementData_915e3 2 (some (.object "java/lang/Object")), Cond.fieldLink RJx4a65c 9 "java/util/ArrayList" "elementData" "[Ljava/lang/Object;"]
def wsX1_accuseRefusal : List Cond := .code yX1_accuseRefusal cX1_accuseRefusal 6 (some .int) :: ((wsX1_accuseRefusal_r1 ++ (wsX1_accuseRefusal_r2 ++ (wsX1_accuseRefusal_r3 ++ (wsX1_accuseRefusal_r4 ++ wsX1_accuseRefusal_r5)))) ++ wsX10 ++ wsX00 ++ wsJx4a65c0)
def wsJ8_hugeLength_7cf53 : List Cond := .code yJ8_hugeLength_7cf53 cJ8_hugeLength_7cf53 3 (some .int) :: ([.constant RJ8 200 (2147483639)])
def wsJ8_newLength_cabcc : List Cond := .code yJ8_newLength_cabcc cJ8_newLength_cabcc 4 (some .int) :: ([.methodLink RJ8 194 Lib.Math.max.name, .static Lib.Math.max.name, .initialized "java/lang/Math", .code Lib.Math.max.name Lib.Math.max.code 2 (some .int), .constant RJ8 200 (2147483639), .methodLink RJ8 201 yJ8_hugeLength_7cf53, .static yJ8_hugeLength_7cf53, .initialized RJ8, .code yJ8_hugeLength_7cf53 cJ8_hugeLength_7cf53 3 (some .int)])
def wsJ7_copyOf_6403c : List Cond := .code yJ7_copyOf_6403c cJ7_copyOf_6403c 4 (some (.array (.object "java/lang/Object"))) :: ([.classLink RJ7 110 "[Ljava/lang/Object;", .classLink RJ7 2 "java/lang/Object", .methodLink RJ7 304 Lib.Math.min.name, .static Lib.Math.min.name, .initialized "java/lang/Math", .code Lib.Math.min.name Lib.Math.min.code 2 (some .int), .methodLink RJ7 150 arraycopyName, .native arraycopyName, .static arraycopyName, .initialized "java/lang/System"])
def wsJ7_copyOf_1904c : List Cond := .code yJ7_copyOf_1904c cJ7_copyOf_1904c 2 (some (.array (.object "java/lang/Object"))) :: ([.methodLink RJ7 86 ⟨"java/lang/Object", "getClass", "()Ljava/lang/Class;"⟩, .selects "[Ljava/lang/Object;" ⟨"java/lang/Object", "getClass", "()Ljava/lang/Class;"⟩ ⟨"java/lang/Object", "getClass", "()Ljava/lang/Class;"⟩, .instanceMethod ⟨"java/lang/Object", "getClass", "()Ljava/lang/Class;"⟩, .native ⟨"java/lang/Object", "getClass", "()Ljava/lang/Class;"⟩, .methodLink RJ7 300 yJ7_copyOf_6403c, .static yJ7_copyOf_6403c, .initialized RJ7, .code yJ7_copyOf_6403c cJ7_copyOf_6403c 4 (some (.array (.object "java/lang/Object"))), .classLink RJ7 110 "[Ljava/lang/Object;", .classLink RJ7 2 "java/lang/Object", .methodLink RJ7 304 Lib.Math.min.name, .static Lib.Math.min.name, .initialized "java/lang/Math", .code Lib.Math.min.name Lib.Math.min.code 2 (some .int), .methodLink RJ7 150 arraycopyName, .native arraycopyName, .static arraycopyName, .initialized "java/lang/System"])
def wsJx4a65c_grow_92f84_r1 : List Cond := [Cond.fieldLink RJx4a65c 9 "java/util/ArrayList" "elementData" "[Ljava/lang/Object;", Cond.fieldLink RJx4a65c 39 "java/util/ArrayList" "DEFAULTCAPACITY_EMPTY_ELEMENTDATA" "[Ljava/lang/Object;", Cond.methodLink RJx4a65c 79 Lib.Math.max.name, Cond.static Lib.Math.max.name, Cond.initialized "java/lang/Math", Cond.code Lib.Math.max.name Lib.Math.max.code 2 (some .int), Cond.classLink RJx4a65c 7 "java/lang/Object", Cond.methodLink RJx4a65c 73 yJ8_newLength_cabcc, Cond.static yJ8_newLength_cabcc, Cond.initialized RJ8, Cond.code yJ8_newLength_cabcc cJ8_newLength_cabcc 4 (some .int), Cond.methodLink RJ8 194 Lib.Math.max.name, Cond.constant RJ8 200 (2147483639), Cond.methodLink RJ8 201 yJ8_hugeLength_7cf53, Cond.static yJ8_hugeLength_7cf53, Cond.code yJ8_hugeLength_7cf53 cJ8_hugeLength_7cf53 3 (some .int), Cond.methodLink RJx4a65c 66 yJ7_copyOf_1904c, Cond.static yJ7_copyOf_1904c, Cond.initialized RJ7, Cond.code yJ7_copyOf_1904c cJ7_copyOf_1904c 2 (some (.array (.object "java/lang/Object"))), Cond.methodLink RJ7 86 ⟨"java/lang/Object", "getClass", "()Ljava/lang/Class;"⟩, Cond.selects "[Ljava/lang/Object;" ⟨"java/lang/Object", "getClass", "()Ljava/lang/Class;"⟩ ⟨"java/lang/Object", "getClass", "()Ljava/lang/Class;"⟩, Cond.instanceMethod ⟨"java/lang/Object", "getClass", "()Ljava/lang/Class;"⟩, Cond.native ⟨"java/lang/Object", "getClass", "()Ljava/lang/Class;"⟩]
def wsJx4a65c_grow_92f84_r2 : List Cond := [Cond.methodLink RJ7 300 yJ7_copyOf_6403c, Cond.static yJ7_copyOf_6403c, Cond.code yJ7_copyOf_6403c cJ7_copyOf_6403c 4 (some (.array (.object "java/lang/Object"))), Cond.classLink RJ7 110 "[Ljava/lang/Object;", Cond.classLink RJ7 2 "java/lang/Object", Cond.methodLink RJ7 304 Lib.Math.min.name, Cond.static Lib.Math.min.name, Cond.code Lib.Math.min.name Lib.Math.min.code 2 (some .int), Cond.methodLink RJ7 150 arraycopyName, Cond.native arraycopyName, Cond.static arraycopyName, Cond.initialized "java/lang/System"]
def wsJx4a65c_grow_92f84 : List Cond := .code yJx4a65c_grow_92f84 cJx4a65c_grow_92f84 4 (some (.array (.object "java/lang/Object"))) :: ((wsJx4a65c_grow_92f84_r1 ++ wsJx4a65c_grow_92f84_r2) ++ wsJx4a65c0)
def wsJx4a65c_grow_d5877_r1 : List Cond := [Cond.fieldLink RJx4a65c 48 "java/util/ArrayList" "size" "I", Cond.methodLink RJx4a65c 69 yJx4a65c_grow_92f84, Cond.instanceMethod yJx4a65c_grow_92f84, Cond.selects RJx4a65c yJx4a65c_grow_92f84 yJx4a65c_grow_92f84, Cond.initialized RJx4a65c, Cond.code yJx4a65c_grow_92f84 cJx4a65c_grow_92f84 4 (some (.array (.object "java/lang/Object"))), Cond.fieldLink RJx4a65c 9 "java/util/ArrayList" "elementData" "[Ljava/lang/Object;", Cond.fieldLink RJx4a65c 39 "java/util/ArrayList" "DEFAULTCAPACITY_EMPTY_ELEMENTDATA" "[Ljava/lang/Object;", Cond.methodLink RJx4a65c 79 Lib.Math.max.name, Cond.static Lib.Math.max.name, Cond.initialized "java/lang/Math", Cond.code Lib.Math.max.name Lib.Math.max.code 2 (some .int), Cond.classLink RJx4a65c 7 "java/lang/Object", Cond.methodLink RJx4a65c 73 yJ8_newLength_cabcc, Cond.static yJ8_newLength_cabcc, Cond.initialized RJ8, Cond.code yJ8_newLength_cabcc cJ8_newLength_cabcc 4 (some .int), Cond.methodLink RJ8 194 Lib.Math.max.name, Cond.constant RJ8 200 (2147483639), Cond.methodLink RJ8 201 yJ8_hugeLength_7cf53, Cond.static yJ8_hugeLength_7cf53, Cond.code yJ8_hugeLength_7cf53 cJ8_hugeLength_7cf53 3 (some .int), Cond.methodLink RJx4a65c 66 yJ7_copyOf_1904c, Cond.static yJ7_copyOf_1904c]
def wsJx4a65c_grow_d5877_r2 : List Cond := [Cond.initialized RJ7, Cond.code yJ7_copyOf_1904c cJ7_copyOf_1904c 2 (some (.array (.object "java/lang/Object"))), Cond.methodLink RJ7 86 ⟨"java/lang/Object", "getClass", "()Ljava/lang/Class;"⟩, Cond.selects "[Ljava/lang/Object;" ⟨"java/lang/Object", "getClass", "()Ljava/lang/Class;"⟩ ⟨"java/lang/Object", "getClass", "()Ljava/lang/Class;"⟩, Cond.instanceMethod ⟨"java/lang/Object", "getClass", "()Ljava/lang/Class;"⟩, Cond.native ⟨"java/lang/Object", "getClass", "()Ljava/lang/Class;"⟩, Cond.methodLink RJ7 300 yJ7_copyOf_6403c, Cond.static yJ7_copyOf_6403c, Cond.code yJ7_copyOf_6403c cJ7_copyOf_6403c 4 (some (.array (.object "java/lang/Object"))), Cond.classLink RJ7 110 "[Ljava/lang/Object;", Cond.classLink RJ7 2 "java/lang/Object", Cond.methodLink RJ7 304 Lib.Math.min.name, Cond.static Lib.Math.min.name, Cond.code Lib.Math.min.name Lib.Math.min.code 2 (some .int), Cond.methodLink RJ7 150 arraycopyName, Cond.native arraycopyName, Cond.static arraycopyName, Cond.initialized "java/lang/System"]
def wsJx4a65c_grow_d5877 : List Cond := .code yJx4a65c_grow_d5877 cJx4a65c_grow_d5877 1 (some (.array (.object "java/lang/Object"))) :: ((wsJx4a65c_grow_d5877_r1 ++ wsJx4a65c_grow_d5877_r2) ++ wsJx4a65c0)
def wsJx4a65c_add_72be8_r1 : List Cond := [Cond.fieldLink RJx4a65c 48 "java/util/ArrayList" "size" "I", Cond.methodLink RJx4a65c 129 yJx4a65c_grow_d5877, Cond.instanceMethod yJx4a65c_grow_d5877, Cond.selects RJx4a65c yJx4a65c_grow_d5877 yJx4a65c_grow_d5877, Cond.initialized RJx4a65c, Cond.code yJx4a65c_grow_d5877 cJx4a65c_grow_d5877 1 (some (.array (.object "java/lang/Object"))), Cond.methodLink RJx4a65c 69 yJx4a65c_grow_92f84, Cond.instanceMethod yJx4a65c_grow_92f84, Cond.selects RJx4a65c yJx4a65c_grow_92f84 yJx4a65c_grow_92f84, Cond.code yJx4a65c_grow_92f84 cJx4a65c_grow_92f84 4 (some (.array (.object "java/lang/Object"))), Cond.fieldLink RJx4a65c 9 "java/util/ArrayList" "elementData" "[Ljava/lang/Object;", Cond.fieldLink RJx4a65c 39 "java/util/ArrayList" "DEFAULTCAPACITY_EMPTY_ELEMENTDATA" "[Ljava/lang/Object;", Cond.methodLink RJx4a65c 79 Lib.Math.max.name, Cond.static Lib.Math.max.name, Cond.initialized "java/lang/Math", Cond.code Lib.Math.max.name Lib.Math.max.code 2 (some .int), Cond.classLink RJx4a65c 7 "java/lang/Object", Cond.methodLink RJx4a65c 73 yJ8_newLength_cabcc, Cond.static yJ8_newLength_cabcc, Cond.initialized RJ8, Cond.code yJ8_newLength_cabcc cJ8_newLength_cabcc 4 (some .int), Cond.methodLink RJ8 194 Lib.Math.max.name, Cond.constant RJ8 200 (2147483639), Cond.methodLink RJ8 201 yJ8_hugeLength_7cf53]
def wsJx4a65c_add_72be8_r2 : List Cond := [Cond.static yJ8_hugeLength_7cf53, Cond.code yJ8_hugeLength_7cf53 cJ8_hugeLength_7cf53 3 (some .int), Cond.methodLink RJx4a65c 66 yJ7_copyOf_1904c, Cond.static yJ7_copyOf_1904c, Cond.initialized RJ7, Cond.code yJ7_copyOf_1904c cJ7_copyOf_1904c 2 (some (.array (.object "java/lang/Object"))), Cond.methodLink RJ7 86 ⟨"java/lang/Object", "getClass", "()Ljava/lang/Class;"⟩, Cond.selects "[Ljava/lang/Object;" ⟨"java/lang/Object", "getClass", "()Ljava/lang/Class;"⟩ ⟨"java/lang/Object", "getClass", "()Ljava/lang/Class;"⟩, Cond.instanceMethod ⟨"java/lang/Object", "getClass", "()Ljava/lang/Class;"⟩, Cond.native ⟨"java/lang/Object", "getClass", "()Ljava/lang/Class;"⟩, Cond.methodLink RJ7 300 yJ7_copyOf_6403c, Cond.static yJ7_copyOf_6403c, Cond.code yJ7_copyOf_6403c cJ7_copyOf_6403c 4 (some (.array (.object "java/lang/Object"))), Cond.classLink RJ7 110 "[Ljava/lang/Object;", Cond.classLink RJ7 2 "java/lang/Object", Cond.methodLink RJ7 304 Lib.Math.min.name, Cond.static Lib.Math.min.name, Cond.code Lib.Math.min.name Lib.Math.min.code 2 (some .int), Cond.methodLink RJ7 150 arraycopyName, Cond.native arraycopyName, Cond.static arraycopyName, Cond.initialized "java/lang/System"]
def wsJx4a65c_add_72be8 : List Cond := .code yJx4a65c_add_72be8 cJx4a65c_add_72be8 4 none :: ((wsJx4a65c_add_72be8_r1 ++ wsJx4a65c_add_72be8_r2) ++ wsJx4a65c0)
def wsJx4a65c_add_9ea2d_r1 : List Cond := [Cond.fieldLink RJx4a65c 63 "java/util/ArrayList" "modCount" "I", Cond.sameField "java/util/ArrayList" "java/util/AbstractList" "modCount" "I", Cond.fieldLink RJx4a65c 9 "java/util/ArrayList" "elementData" "[Ljava/lang/Object;", Cond.fieldLink RJx4a65c 48 "java/util/ArrayList" "size" "I", Cond.methodLink RJx4a65c 131 yJx4a65c_add_72be8, Cond.instanceMethod yJx4a65c_add_72be8, Cond.selects RJx4a65c yJx4a65c_add_72be8 yJx4a65c_add_72be8, Cond.initialized RJx4a65c, Cond.code yJx4a65c_add_72be8 cJx4a65c_add_72be8 4 none, Cond.methodLink RJx4a65c 129 yJx4a65c_grow_d5877, Cond.instanceMethod yJx4a65c_grow_d5877, Cond.selects RJx4a65c yJx4a65c_grow_d5877 yJx4a65c_grow_d5877, Cond.code yJx4a65c_grow_d5877 cJx4a65c_grow_d5877 1 (some (.array (.object "java/lang/Object"))), Cond.methodLink RJx4a65c 69 yJx4a65c_grow_92f84, Cond.instanceMethod yJx4a65c_grow_92f84, Cond.selects RJx4a65c yJx4a65c_grow_92f84 yJx4a65c_grow_92f84, Cond.code yJx4a65c_grow_92f84 cJx4a65c_grow_92f84 4 (some (.array (.object "java/lang/Object"))), Cond.fieldLink RJx4a65c 39 "java/util/ArrayList" "DEFAULTCAPACITY_EMPTY_ELEMENTDATA" "[Ljava/lang/Object;", Cond.methodLink RJx4a65c 79 Lib.Math.max.name, Cond.static Lib.Math.max.name, Cond.initialized "java/lang/Math", Cond.code Lib.Math.max.name Lib.Math.max.code 2 (some .int), Cond.classLink RJx4a65c 7 "java/lang/Object", Cond.methodLink RJx4a65c 73 yJ8_newLength_cabcc]
def wsJx4a65c_add_9ea2d_r2 : List Cond := [Cond.static yJ8_newLength_cabcc, Cond.initialized RJ8, Cond.code yJ8_newLength_cabcc cJ8_newLength_cabcc 4 (some .int), Cond.methodLink RJ8 194 Lib.Math.max.name, Cond.constant RJ8 200 (2147483639), Cond.methodLink RJ8 201 yJ8_hugeLength_7cf53, Cond.static yJ8_hugeLength_7cf53, Cond.code yJ8_hugeLength_7cf53 cJ8_hugeLength_7cf53 3 (some .int), Cond.methodLink RJx4a65c 66 yJ7_copyOf_1904c, Cond.static yJ7_copyOf_1904c, Cond.initialized RJ7, Cond.code yJ7_copyOf_1904c cJ7_copyOf_1904c 2 (some (.array (.object "java/lang/Object"))), Cond.methodLink RJ7 86 ⟨"java/lang/Object", "getClass", "()Ljava/lang/Class;"⟩, Cond.selects "[Ljava/lang/Object;" ⟨"java/lang/Object", "getClass", "()Ljava/lang/Class;"⟩ ⟨"java/lang/Object", "getClass", "()Ljava/lang/Class;"⟩, Cond.instanceMethod ⟨"java/lang/Object", "getClass", "()Ljava/lang/Class;"⟩, Cond.native ⟨"java/lang/Object", "getClass", "()Ljava/lang/Class;"⟩, Cond.methodLink RJ7 300 yJ7_copyOf_6403c, Cond.static yJ7_copyOf_6403c, Cond.code yJ7_copyOf_6403c cJ7_copyOf_6403c 4 (some (.array (.object "java/lang/Object"))), Cond.classLink RJ7 110 "[Ljava/lang/Object;", Cond.classLink RJ7 2 "java/lang/Object", Cond.methodLink RJ7 304 Lib.Math.min.name, Cond.static Lib.Math.min.name, Cond.code Lib.Math.min.name Lib.Math.min.code 2 (some .int)]
def wsJx4a65c_add_9ea2d_r3 : List Cond := [Cond.methodLink RJ7 150 arraycopyName, Cond.native arraycopyName, Cond.static arraycopyName, Cond.initialized "java/lang/System"]
def wsJx4a65c_add_9ea2d : List Cond := .code yJx4a65c_add_9ea2d cJx4a65c_add_9ea2d 2 (some .boolean) :: ((wsJx4a65c_add_9ea2d_r1 ++ (wsJx4a65c_add_9ea2d_r2 ++ wsJx4a65c_add_9ea2d_r3)) ++ wsJx4a65c0)
def wsX1_take_r1 : List Cond := [Cond.fieldLink RX1 44 "FaultEvidence" "votes" "[I", Cond.fieldLink RX1 21 "FaultEvidence" "stakes" "[J", Cond.fieldLink RX1 17 "FaultEvidence" "rules" "[J", Cond.constantLong RX1 253 (1000), Cond.constantLong RX1 15 (10), Cond.fieldLink RX1 64 "FaultEvidence" "burnt" "J", Cond.fieldLink RX1 24 "FaultEvidence" "purses" "[J", Cond.fieldLink RX1 27 "FaultEvidence" "out" "[Z", Cond.fieldLink RX1 60 "FaultEvidence" "takenBreaks" "Ljava/util/ArrayList;", Cond.classLink RX1 182 RX0, Cond.instantiable RX0 7, Cond.initialized RX0, Cond.fieldLink RX1 35 "FaultEvidence" "currentHeight" "I", Cond.methodLink RX1 132 yX1_nodeOf, Cond.static yX1_nodeOf, Cond.initialized RX1, Cond.code yX1_nodeOf cX1_nodeOf 1 (some .int), Cond.instanceMethod yX0_init, Cond.code yX0_init cX0_init 10 none, Cond.methodLink RX0 1 objectInit, Cond.instanceMethod objectInit, Cond.code objectInit ⟨#[0xb1]⟩ 1 none, Cond.fieldLink RX0 7 "FaultEvidence$Taken" "kind" "I", Cond.fieldLink RX0 13 "FaultEvidence$Taken" "first" "I"]
def wsX1_take_r2 : List Cond := [Cond.fieldLink RX0 16 "FaultEvidence$Taken" "second" "I", Cond.fieldLink RX0 19 "FaultEvidence$Taken" "accuser" "I", Cond.fieldLink RX0 22 "FaultEvidence$Taken" "heightThen" "I", Cond.fieldLink RX0 25 "FaultEvidence$Taken" "cost" "J", Cond.fieldLink RX0 29 "FaultEvidence$Taken" "reward" "J", Cond.methodLink RX1 258 yJx4a65c_add_9ea2d, Cond.instanceMethod yJx4a65c_add_9ea2d, Cond.selects RJx4a65c yJx4a65c_add_9ea2d yJx4a65c_add_9ea2d, Cond.initialized RJx4a65c, Cond.code yJx4a65c_add_9ea2d cJx4a65c_add_9ea2d 2 (some .boolean), Cond.fieldLink RJx4a65c 63 "java/util/ArrayList" "modCount" "I", Cond.sameField "java/util/ArrayList" "java/util/AbstractList" "modCount" "I", Cond.fieldLink RJx4a65c 9 "java/util/ArrayList" "elementData" "[Ljava/lang/Object;", Cond.fieldLink RJx4a65c 48 "java/util/ArrayList" "size" "I", Cond.methodLink RJx4a65c 131 yJx4a65c_add_72be8, Cond.instanceMethod yJx4a65c_add_72be8, Cond.selects RJx4a65c yJx4a65c_add_72be8 yJx4a65c_add_72be8, Cond.code yJx4a65c_add_72be8 cJx4a65c_add_72be8 4 none, Cond.methodLink RJx4a65c 129 yJx4a65c_grow_d5877, Cond.instanceMethod yJx4a65c_grow_d5877, Cond.selects RJx4a65c yJx4a65c_grow_d5877 yJx4a65c_grow_d5877, Cond.code yJx4a65c_grow_d5877 cJx4a65c_grow_d5877 1 (some (.array (.object "java/lang/Object"))), Cond.methodLink RJx4a65c 69 yJx4a65c_grow_92f84, Cond.instanceMethod yJx4a65c_grow_92f84]
def wsX1_take_r3 : List Cond := [Cond.selects RJx4a65c yJx4a65c_grow_92f84 yJx4a65c_grow_92f84, Cond.code yJx4a65c_grow_92f84 cJx4a65c_grow_92f84 4 (some (.array (.object "java/lang/Object"))), Cond.fieldLink RJx4a65c 39 "java/util/ArrayList" "DEFAULTCAPACITY_EMPTY_ELEMENTDATA" "[Ljava/lang/Object;", Cond.methodLink RJx4a65c 79 Lib.Math.max.name, Cond.static Lib.Math.max.name, Cond.initialized "java/lang/Math", Cond.code Lib.Math.max.name Lib.Math.max.code 2 (some .int), Cond.classLink RJx4a65c 7 "java/lang/Object", Cond.methodLink RJx4a65c 73 yJ8_newLength_cabcc, Cond.static yJ8_newLength_cabcc, Cond.initialized RJ8, Cond.code yJ8_newLength_cabcc cJ8_newLength_cabcc 4 (some .int), Cond.methodLink RJ8 194 Lib.Math.max.name, Cond.constant RJ8 200 (2147483639), Cond.methodLink RJ8 201 yJ8_hugeLength_7cf53, Cond.static yJ8_hugeLength_7cf53, Cond.code yJ8_hugeLength_7cf53 cJ8_hugeLength_7cf53 3 (some .int), Cond.methodLink RJx4a65c 66 yJ7_copyOf_1904c, Cond.static yJ7_copyOf_1904c, Cond.initialized RJ7, Cond.code yJ7_copyOf_1904c cJ7_copyOf_1904c 2 (some (.array (.object "java/lang/Object"))), Cond.methodLink RJ7 86 ⟨"java/lang/Object", "getClass", "()Ljava/lang/Class;"⟩, Cond.selects "[Ljava/lang/Object;" ⟨"java/lang/Object", "getClass", "()Ljava/lang/Class;"⟩ ⟨"java/lang/Object", "getClass", "()Ljava/lang/Class;"⟩, Cond.instanceMethod ⟨"java/lang/Object", "getClass", "()Ljava/lang/Class;"⟩]
def wsX1_take_r4 : List Cond := [Cond.native ⟨"java/lang/Object", "getClass", "()Ljava/lang/Class;"⟩, Cond.methodLink RJ7 300 yJ7_copyOf_6403c, Cond.static yJ7_copyOf_6403c, Cond.code yJ7_copyOf_6403c cJ7_copyOf_6403c 4 (some (.array (.object "java/lang/Object"))), Cond.classLink RJ7 110 "[Ljava/lang/Object;", Cond.classLink RJ7 2 "java/lang/Object", Cond.methodLink RJ7 304 Lib.Math.min.name, Cond.static Lib.Math.min.name, Cond.code Lib.Math.min.name Lib.Math.min.code 2 (some .int), Cond.methodLink RJ7 150 arraycopyName, Cond.native arraycopyName, Cond.static arraycopyName, Cond.initialized "java/lang/System"]
def wsX1_take : List Cond := .code yX1_take cX1_take 10 (some .long) :: ((wsX1_take_r1 ++ (wsX1_take_r2 ++ (wsX1_take_r3 ++ wsX1_take_r4))) ++ wsX10 ++ wsX00 ++ wsJx4a65c0)
def wsX1_accuse_r1 : List Cond := [Cond.methodLink RX1 109 Lib.Math.min.name, Cond.static Lib.Math.min.name, Cond.initialized "java/lang/Math", Cond.code Lib.Math.min.name Lib.Math.min.code 2 (some .int), Cond.methodLink RX1 115 Lib.Math.max.name, Cond.static Lib.Math.max.name, Cond.code Lib.Math.max.name Lib.Math.max.code 2 (some .int), Cond.methodLink RX1 105 yX1_accuseRefusal, Cond.instanceMethod yX1_accuseRefusal, Cond.selects RX1 yX1_accuseRefusal yX1_accuseRefusal, Cond.initialized RX1, Cond.code yX1_accuseRefusal cX1_accuseRefusal 6 (some .int), Cond.fieldLink RX1 44 "FaultEvidence" "votes" "[I", Cond.fieldLink RX1 35 "FaultEvidence" "currentHeight" "I", Cond.fieldLink RX1 17 "FaultEvidence" "rules" "[J", Cond.methodLink RX1 129 yX1_isVote, Cond.instanceMethod yX1_isVote, Cond.selects RX1 yX1_isVote yX1_isVote, Cond.code yX1_isVote cX1_isVote 2 (some .boolean), Cond.fieldLink RX1 48 "FaultEvidence" "voteCount" "I", Cond.methodLink RX1 147 yX1_isNodeOrNone, Cond.instanceMethod yX1_isNodeOrNone, Cond.selects RX1 yX1_isNodeOrNone yX1_isNodeOrNone, Cond.code yX1_isNodeOrNone cX1_isNodeOrNone 2 (some .boolean)]
def wsX1_accuse_r2 : List Cond := [Cond.methodLink RX1 70 yX1_isNode, Cond.instanceMethod yX1_isNode, Cond.selects RX1 yX1_isNode yX1_isNode, Cond.code yX1_isNode cX1_isNode 2 (some .boolean), Cond.fieldLink RX1 31 "FaultEvidence" "nodeCount" "I", Cond.methodLink RX1 168 yX1_isKind, Cond.static yX1_isKind, Cond.code yX1_isKind cX1_isKind 1 (some .boolean), Cond.methodLink RX1 238 yX1_isBare, Cond.instanceMethod yX1_isBare, Cond.selects RX1 yX1_isBare yX1_isBare, Cond.code yX1_isBare cX1_isBare 2 (some .boolean), Cond.methodLink RX1 219 yX1_isLocking, Cond.static yX1_isLocking, Cond.code yX1_isLocking cX1_isLocking 1 (some .boolean), Cond.methodLink RX1 141 yX1_stepOf, Cond.static yX1_stepOf, Cond.code yX1_stepOf cX1_stepOf 1 (some .int), Cond.methodLink RX1 144 yX1_blockOf, Cond.static yX1_blockOf, Cond.code yX1_blockOf cX1_blockOf 1 (some .int), Cond.methodLink RX1 135 yX1_heightOf, Cond.static yX1_heightOf, Cond.code yX1_heightOf cX1_heightOf 1 (some .int)]
def wsX1_accuse_r3 : List Cond := [Cond.methodLink RX1 138 yX1_roundOf, Cond.static yX1_roundOf, Cond.code yX1_roundOf cX1_roundOf 1 (some .int), Cond.methodLink RX1 229 yX1_isBacked, Cond.instanceMethod yX1_isBacked, Cond.selects RX1 yX1_isBacked yX1_isBacked, Cond.code yX1_isBacked cX1_isBacked 4 (some .boolean), Cond.fieldLink RX1 51 "FaultEvidence" "backedBlocks" "[I", Cond.methodLink RX1 164 yX1_hasBlock, Cond.static yX1_hasBlock, Cond.code yX1_hasBlock cX1_hasBlock 2 (some .boolean), Cond.methodLink RX1 247 yX1_isPair, Cond.instanceMethod yX1_isPair, Cond.selects RX1 yX1_isPair yX1_isPair, Cond.code yX1_isPair cX1_isPair 4 (some .boolean), Cond.methodLink RX1 232 yX1_isTwice, Cond.static yX1_isTwice, Cond.code yX1_isTwice cX1_isTwice 2 (some .boolean), Cond.methodLink RX1 235 yX1_isLock, Cond.instanceMethod yX1_isLock, Cond.selects RX1 yX1_isLock yX1_isLock, Cond.code yX1_isLock cX1_isLock 4 (some .boolean), Cond.methodLink RX1 222 yX1_voterOf, Cond.static yX1_voterOf]
def wsX1_accuse_r4 : List Cond := [Cond.code yX1_voterOf cX1_voterOf 1 (some .int), Cond.methodLink RX1 225 yX1_isUnlocked, Cond.instanceMethod yX1_isUnlocked, Cond.selects RX1 yX1_isUnlocked yX1_isUnlocked, Cond.code yX1_isUnlocked cX1_isUnlocked 6 (some .boolean), Cond.methodLink RX1 209 yX1_isOpen, Cond.instanceMethod yX1_isOpen, Cond.selects RX1 yX1_isOpen yX1_isOpen, Cond.code yX1_isOpen cX1_isOpen 2 (some .boolean), Cond.methodLink RX1 150 yX1_hasBegun, Cond.instanceMethod yX1_hasBegun, Cond.selects RX1 yX1_hasBegun yX1_hasBegun, Cond.code yX1_hasBegun cX1_hasBegun 2 (some .boolean), Cond.methodLink RX1 250 yX1_wasTaken, Cond.instanceMethod yX1_wasTaken, Cond.selects RX1 yX1_wasTaken yX1_wasTaken, Cond.code yX1_wasTaken cX1_wasTaken 5 (some .boolean), Cond.fieldLink RX1 60 "FaultEvidence" "takenBreaks" "Ljava/util/ArrayList;", Cond.classLink RX1 182 "FaultEvidence$Taken", Cond.methodLink RX1 122 yJx4a65c_size_8abf5, Cond.instanceMethod yJx4a65c_size_8abf5, Cond.selects RJx4a65c yJx4a65c_size_8abf5 yJx4a65c_size_8abf5, Cond.initialized RJx4a65c, Cond.code yJx4a65c_size_8abf5 cJx4a65c_size_8abf5 1 (some .int)]
def wsX1_accuse_r5 : List Cond := [Cond.fieldLink RJx4a65c 48 "java/util/ArrayList" "size" "I", Cond.methodLink RX1 178 yJx4a65c_get_915e3, Cond.instanceMethod yJx4a65c_get_915e3, Cond.selects RJx4a65c yJx4a65c_get_915e3 yJx4a65c_get_915e3, Cond.code yJx4a65c_get_915e3 cJx4a65c_get_915e3 2 (some (.object "java/lang/Object")), Cond.methodLink RJx4a65c 118 yJ15_checkIndex_7cf53, Cond.static yJ15_checkIndex_7cf53, Cond.initialized RJ15, Cond.code yJ15_checkIndex_7cf53 cJ15_checkIndex_7cf53 2 (some .int), Cond.methodLink RJ15 105 yJ3_checkIndex_8e157, Cond.static yJ3_checkIndex_8e157, Cond.initialized RJ3, Cond.code yJ3_checkIndex_8e157 cJ3_checkIndex_8e157 3 (some .int), Cond.methodLink RJx4a65c 123 yJx4a65c_elementData_915e3, Cond.instanceMethod yJx4a65c_elementData_915e3, Cond.selects RJx4a65c yJx4a65c_elementData_915e3 yJx4a65c_elementData_915e3, Cond.code yJx4a65c_elementData_915e3 cJx4a65c_elementData_915e3 2 (some (.object "java/lang/Object")), Cond.fieldLink RJx4a65c 9 "java/util/ArrayList" "elementData" "[Ljava/lang/Object;", Cond.methodLink RX1 118 yX1_take, Cond.instanceMethod yX1_take, Cond.selects RX1 yX1_take yX1_take, Cond.code yX1_take cX1_take 10 (some .long), Cond.fieldLink RX1 21 "FaultEvidence" "stakes" "[J", Cond.constantLong RX1 253 (1000)]
def wsX1_accuse_r6 : List Cond := [Cond.constantLong RX1 15 (10), Cond.fieldLink RX1 64 "FaultEvidence" "burnt" "J", Cond.fieldLink RX1 24 "FaultEvidence" "purses" "[J", Cond.fieldLink RX1 27 "FaultEvidence" "out" "[Z", Cond.classLink RX1 182 RX0, Cond.instantiable RX0 7, Cond.initialized RX0, Cond.methodLink RX1 132 yX1_nodeOf, Cond.static yX1_nodeOf, Cond.code yX1_nodeOf cX1_nodeOf 1 (some .int), Cond.instanceMethod yX0_init, Cond.code yX0_init cX0_init 10 none, Cond.methodLink RX0 1 objectInit, Cond.instanceMethod objectInit, Cond.code objectInit ⟨#[0xb1]⟩ 1 none, Cond.fieldLink RX0 7 "FaultEvidence$Taken" "kind" "I", Cond.fieldLink RX0 13 "FaultEvidence$Taken" "first" "I", Cond.fieldLink RX0 16 "FaultEvidence$Taken" "second" "I", Cond.fieldLink RX0 19 "FaultEvidence$Taken" "accuser" "I", Cond.fieldLink RX0 22 "FaultEvidence$Taken" "heightThen" "I", Cond.fieldLink RX0 25 "FaultEvidence$Taken" "cost" "J", Cond.fieldLink RX0 29 "FaultEvidence$Taken" "reward" "J", Cond.methodLink RX1 258 yJx4a65c_add_9ea2d, Cond.instanceMethod yJx4a65c_add_9ea2d]
def wsX1_accuse_r7 : List Cond := [Cond.selects RJx4a65c yJx4a65c_add_9ea2d yJx4a65c_add_9ea2d, Cond.code yJx4a65c_add_9ea2d cJx4a65c_add_9ea2d 2 (some .boolean), Cond.fieldLink RJx4a65c 63 "java/util/ArrayList" "modCount" "I", Cond.sameField "java/util/ArrayList" "java/util/AbstractList" "modCount" "I", Cond.methodLink RJx4a65c 131 yJx4a65c_add_72be8, Cond.instanceMethod yJx4a65c_add_72be8, Cond.selects RJx4a65c yJx4a65c_add_72be8 yJx4a65c_add_72be8, Cond.code yJx4a65c_add_72be8 cJx4a65c_add_72be8 4 none, Cond.methodLink RJx4a65c 129 yJx4a65c_grow_d5877, Cond.instanceMethod yJx4a65c_grow_d5877, Cond.selects RJx4a65c yJx4a65c_grow_d5877 yJx4a65c_grow_d5877, Cond.code yJx4a65c_grow_d5877 cJx4a65c_grow_d5877 1 (some (.array (.object "java/lang/Object"))), Cond.methodLink RJx4a65c 69 yJx4a65c_grow_92f84, Cond.instanceMethod yJx4a65c_grow_92f84, Cond.selects RJx4a65c yJx4a65c_grow_92f84 yJx4a65c_grow_92f84, Cond.code yJx4a65c_grow_92f84 cJx4a65c_grow_92f84 4 (some (.array (.object "java/lang/Object"))), Cond.fieldLink RJx4a65c 39 "java/util/ArrayList" "DEFAULTCAPACITY_EMPTY_ELEMENTDATA" "[Ljava/lang/Object;", Cond.methodLink RJx4a65c 79 Lib.Math.max.name, Cond.classLink RJx4a65c 7 "java/lang/Object", Cond.methodLink RJx4a65c 73 yJ8_newLength_cabcc, Cond.static yJ8_newLength_cabcc, Cond.initialized RJ8, Cond.code yJ8_newLength_cabcc cJ8_newLength_cabcc 4 (some .int), Cond.methodLink RJ8 194 Lib.Math.max.name]
def wsX1_accuse_r8 : List Cond := [Cond.constant RJ8 200 (2147483639), Cond.methodLink RJ8 201 yJ8_hugeLength_7cf53, Cond.static yJ8_hugeLength_7cf53, Cond.code yJ8_hugeLength_7cf53 cJ8_hugeLength_7cf53 3 (some .int), Cond.methodLink RJx4a65c 66 yJ7_copyOf_1904c, Cond.static yJ7_copyOf_1904c, Cond.initialized RJ7, Cond.code yJ7_copyOf_1904c cJ7_copyOf_1904c 2 (some (.array (.object "java/lang/Object"))), Cond.methodLink RJ7 86 ⟨"java/lang/Object", "getClass", "()Ljava/lang/Class;"⟩, Cond.selects "[Ljava/lang/Object;" ⟨"java/lang/Object", "getClass", "()Ljava/lang/Class;"⟩ ⟨"java/lang/Object", "getClass", "()Ljava/lang/Class;"⟩, Cond.instanceMethod ⟨"java/lang/Object", "getClass", "()Ljava/lang/Class;"⟩, Cond.native ⟨"java/lang/Object", "getClass", "()Ljava/lang/Class;"⟩, Cond.methodLink RJ7 300 yJ7_copyOf_6403c, Cond.static yJ7_copyOf_6403c, Cond.code yJ7_copyOf_6403c cJ7_copyOf_6403c 4 (some (.array (.object "java/lang/Object"))), Cond.classLink RJ7 110 "[Ljava/lang/Object;", Cond.classLink RJ7 2 "java/lang/Object", Cond.methodLink RJ7 304 Lib.Math.min.name, Cond.methodLink RJ7 150 arraycopyName, Cond.native arraycopyName, Cond.static arraycopyName, Cond.initialized "java/lang/System"]
def wsX1_accuse : List Cond := .code yX1_accuse cX1_accuse 6 (some .long) :: ((wsX1_accuse_r1 ++ (wsX1_accuse_r2 ++ (wsX1_accuse_r3 ++ (wsX1_accuse_r4 ++ (wsX1_accuse_r5 ++ (wsX1_accuse_r6 ++ (wsX1_accuse_r7 ++ wsX1_accuse_r8))))))) ++ wsX10 ++ wsX00 ++ wsJx4a65c0)
def wsX1_about : List Cond := .code yX1_about cX1_about 2 (some .long) :: ([.fieldLink RX1 35 "FaultEvidence" "currentHeight" "I", .fieldLink RX1 31 "FaultEvidence" "nodeCount" "I", .fieldLink RX1 48 "FaultEvidence" "voteCount" "I", .fieldLink RX1 60 "FaultEvidence" "takenBreaks" "Ljava/util/ArrayList;", .fieldLink RX1 64 "FaultEvidence" "burnt" "J", .fieldLink RX1 17 "FaultEvidence" "rules" "[J", .constantLong RX1 76 (-102), .methodLink RX1 122 yJx4a65c_size_8abf5, .instanceMethod yJx4a65c_size_8abf5, .selects RJx4a65c yJx4a65c_size_8abf5 yJx4a65c_size_8abf5, .initialized RJx4a65c, .code yJx4a65c_size_8abf5 cJx4a65c_size_8abf5 1 (some .int), .fieldLink RJx4a65c 48 "java/util/ArrayList" "size" "I"] ++ wsX10 ++ wsJx4a65c0)
def wsX1_countTakenOf_r1 : List Cond := [Cond.fieldLink RX1 60 "FaultEvidence" "takenBreaks" "Ljava/util/ArrayList;", Cond.fieldLink RX1 44 "FaultEvidence" "votes" "[I", Cond.classLink RX1 182 "FaultEvidence$Taken", Cond.methodLink RX1 122 yJx4a65c_size_8abf5, Cond.instanceMethod yJx4a65c_size_8abf5, Cond.selects RJx4a65c yJx4a65c_size_8abf5 yJx4a65c_size_8abf5, Cond.initialized RJx4a65c, Cond.code yJx4a65c_size_8abf5 cJx4a65c_size_8abf5 1 (some .int), Cond.fieldLink RJx4a65c 48 "java/util/ArrayList" "size" "I", Cond.methodLink RX1 178 yJx4a65c_get_915e3, Cond.instanceMethod yJx4a65c_get_915e3, Cond.selects RJx4a65c yJx4a65c_get_915e3 yJx4a65c_get_915e3, Cond.code yJx4a65c_get_915e3 cJx4a65c_get_915e3 2 (some (.object "java/lang/Object")), Cond.methodLink RJx4a65c 118 yJ15_checkIndex_7cf53, Cond.static yJ15_checkIndex_7cf53, Cond.initialized RJ15, Cond.code yJ15_checkIndex_7cf53 cJ15_checkIndex_7cf53 2 (some .int), Cond.methodLink RJ15 105 yJ3_checkIndex_8e157, Cond.static yJ3_checkIndex_8e157, Cond.initialized RJ3, Cond.code yJ3_checkIndex_8e157 cJ3_checkIndex_8e157 3 (some .int), Cond.methodLink RJx4a65c 123 yJx4a65c_elementData_915e3, Cond.instanceMethod yJx4a65c_elementData_915e3, Cond.selects RJx4a65c yJx4a65c_elementData_915e3 yJx4a65c_elementData_915e3]
def wsX1_countTakenOf_r2 : List Cond := [Cond.code yJx4a65c_elementData_915e3 cJx4a65c_elementData_915e3 2 (some (.object "java/lang/Object")), Cond.fieldLink RJx4a65c 9 "java/util/ArrayList" "elementData" "[Ljava/lang/Object;", Cond.methodLink RX1 132 yX1_nodeOf, Cond.static yX1_nodeOf, Cond.initialized RX1, Cond.code yX1_nodeOf cX1_nodeOf 1 (some .int)]
def wsX1_countTakenOf : List Cond := .code yX1_countTakenOf cX1_countTakenOf 4 (some .int) :: ((wsX1_countTakenOf_r1 ++ wsX1_countTakenOf_r2) ++ wsX10 ++ wsX00 ++ wsJx4a65c0)
def wsX1_holds_r1 : List Cond := [Cond.constantLong RX1 74 (-101), Cond.fieldLink RX1 21 "FaultEvidence" "stakes" "[J", Cond.fieldLink RX1 24 "FaultEvidence" "purses" "[J", Cond.fieldLink RX1 27 "FaultEvidence" "out" "[Z", Cond.constantLong RX1 76 (-102), Cond.methodLink RX1 70 yX1_isNode, Cond.instanceMethod yX1_isNode, Cond.selects RX1 yX1_isNode yX1_isNode, Cond.initialized RX1, Cond.code yX1_isNode cX1_isNode 2 (some .boolean), Cond.fieldLink RX1 31 "FaultEvidence" "nodeCount" "I", Cond.methodLink RX1 126 yX1_countTakenOf, Cond.instanceMethod yX1_countTakenOf, Cond.selects RX1 yX1_countTakenOf yX1_countTakenOf, Cond.code yX1_countTakenOf cX1_countTakenOf 4 (some .int), Cond.fieldLink RX1 60 "FaultEvidence" "takenBreaks" "Ljava/util/ArrayList;", Cond.fieldLink RX1 44 "FaultEvidence" "votes" "[I", Cond.classLink RX1 182 "FaultEvidence$Taken", Cond.methodLink RX1 122 yJx4a65c_size_8abf5, Cond.instanceMethod yJx4a65c_size_8abf5, Cond.selects RJx4a65c yJx4a65c_size_8abf5 yJx4a65c_size_8abf5, Cond.initialized RJx4a65c, Cond.code yJx4a65c_size_8abf5 cJx4a65c_size_8abf5 1 (some .int), Cond.fieldLink RJx4a65c 48 "java/util/ArrayList" "size" "I"]
def wsX1_holds_r2 : List Cond := [Cond.methodLink RX1 178 yJx4a65c_get_915e3, Cond.instanceMethod yJx4a65c_get_915e3, Cond.selects RJx4a65c yJx4a65c_get_915e3 yJx4a65c_get_915e3, Cond.code yJx4a65c_get_915e3 cJx4a65c_get_915e3 2 (some (.object "java/lang/Object")), Cond.methodLink RJx4a65c 118 yJ15_checkIndex_7cf53, Cond.static yJ15_checkIndex_7cf53, Cond.initialized RJ15, Cond.code yJ15_checkIndex_7cf53 cJ15_checkIndex_7cf53 2 (some .int), Cond.methodLink RJ15 105 yJ3_checkIndex_8e157, Cond.static yJ3_checkIndex_8e157, Cond.initialized RJ3, Cond.code yJ3_checkIndex_8e157 cJ3_checkIndex_8e157 3 (some .int), Cond.methodLink RJx4a65c 123 yJx4a65c_elementData_915e3, Cond.instanceMethod yJx4a65c_elementData_915e3, Cond.selects RJx4a65c yJx4a65c_elementData_915e3 yJx4a65c_elementData_915e3, Cond.code yJx4a65c_elementData_915e3 cJx4a65c_elementData_915e3 2 (some (.object "java/lang/Object")), Cond.fieldLink RJx4a65c 9 "java/util/ArrayList" "elementData" "[Ljava/lang/Object;", Cond.methodLink RX1 132 yX1_nodeOf, Cond.static yX1_nodeOf, Cond.code yX1_nodeOf cX1_nodeOf 1 (some .int)]
def wsX1_holds : List Cond := .code yX1_holds cX1_holds 3 (some .long) :: ((wsX1_holds_r1 ++ wsX1_holds_r2) ++ wsX10 ++ wsX00 ++ wsJx4a65c0)
def wsX1_said : List Cond := .code yX1_said cX1_said 3 (some .int) :: ([.fieldLink RX1 44 "FaultEvidence" "votes" "[I", .methodLink RX1 129 yX1_isVote, .instanceMethod yX1_isVote, .selects RX1 yX1_isVote yX1_isVote, .initialized RX1, .code yX1_isVote cX1_isVote 2 (some .boolean), .fieldLink RX1 48 "FaultEvidence" "voteCount" "I", .methodLink RX1 132 yX1_nodeOf, .static yX1_nodeOf, .code yX1_nodeOf cX1_nodeOf 1 (some .int), .methodLink RX1 135 yX1_heightOf, .static yX1_heightOf, .code yX1_heightOf cX1_heightOf 1 (some .int), .methodLink RX1 138 yX1_roundOf, .static yX1_roundOf, .code yX1_roundOf cX1_roundOf 1 (some .int), .methodLink RX1 141 yX1_stepOf, .static yX1_stepOf, .code yX1_stepOf cX1_stepOf 1 (some .int), .methodLink RX1 144 yX1_blockOf, .static yX1_blockOf, .code yX1_blockOf cX1_blockOf 1 (some .int)] ++ wsX10)
def wsX1_weight : List Cond := .code yX1_weight cX1_weight 3 (some .long) :: ([.constantLong RX1 74 (-101), .constantLong RX1 76 (-102), .fieldLink RX1 41 "FaultEvidence" "totals" "[J", .fieldLink RX1 38 "FaultEvidence" "weights" "[J", .methodLink RX1 147 yX1_isNodeOrNone, .instanceMethod yX1_isNodeOrNone, .selects RX1 yX1_isNodeOrNone yX1_isNodeOrNone, .initialized RX1, .code yX1_isNodeOrNone cX1_isNodeOrNone 2 (some .boolean), .methodLink RX1 70 yX1_isNode, .instanceMethod yX1_isNode, .selects RX1 yX1_isNode yX1_isNode, .code yX1_isNode cX1_isNode 2 (some .boolean), .fieldLink RX1 31 "FaultEvidence" "nodeCount" "I", .methodLink RX1 150 yX1_hasBegun, .instanceMethod yX1_hasBegun, .selects RX1 yX1_hasBegun yX1_hasBegun, .code yX1_hasBegun cX1_hasBegun 2 (some .boolean), .fieldLink RX1 35 "FaultEvidence" "currentHeight" "I", .methodLink RX1 153 yX1_weightIndex, .static yX1_weightIndex, .code yX1_weightIndex cX1_weightIndex 2 (some .int)] ++ wsX10)
def wsX1_backed_r1 : List Cond := [Cond.constantLong RX1 76 (-102), Cond.methodLink RX1 150 yX1_hasBegun, Cond.instanceMethod yX1_hasBegun, Cond.selects RX1 yX1_hasBegun yX1_hasBegun, Cond.initialized RX1, Cond.code yX1_hasBegun cX1_hasBegun 2 (some .boolean), Cond.fieldLink RX1 35 "FaultEvidence" "currentHeight" "I", Cond.methodLink RX1 156 yX1_isSayable, Cond.static yX1_isSayable, Cond.code yX1_isSayable cX1_isSayable 3 (some .boolean), Cond.methodLink RX1 92 yX1_packed, Cond.static yX1_packed, Cond.code yX1_packed cX1_packed 5 (some .int), Cond.methodLink RX1 160 yX1_weightFor, Cond.instanceMethod yX1_weightFor, Cond.selects RX1 yX1_weightFor yX1_weightFor, Cond.code yX1_weightFor cX1_weightFor 7 (some .long), Cond.fieldLink RX1 48 "FaultEvidence" "voteCount" "I", Cond.fieldLink RX1 44 "FaultEvidence" "votes" "[I", Cond.fieldLink RX1 38 "FaultEvidence" "weights" "[J", Cond.methodLink RX1 135 yX1_heightOf, Cond.static yX1_heightOf, Cond.code yX1_heightOf cX1_heightOf 1 (some .int), Cond.methodLink RX1 132 yX1_nodeOf]
def wsX1_backed_r2 : List Cond := [Cond.static yX1_nodeOf, Cond.code yX1_nodeOf cX1_nodeOf 1 (some .int), Cond.methodLink RX1 153 yX1_weightIndex, Cond.static yX1_weightIndex, Cond.code yX1_weightIndex cX1_weightIndex 2 (some .int)]
def wsX1_backed : List Cond := .code yX1_backed cX1_backed 5 (some .long) :: ((wsX1_backed_r1 ++ wsX1_backed_r2) ++ wsX10)
def wsX1_certain : List Cond := .code yX1_certain cX1_certain 5 (some .int) :: ([.fieldLink RX1 54 "FaultEvidence" "certainBlocks" "[I", .methodLink RX1 150 yX1_hasBegun, .instanceMethod yX1_hasBegun, .selects RX1 yX1_hasBegun yX1_hasBegun, .initialized RX1, .code yX1_hasBegun cX1_hasBegun 2 (some .boolean), .fieldLink RX1 35 "FaultEvidence" "currentHeight" "I", .methodLink RX1 164 yX1_hasBlock, .static yX1_hasBlock, .code yX1_hasBlock cX1_hasBlock 2 (some .boolean)] ++ wsX10)
def wsX1_firstPartner : List Cond := .code yX1_firstPartner cX1_firstPartner 2 (some .int) :: ([])
def wsX1_countBreaksFrom_r1 : List Cond := [Cond.fieldLink RX1 44 "FaultEvidence" "votes" "[I", Cond.fieldLink RX1 48 "FaultEvidence" "voteCount" "I", Cond.methodLink RX1 238 yX1_isBare, Cond.instanceMethod yX1_isBare, Cond.selects RX1 yX1_isBare yX1_isBare, Cond.initialized RX1, Cond.code yX1_isBare cX1_isBare 2 (some .boolean), Cond.methodLink RX1 219 yX1_isLocking, Cond.static yX1_isLocking, Cond.code yX1_isLocking cX1_isLocking 1 (some .boolean), Cond.methodLink RX1 141 yX1_stepOf, Cond.static yX1_stepOf, Cond.code yX1_stepOf cX1_stepOf 1 (some .int), Cond.methodLink RX1 144 yX1_blockOf, Cond.static yX1_blockOf, Cond.code yX1_blockOf cX1_blockOf 1 (some .int), Cond.methodLink RX1 135 yX1_heightOf, Cond.static yX1_heightOf, Cond.code yX1_heightOf cX1_heightOf 1 (some .int), Cond.methodLink RX1 138 yX1_roundOf, Cond.static yX1_roundOf, Cond.code yX1_roundOf cX1_roundOf 1 (some .int), Cond.methodLink RX1 229 yX1_isBacked, Cond.instanceMethod yX1_isBacked]
def wsX1_countBreaksFrom_r2 : List Cond := [Cond.selects RX1 yX1_isBacked yX1_isBacked, Cond.code yX1_isBacked cX1_isBacked 4 (some .boolean), Cond.fieldLink RX1 51 "FaultEvidence" "backedBlocks" "[I", Cond.methodLink RX1 164 yX1_hasBlock, Cond.static yX1_hasBlock, Cond.code yX1_hasBlock cX1_hasBlock 2 (some .boolean), Cond.methodLink RX1 222 yX1_voterOf, Cond.static yX1_voterOf, Cond.code yX1_voterOf cX1_voterOf 1 (some .int), Cond.methodLink RX1 244 yX1_firstPartner, Cond.static yX1_firstPartner, Cond.code yX1_firstPartner cX1_firstPartner 2 (some .int), Cond.methodLink RX1 247 yX1_isPair, Cond.instanceMethod yX1_isPair, Cond.selects RX1 yX1_isPair yX1_isPair, Cond.code yX1_isPair cX1_isPair 4 (some .boolean), Cond.methodLink RX1 232 yX1_isTwice, Cond.static yX1_isTwice, Cond.code yX1_isTwice cX1_isTwice 2 (some .boolean), Cond.methodLink RX1 235 yX1_isLock, Cond.instanceMethod yX1_isLock, Cond.selects RX1 yX1_isLock yX1_isLock, Cond.code yX1_isLock cX1_isLock 4 (some .boolean), Cond.methodLink RX1 225 yX1_isUnlocked]
def wsX1_countBreaksFrom_r3 : List Cond := [Cond.instanceMethod yX1_isUnlocked, Cond.selects RX1 yX1_isUnlocked yX1_isUnlocked, Cond.code yX1_isUnlocked cX1_isUnlocked 6 (some .boolean)]
def wsX1_countBreaksFrom : List Cond := .code yX1_countBreaksFrom cX1_countBreaksFrom 7 (some .int) :: ((wsX1_countBreaksFrom_r1 ++ (wsX1_countBreaksFrom_r2 ++ wsX1_countBreaksFrom_r3)) ++ wsX10)
def wsX1_breaks_r1 : List Cond := [Cond.fieldLink RX1 48 "FaultEvidence" "voteCount" "I", Cond.fieldLink RX1 44 "FaultEvidence" "votes" "[I", Cond.methodLink RX1 150 yX1_hasBegun, Cond.instanceMethod yX1_hasBegun, Cond.selects RX1 yX1_hasBegun yX1_hasBegun, Cond.initialized RX1, Cond.code yX1_hasBegun cX1_hasBegun 2 (some .boolean), Cond.fieldLink RX1 35 "FaultEvidence" "currentHeight" "I", Cond.methodLink RX1 168 yX1_isKind, Cond.static yX1_isKind, Cond.code yX1_isKind cX1_isKind 1 (some .boolean), Cond.methodLink RX1 135 yX1_heightOf, Cond.static yX1_heightOf, Cond.code yX1_heightOf cX1_heightOf 1 (some .int), Cond.methodLink RX1 171 yX1_countBreaksFrom, Cond.instanceMethod yX1_countBreaksFrom, Cond.selects RX1 yX1_countBreaksFrom yX1_countBreaksFrom, Cond.code yX1_countBreaksFrom cX1_countBreaksFrom 7 (some .int), Cond.methodLink RX1 238 yX1_isBare, Cond.instanceMethod yX1_isBare, Cond.selects RX1 yX1_isBare yX1_isBare, Cond.code yX1_isBare cX1_isBare 2 (some .boolean), Cond.methodLink RX1 219 yX1_isLocking, Cond.static yX1_isLocking]
def wsX1_breaks_r2 : List Cond := [Cond.code yX1_isLocking cX1_isLocking 1 (some .boolean), Cond.methodLink RX1 141 yX1_stepOf, Cond.static yX1_stepOf, Cond.code yX1_stepOf cX1_stepOf 1 (some .int), Cond.methodLink RX1 144 yX1_blockOf, Cond.static yX1_blockOf, Cond.code yX1_blockOf cX1_blockOf 1 (some .int), Cond.methodLink RX1 138 yX1_roundOf, Cond.static yX1_roundOf, Cond.code yX1_roundOf cX1_roundOf 1 (some .int), Cond.methodLink RX1 229 yX1_isBacked, Cond.instanceMethod yX1_isBacked, Cond.selects RX1 yX1_isBacked yX1_isBacked, Cond.code yX1_isBacked cX1_isBacked 4 (some .boolean), Cond.fieldLink RX1 51 "FaultEvidence" "backedBlocks" "[I", Cond.methodLink RX1 164 yX1_hasBlock, Cond.static yX1_hasBlock, Cond.code yX1_hasBlock cX1_hasBlock 2 (some .boolean), Cond.methodLink RX1 222 yX1_voterOf, Cond.static yX1_voterOf, Cond.code yX1_voterOf cX1_voterOf 1 (some .int), Cond.methodLink RX1 244 yX1_firstPartner, Cond.static yX1_firstPartner, Cond.code yX1_firstPartner cX1_firstPartner 2 (some .int)]
def wsX1_breaks_r3 : List Cond := [Cond.methodLink RX1 247 yX1_isPair, Cond.instanceMethod yX1_isPair, Cond.selects RX1 yX1_isPair yX1_isPair, Cond.code yX1_isPair cX1_isPair 4 (some .boolean), Cond.methodLink RX1 232 yX1_isTwice, Cond.static yX1_isTwice, Cond.code yX1_isTwice cX1_isTwice 2 (some .boolean), Cond.methodLink RX1 235 yX1_isLock, Cond.instanceMethod yX1_isLock, Cond.selects RX1 yX1_isLock yX1_isLock, Cond.code yX1_isLock cX1_isLock 4 (some .boolean), Cond.methodLink RX1 225 yX1_isUnlocked, Cond.instanceMethod yX1_isUnlocked, Cond.selects RX1 yX1_isUnlocked yX1_isUnlocked, Cond.code yX1_isUnlocked cX1_isUnlocked 6 (some .boolean)]
def wsX1_breaks : List Cond := .code yX1_breaks cX1_breaks 5 (some .int) :: ((wsX1_breaks_r1 ++ (wsX1_breaks_r2 ++ wsX1_breaks_r3)) ++ wsX10)
def wsX1_partner_r1 : List Cond := [Cond.fieldLink RX1 48 "FaultEvidence" "voteCount" "I", Cond.fieldLink RX1 44 "FaultEvidence" "votes" "[I", Cond.methodLink RX1 244 yX1_firstPartner, Cond.static yX1_firstPartner, Cond.initialized RX1, Cond.code yX1_firstPartner cX1_firstPartner 2 (some .int), Cond.methodLink RX1 247 yX1_isPair, Cond.instanceMethod yX1_isPair, Cond.selects RX1 yX1_isPair yX1_isPair, Cond.code yX1_isPair cX1_isPair 4 (some .boolean), Cond.methodLink RX1 232 yX1_isTwice, Cond.static yX1_isTwice, Cond.code yX1_isTwice cX1_isTwice 2 (some .boolean), Cond.methodLink RX1 235 yX1_isLock, Cond.instanceMethod yX1_isLock, Cond.selects RX1 yX1_isLock yX1_isLock, Cond.code yX1_isLock cX1_isLock 4 (some .boolean), Cond.methodLink RX1 219 yX1_isLocking, Cond.static yX1_isLocking, Cond.code yX1_isLocking cX1_isLocking 1 (some .boolean), Cond.methodLink RX1 141 yX1_stepOf, Cond.static yX1_stepOf, Cond.code yX1_stepOf cX1_stepOf 1 (some .int), Cond.methodLink RX1 144 yX1_blockOf]
def wsX1_partner_r2 : List Cond := [Cond.static yX1_blockOf, Cond.code yX1_blockOf cX1_blockOf 1 (some .int), Cond.methodLink RX1 222 yX1_voterOf, Cond.static yX1_voterOf, Cond.code yX1_voterOf cX1_voterOf 1 (some .int), Cond.methodLink RX1 138 yX1_roundOf, Cond.static yX1_roundOf, Cond.code yX1_roundOf cX1_roundOf 1 (some .int), Cond.methodLink RX1 135 yX1_heightOf, Cond.static yX1_heightOf, Cond.code yX1_heightOf cX1_heightOf 1 (some .int), Cond.methodLink RX1 225 yX1_isUnlocked, Cond.instanceMethod yX1_isUnlocked, Cond.selects RX1 yX1_isUnlocked yX1_isUnlocked, Cond.code yX1_isUnlocked cX1_isUnlocked 6 (some .boolean), Cond.methodLink RX1 229 yX1_isBacked, Cond.instanceMethod yX1_isBacked, Cond.selects RX1 yX1_isBacked yX1_isBacked, Cond.code yX1_isBacked cX1_isBacked 4 (some .boolean), Cond.fieldLink RX1 51 "FaultEvidence" "backedBlocks" "[I", Cond.methodLink RX1 164 yX1_hasBlock, Cond.static yX1_hasBlock, Cond.code yX1_hasBlock cX1_hasBlock 2 (some .boolean)]
def wsX1_partner : List Cond := .code yX1_partner cX1_partner 6 (some .int) :: ((wsX1_partner_r1 ++ wsX1_partner_r2) ++ wsX10)
def wsX1_broken_r1 : List Cond := [Cond.fieldLink RX1 48 "FaultEvidence" "voteCount" "I", Cond.fieldLink RX1 44 "FaultEvidence" "votes" "[I", Cond.methodLink RX1 150 yX1_hasBegun, Cond.instanceMethod yX1_hasBegun, Cond.selects RX1 yX1_hasBegun yX1_hasBegun, Cond.initialized RX1, Cond.code yX1_hasBegun cX1_hasBegun 2 (some .boolean), Cond.fieldLink RX1 35 "FaultEvidence" "currentHeight" "I", Cond.methodLink RX1 168 yX1_isKind, Cond.static yX1_isKind, Cond.code yX1_isKind cX1_isKind 1 (some .boolean), Cond.methodLink RX1 135 yX1_heightOf, Cond.static yX1_heightOf, Cond.code yX1_heightOf cX1_heightOf 1 (some .int), Cond.methodLink RX1 171 yX1_countBreaksFrom, Cond.instanceMethod yX1_countBreaksFrom, Cond.selects RX1 yX1_countBreaksFrom yX1_countBreaksFrom, Cond.code yX1_countBreaksFrom cX1_countBreaksFrom 7 (some .int), Cond.methodLink RX1 238 yX1_isBare, Cond.instanceMethod yX1_isBare, Cond.selects RX1 yX1_isBare yX1_isBare, Cond.code yX1_isBare cX1_isBare 2 (some .boolean), Cond.methodLink RX1 219 yX1_isLocking, Cond.static yX1_isLocking]
def wsX1_broken_r2 : List Cond := [Cond.code yX1_isLocking cX1_isLocking 1 (some .boolean), Cond.methodLink RX1 141 yX1_stepOf, Cond.static yX1_stepOf, Cond.code yX1_stepOf cX1_stepOf 1 (some .int), Cond.methodLink RX1 144 yX1_blockOf, Cond.static yX1_blockOf, Cond.code yX1_blockOf cX1_blockOf 1 (some .int), Cond.methodLink RX1 138 yX1_roundOf, Cond.static yX1_roundOf, Cond.code yX1_roundOf cX1_roundOf 1 (some .int), Cond.methodLink RX1 229 yX1_isBacked, Cond.instanceMethod yX1_isBacked, Cond.selects RX1 yX1_isBacked yX1_isBacked, Cond.code yX1_isBacked cX1_isBacked 4 (some .boolean), Cond.fieldLink RX1 51 "FaultEvidence" "backedBlocks" "[I", Cond.methodLink RX1 164 yX1_hasBlock, Cond.static yX1_hasBlock, Cond.code yX1_hasBlock cX1_hasBlock 2 (some .boolean), Cond.methodLink RX1 222 yX1_voterOf, Cond.static yX1_voterOf, Cond.code yX1_voterOf cX1_voterOf 1 (some .int), Cond.methodLink RX1 244 yX1_firstPartner, Cond.static yX1_firstPartner, Cond.code yX1_firstPartner cX1_firstPartner 2 (some .int)]
def wsX1_broken_r3 : List Cond := [Cond.methodLink RX1 247 yX1_isPair, Cond.instanceMethod yX1_isPair, Cond.selects RX1 yX1_isPair yX1_isPair, Cond.code yX1_isPair cX1_isPair 4 (some .boolean), Cond.methodLink RX1 232 yX1_isTwice, Cond.static yX1_isTwice, Cond.code yX1_isTwice cX1_isTwice 2 (some .boolean), Cond.methodLink RX1 235 yX1_isLock, Cond.instanceMethod yX1_isLock, Cond.selects RX1 yX1_isLock yX1_isLock, Cond.code yX1_isLock cX1_isLock 4 (some .boolean), Cond.methodLink RX1 225 yX1_isUnlocked, Cond.instanceMethod yX1_isUnlocked, Cond.selects RX1 yX1_isUnlocked yX1_isUnlocked, Cond.code yX1_isUnlocked cX1_isUnlocked 6 (some .boolean), Cond.methodLink RX1 174 yX1_partner, Cond.instanceMethod yX1_partner, Cond.selects RX1 yX1_partner yX1_partner, Cond.code yX1_partner cX1_partner 6 (some .int)]
def wsX1_broken : List Cond := .code yX1_broken cX1_broken 8 (some .int) :: ((wsX1_broken_r1 ++ (wsX1_broken_r2 ++ wsX1_broken_r3)) ++ wsX10)
def wsX1_named_r1 : List Cond := [Cond.fieldLink RX1 48 "FaultEvidence" "voteCount" "I", Cond.fieldLink RX1 44 "FaultEvidence" "votes" "[I", Cond.methodLink RX1 150 yX1_hasBegun, Cond.instanceMethod yX1_hasBegun, Cond.selects RX1 yX1_hasBegun yX1_hasBegun, Cond.initialized RX1, Cond.code yX1_hasBegun cX1_hasBegun 2 (some .boolean), Cond.fieldLink RX1 35 "FaultEvidence" "currentHeight" "I", Cond.methodLink RX1 132 yX1_nodeOf, Cond.static yX1_nodeOf, Cond.code yX1_nodeOf cX1_nodeOf 1 (some .int), Cond.methodLink RX1 135 yX1_heightOf, Cond.static yX1_heightOf, Cond.code yX1_heightOf cX1_heightOf 1 (some .int), Cond.methodLink RX1 102 yX1_makesBreak, Cond.instanceMethod yX1_makesBreak, Cond.selects RX1 yX1_makesBreak yX1_makesBreak, Cond.code yX1_makesBreak cX1_makesBreak 4 (some .boolean), Cond.methodLink RX1 238 yX1_isBare, Cond.instanceMethod yX1_isBare, Cond.selects RX1 yX1_isBare yX1_isBare, Cond.code yX1_isBare cX1_isBare 2 (some .boolean), Cond.methodLink RX1 219 yX1_isLocking, Cond.static yX1_isLocking]
def wsX1_named_r2 : List Cond := [Cond.code yX1_isLocking cX1_isLocking 1 (some .boolean), Cond.methodLink RX1 141 yX1_stepOf, Cond.static yX1_stepOf, Cond.code yX1_stepOf cX1_stepOf 1 (some .int), Cond.methodLink RX1 144 yX1_blockOf, Cond.static yX1_blockOf, Cond.code yX1_blockOf cX1_blockOf 1 (some .int), Cond.methodLink RX1 138 yX1_roundOf, Cond.static yX1_roundOf, Cond.code yX1_roundOf cX1_roundOf 1 (some .int), Cond.methodLink RX1 229 yX1_isBacked, Cond.instanceMethod yX1_isBacked, Cond.selects RX1 yX1_isBacked yX1_isBacked, Cond.code yX1_isBacked cX1_isBacked 4 (some .boolean), Cond.fieldLink RX1 51 "FaultEvidence" "backedBlocks" "[I", Cond.methodLink RX1 164 yX1_hasBlock, Cond.static yX1_hasBlock, Cond.code yX1_hasBlock cX1_hasBlock 2 (some .boolean), Cond.methodLink RX1 222 yX1_voterOf, Cond.static yX1_voterOf, Cond.code yX1_voterOf cX1_voterOf 1 (some .int), Cond.methodLink RX1 241 yX1_isClash, Cond.instanceMethod yX1_isClash, Cond.selects RX1 yX1_isClash yX1_isClash]
def wsX1_named_r3 : List Cond := [Cond.code yX1_isClash cX1_isClash 3 (some .boolean), Cond.methodLink RX1 232 yX1_isTwice, Cond.static yX1_isTwice, Cond.code yX1_isTwice cX1_isTwice 2 (some .boolean), Cond.methodLink RX1 235 yX1_isLock, Cond.instanceMethod yX1_isLock, Cond.selects RX1 yX1_isLock yX1_isLock, Cond.code yX1_isLock cX1_isLock 4 (some .boolean), Cond.methodLink RX1 225 yX1_isUnlocked, Cond.instanceMethod yX1_isUnlocked, Cond.selects RX1 yX1_isUnlocked yX1_isUnlocked, Cond.code yX1_isUnlocked cX1_isUnlocked 6 (some .boolean)]
def wsX1_named : List Cond := .code yX1_named cX1_named 5 (some .int) :: ((wsX1_named_r1 ++ (wsX1_named_r2 ++ wsX1_named_r3)) ++ wsX10)
def wsX1_taken_r1 : List Cond := [Cond.fieldLink RX1 60 "FaultEvidence" "takenBreaks" "Ljava/util/ArrayList;", Cond.constantLong RX1 74 (-101), Cond.classLink RX1 182 "FaultEvidence$Taken", Cond.constantLong RX1 76 (-102), Cond.methodLink RX1 122 yJx4a65c_size_8abf5, Cond.instanceMethod yJx4a65c_size_8abf5, Cond.selects RJx4a65c yJx4a65c_size_8abf5 yJx4a65c_size_8abf5, Cond.initialized RJx4a65c, Cond.code yJx4a65c_size_8abf5 cJx4a65c_size_8abf5 1 (some .int), Cond.fieldLink RJx4a65c 48 "java/util/ArrayList" "size" "I", Cond.methodLink RX1 178 yJx4a65c_get_915e3, Cond.instanceMethod yJx4a65c_get_915e3, Cond.selects RJx4a65c yJx4a65c_get_915e3 yJx4a65c_get_915e3, Cond.code yJx4a65c_get_915e3 cJx4a65c_get_915e3 2 (some (.object "java/lang/Object")), Cond.methodLink RJx4a65c 118 yJ15_checkIndex_7cf53, Cond.static yJ15_checkIndex_7cf53, Cond.initialized RJ15, Cond.code yJ15_checkIndex_7cf53 cJ15_checkIndex_7cf53 2 (some .int), Cond.methodLink RJ15 105 yJ3_checkIndex_8e157, Cond.static yJ3_checkIndex_8e157, Cond.initialized RJ3, Cond.code yJ3_checkIndex_8e157 cJ3_checkIndex_8e157 3 (some .int), Cond.methodLink RJx4a65c 123 yJx4a65c_elementData_915e3, Cond.instanceMethod yJx4a65c_elementData_915e3]
def wsX1_taken_r2 : List Cond := [Cond.selects RJx4a65c yJx4a65c_elementData_915e3 yJx4a65c_elementData_915e3, Cond.code yJx4a65c_elementData_915e3 cJx4a65c_elementData_915e3 2 (some (.object "java/lang/Object")), Cond.fieldLink RJx4a65c 9 "java/util/ArrayList" "elementData" "[Ljava/lang/Object;"]
def wsX1_taken : List Cond := .code yX1_taken cX1_taken 4 (some .long) :: ((wsX1_taken_r1 ++ wsX1_taken_r2) ++ wsX10 ++ wsX00 ++ wsJx4a65c0)
def wsX2_init_r1 : List Cond := [Cond.methodLink RX2 1 objectInit, Cond.instanceMethod objectInit, Cond.code objectInit ⟨#[0xb1]⟩ 1 none, Cond.arrayClass .long, Cond.fieldLink RX2 7 "FaultEvidenceModel" "stakes" "[J", Cond.fieldLink RX2 13 "FaultEvidenceModel" "purses" "[J", Cond.arrayClass .boolean, Cond.fieldLink RX2 16 "FaultEvidenceModel" "isOut" "[Z", Cond.fieldLink RX2 20 "FaultEvidenceModel" "weights" "[J", Cond.fieldLink RX2 23 "FaultEvidenceModel" "totals" "[J", Cond.arrayClass .int, Cond.fieldLink RX2 26 "FaultEvidenceModel" "who" "[I", Cond.fieldLink RX2 30 "FaultEvidenceModel" "when" "[I", Cond.fieldLink RX2 33 "FaultEvidenceModel" "rounds" "[I", Cond.fieldLink RX2 36 "FaultEvidenceModel" "steps" "[I", Cond.fieldLink RX2 39 "FaultEvidenceModel" "blocks" "[I", Cond.fieldLink RX2 42 "FaultEvidenceModel" "saying" "[I", Cond.fieldLink RX2 45 "FaultEvidenceModel" "rates" "[I", Cond.fieldLink RX2 48 "FaultEvidenceModel" "span" "I", Cond.fieldLink RX2 52 "FaultEvidenceModel" "takenKind" "[I", Cond.fieldLink RX2 55 "FaultEvidenceModel" "takenA" "[I", Cond.fieldLink RX2 58 "FaultEvidenceModel" "takenB" "[I", Cond.fieldLink RX2 61 "FaultEvidenceModel" "takenBy" "[I", Cond.fieldLink RX2 64 "FaultEvidenceModel" "takenAt" "[I"]
def wsX2_init_r2 : List Cond := [Cond.fieldLink RX2 67 "FaultEvidenceModel" "takenCost" "[J", Cond.fieldLink RX2 70 "FaultEvidenceModel" "takenShare" "[J", Cond.fieldLink RX2 73 "FaultEvidenceModel" "isDone" "[Z"]
def wsX2_init : List Cond := .code yX2_init cX2_init 1 none :: ((wsX2_init_r1 ++ wsX2_init_r2) ++ wsX20)
def wsX2_in : List Cond := .code yX2_in cX2_in 6 (some .boolean) :: ([])
def wsX2_isNode : List Cond := .code yX2_isNode cX2_isNode 2 (some .boolean) :: ([.fieldLink RX2 76 "FaultEvidenceModel" "nodes" "I"] ++ wsX20)
def wsX2_isVote : List Cond := .code yX2_isVote cX2_isVote 2 (some .boolean) :: ([.fieldLink RX2 79 "FaultEvidenceModel" "votes" "I"] ++ wsX20)
def wsX2_isHeight : List Cond := .code yX2_isHeight cX2_isHeight 2 (some .boolean) :: ([.fieldLink RX2 82 "FaultEvidenceModel" "height" "I"] ++ wsX20)
def wsX2_place : List Cond := .code yX2_place cX2_place 4 (some .int) :: ([])
def wsX2_weightOf : List Cond := .code yX2_weightOf cX2_weightOf 6 (some .long) :: ([.fieldLink RX2 20 "FaultEvidenceModel" "weights" "[J"] ++ wsX20)
def wsX2_haveMost : List Cond := .code yX2_haveMost cX2_haveMost 3 (some .boolean) :: ([.constantLong RX2 85 (3), .constantLong RX2 91 (2), .fieldLink RX2 23 "FaultEvidenceModel" "totals" "[J", .methodLink RX2 87 yX2_weightOf, .instanceMethod yX2_weightOf, .selects RX2 yX2_weightOf yX2_weightOf, .initialized RX2, .code yX2_weightOf cX2_weightOf 6 (some .long), .fieldLink RX2 20 "FaultEvidenceModel" "weights" "[J"] ++ wsX20)
def wsX2_isBacked : List Cond := .code yX2_isBacked cX2_isBacked 4 (some .boolean) :: ([.fieldLink RX2 42 "FaultEvidenceModel" "saying" "[I", .methodLink RX2 93 yX2_place, .static yX2_place, .initialized RX2, .code yX2_place cX2_place 4 (some .int), .methodLink RX2 97 yX2_haveMost, .instanceMethod yX2_haveMost, .selects RX2 yX2_haveMost yX2_haveMost, .code yX2_haveMost cX2_haveMost 3 (some .boolean), .constantLong RX2 85 (3), .constantLong RX2 91 (2), .fieldLink RX2 23 "FaultEvidenceModel" "totals" "[J", .methodLink RX2 87 yX2_weightOf, .instanceMethod yX2_weightOf, .selects RX2 yX2_weightOf yX2_weightOf, .code yX2_weightOf cX2_weightOf 6 (some .long), .fieldLink RX2 20 "FaultEvidenceModel" "weights" "[J"] ++ wsX20)
def wsX2_isCertain : List Cond := .code yX2_isCertain cX2_isCertain 5 (some .boolean) :: ([.fieldLink RX2 42 "FaultEvidenceModel" "saying" "[I", .methodLink RX2 93 yX2_place, .static yX2_place, .initialized RX2, .code yX2_place cX2_place 4 (some .int), .methodLink RX2 97 yX2_haveMost, .instanceMethod yX2_haveMost, .selects RX2 yX2_haveMost yX2_haveMost, .code yX2_haveMost cX2_haveMost 3 (some .boolean), .constantLong RX2 85 (3), .constantLong RX2 91 (2), .fieldLink RX2 23 "FaultEvidenceModel" "totals" "[J", .methodLink RX2 87 yX2_weightOf, .instanceMethod yX2_weightOf, .selects RX2 yX2_weightOf yX2_weightOf, .code yX2_weightOf cX2_weightOf 6 (some .long), .fieldLink RX2 20 "FaultEvidenceModel" "weights" "[J"] ++ wsX20)
def wsX2_isTwice : List Cond := .code yX2_isTwice cX2_isTwice 3 (some .boolean) :: ([.fieldLink RX2 26 "FaultEvidenceModel" "who" "[I", .fieldLink RX2 30 "FaultEvidenceModel" "when" "[I", .fieldLink RX2 33 "FaultEvidenceModel" "rounds" "[I", .fieldLink RX2 36 "FaultEvidenceModel" "steps" "[I", .fieldLink RX2 39 "FaultEvidenceModel" "blocks" "[I"] ++ wsX20)
def wsX2_isLock_r1 : List Cond := [Cond.fieldLink RX2 26 "FaultEvidenceModel" "who" "[I", Cond.fieldLink RX2 30 "FaultEvidenceModel" "when" "[I", Cond.fieldLink RX2 36 "FaultEvidenceModel" "steps" "[I", Cond.fieldLink RX2 33 "FaultEvidenceModel" "rounds" "[I", Cond.fieldLink RX2 39 "FaultEvidenceModel" "blocks" "[I", Cond.methodLink RX2 101 yX2_isBacked, Cond.instanceMethod yX2_isBacked, Cond.selects RX2 yX2_isBacked yX2_isBacked, Cond.initialized RX2, Cond.code yX2_isBacked cX2_isBacked 4 (some .boolean), Cond.fieldLink RX2 42 "FaultEvidenceModel" "saying" "[I", Cond.methodLink RX2 93 yX2_place, Cond.static yX2_place, Cond.code yX2_place cX2_place 4 (some .int), Cond.methodLink RX2 97 yX2_haveMost, Cond.instanceMethod yX2_haveMost, Cond.selects RX2 yX2_haveMost yX2_haveMost, Cond.code yX2_haveMost cX2_haveMost 3 (some .boolean), Cond.constantLong RX2 85 (3), Cond.constantLong RX2 91 (2), Cond.fieldLink RX2 23 "FaultEvidenceModel" "totals" "[J", Cond.methodLink RX2 87 yX2_weightOf, Cond.instanceMethod yX2_weightOf, Cond.selects RX2 yX2_weightOf yX2_weightOf]
def wsX2_isLock_r2 : List Cond := [Cond.code yX2_weightOf cX2_weightOf 6 (some .long), Cond.fieldLink RX2 20 "FaultEvidenceModel" "weights" "[J"]
def wsX2_isLock : List Cond := .code yX2_isLock cX2_isLock 5 (some .boolean) :: ((wsX2_isLock_r1 ++ wsX2_isLock_r2) ++ wsX20)
def wsX2_isBare_r1 : List Cond := [Cond.fieldLink RX2 36 "FaultEvidenceModel" "steps" "[I", Cond.fieldLink RX2 39 "FaultEvidenceModel" "blocks" "[I", Cond.fieldLink RX2 30 "FaultEvidenceModel" "when" "[I", Cond.fieldLink RX2 33 "FaultEvidenceModel" "rounds" "[I", Cond.methodLink RX2 101 yX2_isBacked, Cond.instanceMethod yX2_isBacked, Cond.selects RX2 yX2_isBacked yX2_isBacked, Cond.initialized RX2, Cond.code yX2_isBacked cX2_isBacked 4 (some .boolean), Cond.fieldLink RX2 42 "FaultEvidenceModel" "saying" "[I", Cond.methodLink RX2 93 yX2_place, Cond.static yX2_place, Cond.code yX2_place cX2_place 4 (some .int), Cond.methodLink RX2 97 yX2_haveMost, Cond.instanceMethod yX2_haveMost, Cond.selects RX2 yX2_haveMost yX2_haveMost, Cond.code yX2_haveMost cX2_haveMost 3 (some .boolean), Cond.constantLong RX2 85 (3), Cond.constantLong RX2 91 (2), Cond.fieldLink RX2 23 "FaultEvidenceModel" "totals" "[J", Cond.methodLink RX2 87 yX2_weightOf, Cond.instanceMethod yX2_weightOf, Cond.selects RX2 yX2_weightOf yX2_weightOf, Cond.code yX2_weightOf cX2_weightOf 6 (some .long)]
def wsX2_isBare_r2 : List Cond := [Cond.fieldLink RX2 20 "FaultEvidenceModel" "weights" "[J"]
def wsX2_isBare : List Cond := .code yX2_isBare cX2_isBare 2 (some .boolean) :: ((wsX2_isBare_r1 ++ wsX2_isBare_r2) ++ wsX20)
def wsX2_isBreak_r1 : List Cond := [Cond.methodLink RX2 105 yX2_isTwice, Cond.instanceMethod yX2_isTwice, Cond.selects RX2 yX2_isTwice yX2_isTwice, Cond.initialized RX2, Cond.code yX2_isTwice cX2_isTwice 3 (some .boolean), Cond.fieldLink RX2 26 "FaultEvidenceModel" "who" "[I", Cond.fieldLink RX2 30 "FaultEvidenceModel" "when" "[I", Cond.fieldLink RX2 33 "FaultEvidenceModel" "rounds" "[I", Cond.fieldLink RX2 36 "FaultEvidenceModel" "steps" "[I", Cond.fieldLink RX2 39 "FaultEvidenceModel" "blocks" "[I", Cond.methodLink RX2 108 yX2_isLock, Cond.instanceMethod yX2_isLock, Cond.selects RX2 yX2_isLock yX2_isLock, Cond.code yX2_isLock cX2_isLock 5 (some .boolean), Cond.methodLink RX2 101 yX2_isBacked, Cond.instanceMethod yX2_isBacked, Cond.selects RX2 yX2_isBacked yX2_isBacked, Cond.code yX2_isBacked cX2_isBacked 4 (some .boolean), Cond.fieldLink RX2 42 "FaultEvidenceModel" "saying" "[I", Cond.methodLink RX2 93 yX2_place, Cond.static yX2_place, Cond.code yX2_place cX2_place 4 (some .int), Cond.methodLink RX2 97 yX2_haveMost, Cond.instanceMethod yX2_haveMost]
def wsX2_isBreak_r2 : List Cond := [Cond.selects RX2 yX2_haveMost yX2_haveMost, Cond.code yX2_haveMost cX2_haveMost 3 (some .boolean), Cond.constantLong RX2 85 (3), Cond.constantLong RX2 91 (2), Cond.fieldLink RX2 23 "FaultEvidenceModel" "totals" "[J", Cond.methodLink RX2 87 yX2_weightOf, Cond.instanceMethod yX2_weightOf, Cond.selects RX2 yX2_weightOf yX2_weightOf, Cond.code yX2_weightOf cX2_weightOf 6 (some .long), Cond.fieldLink RX2 20 "FaultEvidenceModel" "weights" "[J", Cond.methodLink RX2 111 yX2_isBare, Cond.instanceMethod yX2_isBare, Cond.selects RX2 yX2_isBare yX2_isBare, Cond.code yX2_isBare cX2_isBare 2 (some .boolean)]
def wsX2_isBreak : List Cond := .code yX2_isBreak cX2_isBreak 4 (some .boolean) :: ((wsX2_isBreak_r1 ++ wsX2_isBreak_r2) ++ wsX20)
def wsX2_node : List Cond := .code yX2_node cX2_node 3 (some .int) :: ([.constantLong RX2 115 (1000000000), .fieldLink RX2 76 "FaultEvidenceModel" "nodes" "I", .fieldLink RX2 7 "FaultEvidenceModel" "stakes" "[J", .methodLink RX2 117 yX2_in, .static yX2_in, .initialized RX2, .code yX2_in cX2_in 6 (some .boolean)] ++ wsX20)
def wsX2_add : List Cond := .code yX2_add cX2_add 4 (some .long) :: ([.constantLong RX2 124 (-101), .constantLong RX2 115 (1000000000), .fieldLink RX2 7 "FaultEvidenceModel" "stakes" "[J", .constantLong RX2 126 (-102), .methodLink RX2 121 yX2_isNode, .instanceMethod yX2_isNode, .selects RX2 yX2_isNode yX2_isNode, .initialized RX2, .code yX2_isNode cX2_isNode 2 (some .boolean), .fieldLink RX2 76 "FaultEvidenceModel" "nodes" "I", .methodLink RX2 117 yX2_in, .static yX2_in, .code yX2_in cX2_in 6 (some .boolean)] ++ wsX20)
def wsX2_next : List Cond := .code yX2_next cX2_next 4 (some .int) :: ([.fieldLink RX2 82 "FaultEvidenceModel" "height" "I", .fieldLink RX2 76 "FaultEvidenceModel" "nodes" "I", .fieldLink RX2 16 "FaultEvidenceModel" "isOut" "[Z", .fieldLink RX2 7 "FaultEvidenceModel" "stakes" "[J", .fieldLink RX2 20 "FaultEvidenceModel" "weights" "[J", .fieldLink RX2 23 "FaultEvidenceModel" "totals" "[J"] ++ wsX20)
def wsX2_set : List Cond := .code yX2_set cX2_set 6 (some .long) :: ([.constantLong RX2 126 (-102), .constantLong RX2 128 (1000), .fieldLink RX2 45 "FaultEvidenceModel" "rates" "[I", .constantLong RX2 91 (2), .constantLong RX2 130 (20), .fieldLink RX2 48 "FaultEvidenceModel" "span" "I", .constantLong RX2 115 (1000000000), .fieldLink RX2 132 "FaultEvidenceModel" "least" "J", .methodLink RX2 117 yX2_in, .static yX2_in, .initialized RX2, .code yX2_in cX2_in 6 (some .boolean)] ++ wsX20)
def wsX2_refusal : List Cond := .code yX2_refusal cX2_refusal 6 (some .int) :: ([.fieldLink RX2 82 "FaultEvidenceModel" "height" "I", .constantLong RX2 136 (7), .constantLong RX2 138 (9), .fieldLink RX2 20 "FaultEvidenceModel" "weights" "[J", .methodLink RX2 121 yX2_isNode, .instanceMethod yX2_isNode, .selects RX2 yX2_isNode yX2_isNode, .initialized RX2, .code yX2_isNode cX2_isNode 2 (some .boolean), .fieldLink RX2 76 "FaultEvidenceModel" "nodes" "I", .methodLink RX2 117 yX2_in, .static yX2_in, .code yX2_in cX2_in 6 (some .boolean)] ++ wsX20)
def wsX2_find : List Cond := .code yX2_find cX2_find 7 (some .int) :: ([.fieldLink RX2 79 "FaultEvidenceModel" "votes" "I", .fieldLink RX2 26 "FaultEvidenceModel" "who" "[I", .fieldLink RX2 30 "FaultEvidenceModel" "when" "[I", .fieldLink RX2 33 "FaultEvidenceModel" "rounds" "[I", .fieldLink RX2 36 "FaultEvidenceModel" "steps" "[I", .fieldLink RX2 39 "FaultEvidenceModel" "blocks" "[I"] ++ wsX20)
def wsX2_vote_r1 : List Cond := [Cond.fieldLink RX2 79 "FaultEvidenceModel" "votes" "I", Cond.fieldLink RX2 26 "FaultEvidenceModel" "who" "[I", Cond.fieldLink RX2 30 "FaultEvidenceModel" "when" "[I", Cond.fieldLink RX2 33 "FaultEvidenceModel" "rounds" "[I", Cond.fieldLink RX2 36 "FaultEvidenceModel" "steps" "[I", Cond.fieldLink RX2 39 "FaultEvidenceModel" "blocks" "[I", Cond.fieldLink RX2 42 "FaultEvidenceModel" "saying" "[I", Cond.methodLink RX2 140 yX2_refusal, Cond.instanceMethod yX2_refusal, Cond.selects RX2 yX2_refusal yX2_refusal, Cond.initialized RX2, Cond.code yX2_refusal cX2_refusal 6 (some .int), Cond.fieldLink RX2 82 "FaultEvidenceModel" "height" "I", Cond.constantLong RX2 136 (7), Cond.constantLong RX2 138 (9), Cond.fieldLink RX2 20 "FaultEvidenceModel" "weights" "[J", Cond.methodLink RX2 121 yX2_isNode, Cond.instanceMethod yX2_isNode, Cond.selects RX2 yX2_isNode yX2_isNode, Cond.code yX2_isNode cX2_isNode 2 (some .boolean), Cond.fieldLink RX2 76 "FaultEvidenceModel" "nodes" "I", Cond.methodLink RX2 117 yX2_in, Cond.static yX2_in, Cond.code yX2_in cX2_in 6 (some .boolean)]
def wsX2_vote_r2 : List Cond := [Cond.methodLink RX2 144 yX2_find, Cond.instanceMethod yX2_find, Cond.selects RX2 yX2_find yX2_find, Cond.code yX2_find cX2_find 7 (some .int), Cond.methodLink RX2 93 yX2_place, Cond.static yX2_place, Cond.code yX2_place cX2_place 4 (some .int)]
def wsX2_vote : List Cond := .code yX2_vote cX2_vote 8 (some .int) :: ((wsX2_vote_r1 ++ wsX2_vote_r2) ++ wsX20)
def wsX2_saidBy : List Cond := .code yX2_saidBy cX2_saidBy 7 (some .int) :: ([.fieldLink RX2 42 "FaultEvidenceModel" "saying" "[I", .methodLink RX2 93 yX2_place, .static yX2_place, .initialized RX2, .code yX2_place cX2_place 4 (some .int)] ++ wsX20)
def wsX2_may_r1 : List Cond := [Cond.methodLink RX2 140 yX2_refusal, Cond.instanceMethod yX2_refusal, Cond.selects RX2 yX2_refusal yX2_refusal, Cond.initialized RX2, Cond.code yX2_refusal cX2_refusal 6 (some .int), Cond.fieldLink RX2 82 "FaultEvidenceModel" "height" "I", Cond.constantLong RX2 136 (7), Cond.constantLong RX2 138 (9), Cond.fieldLink RX2 20 "FaultEvidenceModel" "weights" "[J", Cond.methodLink RX2 121 yX2_isNode, Cond.instanceMethod yX2_isNode, Cond.selects RX2 yX2_isNode yX2_isNode, Cond.code yX2_isNode cX2_isNode 2 (some .boolean), Cond.fieldLink RX2 76 "FaultEvidenceModel" "nodes" "I", Cond.methodLink RX2 117 yX2_in, Cond.static yX2_in, Cond.code yX2_in cX2_in 6 (some .boolean), Cond.methodLink RX2 147 yX2_saidBy, Cond.instanceMethod yX2_saidBy, Cond.selects RX2 yX2_saidBy yX2_saidBy, Cond.code yX2_saidBy cX2_saidBy 7 (some .int), Cond.fieldLink RX2 42 "FaultEvidenceModel" "saying" "[I", Cond.methodLink RX2 93 yX2_place, Cond.static yX2_place]
def wsX2_may_r2 : List Cond := [Cond.code yX2_place cX2_place 4 (some .int), Cond.methodLink RX2 101 yX2_isBacked, Cond.instanceMethod yX2_isBacked, Cond.selects RX2 yX2_isBacked yX2_isBacked, Cond.code yX2_isBacked cX2_isBacked 4 (some .boolean), Cond.methodLink RX2 97 yX2_haveMost, Cond.instanceMethod yX2_haveMost, Cond.selects RX2 yX2_haveMost yX2_haveMost, Cond.code yX2_haveMost cX2_haveMost 3 (some .boolean), Cond.constantLong RX2 85 (3), Cond.constantLong RX2 91 (2), Cond.fieldLink RX2 23 "FaultEvidenceModel" "totals" "[J", Cond.methodLink RX2 87 yX2_weightOf, Cond.instanceMethod yX2_weightOf, Cond.selects RX2 yX2_weightOf yX2_weightOf, Cond.code yX2_weightOf cX2_weightOf 6 (some .long)]
def wsX2_may : List Cond := .code yX2_may cX2_may 10 (some .int) :: ((wsX2_may_r1 ++ wsX2_may_r2) ++ wsX20)
def wsX2_accuse_r1 : List Cond := [Cond.constantLong RX2 124 (-101), Cond.constantLong RX2 91 (2), Cond.constantLong RX2 126 (-102), Cond.constantLong RX2 156 (-105), Cond.fieldLink RX2 30 "FaultEvidenceModel" "when" "[I", Cond.fieldLink RX2 82 "FaultEvidenceModel" "height" "I", Cond.constantLong RX2 158 (-106), Cond.fieldLink RX2 48 "FaultEvidenceModel" "span" "I", Cond.constantLong RX2 160 (-107), Cond.fieldLink RX2 26 "FaultEvidenceModel" "who" "[I", Cond.fieldLink RX2 73 "FaultEvidenceModel" "isDone" "[Z", Cond.constantLong RX2 162 (-108), Cond.fieldLink RX2 7 "FaultEvidenceModel" "stakes" "[J", Cond.fieldLink RX2 45 "FaultEvidenceModel" "rates" "[I", Cond.constantLong RX2 128 (1000), Cond.constantLong RX2 164 (10), Cond.fieldLink RX2 13 "FaultEvidenceModel" "purses" "[J", Cond.fieldLink RX2 166 "FaultEvidenceModel" "burnt" "J", Cond.fieldLink RX2 16 "FaultEvidenceModel" "isOut" "[Z", Cond.fieldLink RX2 132 "FaultEvidenceModel" "least" "J", Cond.fieldLink RX2 52 "FaultEvidenceModel" "takenKind" "[I", Cond.fieldLink RX2 169 "FaultEvidenceModel" "takenMany" "I", Cond.fieldLink RX2 55 "FaultEvidenceModel" "takenA" "[I", Cond.fieldLink RX2 58 "FaultEvidenceModel" "takenB" "[I"]
def wsX2_accuse_r2 : List Cond := [Cond.fieldLink RX2 61 "FaultEvidenceModel" "takenBy" "[I", Cond.fieldLink RX2 64 "FaultEvidenceModel" "takenAt" "[I", Cond.fieldLink RX2 67 "FaultEvidenceModel" "takenCost" "[J", Cond.fieldLink RX2 70 "FaultEvidenceModel" "takenShare" "[J", Cond.methodLink RX2 150 yX2_isVote, Cond.instanceMethod yX2_isVote, Cond.selects RX2 yX2_isVote yX2_isVote, Cond.initialized RX2, Cond.code yX2_isVote cX2_isVote 2 (some .boolean), Cond.fieldLink RX2 79 "FaultEvidenceModel" "votes" "I", Cond.methodLink RX2 121 yX2_isNode, Cond.instanceMethod yX2_isNode, Cond.selects RX2 yX2_isNode yX2_isNode, Cond.code yX2_isNode cX2_isNode 2 (some .boolean), Cond.fieldLink RX2 76 "FaultEvidenceModel" "nodes" "I", Cond.methodLink RX2 117 yX2_in, Cond.static yX2_in, Cond.code yX2_in cX2_in 6 (some .boolean), Cond.methodLink RX2 153 yX2_isBreak, Cond.instanceMethod yX2_isBreak, Cond.selects RX2 yX2_isBreak yX2_isBreak, Cond.code yX2_isBreak cX2_isBreak 4 (some .boolean), Cond.methodLink RX2 105 yX2_isTwice, Cond.instanceMethod yX2_isTwice]
def wsX2_accuse_r3 : List Cond := [Cond.selects RX2 yX2_isTwice yX2_isTwice, Cond.code yX2_isTwice cX2_isTwice 3 (some .boolean), Cond.fieldLink RX2 33 "FaultEvidenceModel" "rounds" "[I", Cond.fieldLink RX2 36 "FaultEvidenceModel" "steps" "[I", Cond.fieldLink RX2 39 "FaultEvidenceModel" "blocks" "[I", Cond.methodLink RX2 108 yX2_isLock, Cond.instanceMethod yX2_isLock, Cond.selects RX2 yX2_isLock yX2_isLock, Cond.code yX2_isLock cX2_isLock 5 (some .boolean), Cond.methodLink RX2 101 yX2_isBacked, Cond.instanceMethod yX2_isBacked, Cond.selects RX2 yX2_isBacked yX2_isBacked, Cond.code yX2_isBacked cX2_isBacked 4 (some .boolean), Cond.fieldLink RX2 42 "FaultEvidenceModel" "saying" "[I", Cond.methodLink RX2 93 yX2_place, Cond.static yX2_place, Cond.code yX2_place cX2_place 4 (some .int), Cond.methodLink RX2 97 yX2_haveMost, Cond.instanceMethod yX2_haveMost, Cond.selects RX2 yX2_haveMost yX2_haveMost, Cond.code yX2_haveMost cX2_haveMost 3 (some .boolean), Cond.constantLong RX2 85 (3), Cond.fieldLink RX2 23 "FaultEvidenceModel" "totals" "[J", Cond.methodLink RX2 87 yX2_weightOf]
def wsX2_accuse_r4 : List Cond := [Cond.instanceMethod yX2_weightOf, Cond.selects RX2 yX2_weightOf yX2_weightOf, Cond.code yX2_weightOf cX2_weightOf 6 (some .long), Cond.fieldLink RX2 20 "FaultEvidenceModel" "weights" "[J", Cond.methodLink RX2 111 yX2_isBare, Cond.instanceMethod yX2_isBare, Cond.selects RX2 yX2_isBare yX2_isBare, Cond.code yX2_isBare cX2_isBare 2 (some .boolean)]
def wsX2_accuse : List Cond := .code yX2_accuse cX2_accuse 12 (some .long) :: ((wsX2_accuse_r1 ++ (wsX2_accuse_r2 ++ (wsX2_accuse_r3 ++ wsX2_accuse_r4))) ++ wsX20)
def wsX2_about : List Cond := .code yX2_about cX2_about 2 (some .long) :: ([.fieldLink RX2 82 "FaultEvidenceModel" "height" "I", .fieldLink RX2 76 "FaultEvidenceModel" "nodes" "I", .fieldLink RX2 79 "FaultEvidenceModel" "votes" "I", .fieldLink RX2 169 "FaultEvidenceModel" "takenMany" "I", .fieldLink RX2 166 "FaultEvidenceModel" "burnt" "J", .fieldLink RX2 48 "FaultEvidenceModel" "span" "I", .fieldLink RX2 132 "FaultEvidenceModel" "least" "J", .fieldLink RX2 45 "FaultEvidenceModel" "rates" "[I", .constantLong RX2 126 (-102)] ++ wsX20)
def wsX2_holds : List Cond := .code yX2_holds cX2_holds 5 (some .long) :: ([.constantLong RX2 124 (-101), .fieldLink RX2 7 "FaultEvidenceModel" "stakes" "[J", .fieldLink RX2 13 "FaultEvidenceModel" "purses" "[J", .fieldLink RX2 16 "FaultEvidenceModel" "isOut" "[Z", .constantLong RX2 126 (-102), .fieldLink RX2 169 "FaultEvidenceModel" "takenMany" "I", .fieldLink RX2 26 "FaultEvidenceModel" "who" "[I", .fieldLink RX2 55 "FaultEvidenceModel" "takenA" "[I", .methodLink RX2 121 yX2_isNode, .instanceMethod yX2_isNode, .selects RX2 yX2_isNode yX2_isNode, .initialized RX2, .code yX2_isNode cX2_isNode 2 (some .boolean), .fieldLink RX2 76 "FaultEvidenceModel" "nodes" "I"] ++ wsX20)
def wsX2_said : List Cond := .code yX2_said cX2_said 3 (some .int) :: ([.fieldLink RX2 26 "FaultEvidenceModel" "who" "[I", .fieldLink RX2 30 "FaultEvidenceModel" "when" "[I", .fieldLink RX2 33 "FaultEvidenceModel" "rounds" "[I", .fieldLink RX2 36 "FaultEvidenceModel" "steps" "[I", .fieldLink RX2 39 "FaultEvidenceModel" "blocks" "[I", .methodLink RX2 150 yX2_isVote, .instanceMethod yX2_isVote, .selects RX2 yX2_isVote yX2_isVote, .initialized RX2, .code yX2_isVote cX2_isVote 2 (some .boolean), .fieldLink RX2 79 "FaultEvidenceModel" "votes" "I"] ++ wsX20)
def wsX2_weight : List Cond := .code yX2_weight cX2_weight 3 (some .long) :: ([.constantLong RX2 124 (-101), .constantLong RX2 126 (-102), .fieldLink RX2 23 "FaultEvidenceModel" "totals" "[J", .fieldLink RX2 20 "FaultEvidenceModel" "weights" "[J", .methodLink RX2 121 yX2_isNode, .instanceMethod yX2_isNode, .selects RX2 yX2_isNode yX2_isNode, .initialized RX2, .code yX2_isNode cX2_isNode 2 (some .boolean), .fieldLink RX2 76 "FaultEvidenceModel" "nodes" "I", .methodLink RX2 172 yX2_isHeight, .instanceMethod yX2_isHeight, .selects RX2 yX2_isHeight yX2_isHeight, .code yX2_isHeight cX2_isHeight 2 (some .boolean), .fieldLink RX2 82 "FaultEvidenceModel" "height" "I"] ++ wsX20)
def wsX2_backed : List Cond := .code yX2_backed cX2_backed 5 (some .long) :: ([.constantLong RX2 136 (7), .constantLong RX2 138 (9), .constantLong RX2 126 (-102), .fieldLink RX2 42 "FaultEvidenceModel" "saying" "[I", .methodLink RX2 172 yX2_isHeight, .instanceMethod yX2_isHeight, .selects RX2 yX2_isHeight yX2_isHeight, .initialized RX2, .code yX2_isHeight cX2_isHeight 2 (some .boolean), .fieldLink RX2 82 "FaultEvidenceModel" "height" "I", .methodLink RX2 117 yX2_in, .static yX2_in, .code yX2_in cX2_in 6 (some .boolean), .methodLink RX2 93 yX2_place, .static yX2_place, .code yX2_place cX2_place 4 (some .int), .methodLink RX2 87 yX2_weightOf, .instanceMethod yX2_weightOf, .selects RX2 yX2_weightOf yX2_weightOf, .code yX2_weightOf cX2_weightOf 6 (some .long), .fieldLink RX2 20 "FaultEvidenceModel" "weights" "[J"] ++ wsX20)
def wsX2_certain_r1 : List Cond := [Cond.methodLink RX2 172 yX2_isHeight, Cond.instanceMethod yX2_isHeight, Cond.selects RX2 yX2_isHeight yX2_isHeight, Cond.initialized RX2, Cond.code yX2_isHeight cX2_isHeight 2 (some .boolean), Cond.fieldLink RX2 82 "FaultEvidenceModel" "height" "I", Cond.methodLink RX2 175 yX2_isCertain, Cond.instanceMethod yX2_isCertain, Cond.selects RX2 yX2_isCertain yX2_isCertain, Cond.code yX2_isCertain cX2_isCertain 5 (some .boolean), Cond.fieldLink RX2 42 "FaultEvidenceModel" "saying" "[I", Cond.methodLink RX2 93 yX2_place, Cond.static yX2_place, Cond.code yX2_place cX2_place 4 (some .int), Cond.methodLink RX2 97 yX2_haveMost, Cond.instanceMethod yX2_haveMost, Cond.selects RX2 yX2_haveMost yX2_haveMost, Cond.code yX2_haveMost cX2_haveMost 3 (some .boolean), Cond.constantLong RX2 85 (3), Cond.constantLong RX2 91 (2), Cond.fieldLink RX2 23 "FaultEvidenceModel" "totals" "[J", Cond.methodLink RX2 87 yX2_weightOf, Cond.instanceMethod yX2_weightOf, Cond.selects RX2 yX2_weightOf yX2_weightOf]
def wsX2_certain_r2 : List Cond := [Cond.code yX2_weightOf cX2_weightOf 6 (some .long), Cond.fieldLink RX2 20 "FaultEvidenceModel" "weights" "[J"]
def wsX2_certain : List Cond := .code yX2_certain cX2_certain 5 (some .int) :: ((wsX2_certain_r1 ++ wsX2_certain_r2) ++ wsX20)
def wsX2_counts_r1 : List Cond := [Cond.fieldLink RX2 30 "FaultEvidenceModel" "when" "[I", Cond.methodLink RX2 153 yX2_isBreak, Cond.instanceMethod yX2_isBreak, Cond.selects RX2 yX2_isBreak yX2_isBreak, Cond.initialized RX2, Cond.code yX2_isBreak cX2_isBreak 4 (some .boolean), Cond.methodLink RX2 105 yX2_isTwice, Cond.instanceMethod yX2_isTwice, Cond.selects RX2 yX2_isTwice yX2_isTwice, Cond.code yX2_isTwice cX2_isTwice 3 (some .boolean), Cond.fieldLink RX2 26 "FaultEvidenceModel" "who" "[I", Cond.fieldLink RX2 33 "FaultEvidenceModel" "rounds" "[I", Cond.fieldLink RX2 36 "FaultEvidenceModel" "steps" "[I", Cond.fieldLink RX2 39 "FaultEvidenceModel" "blocks" "[I", Cond.methodLink RX2 108 yX2_isLock, Cond.instanceMethod yX2_isLock, Cond.selects RX2 yX2_isLock yX2_isLock, Cond.code yX2_isLock cX2_isLock 5 (some .boolean), Cond.methodLink RX2 101 yX2_isBacked, Cond.instanceMethod yX2_isBacked, Cond.selects RX2 yX2_isBacked yX2_isBacked, Cond.code yX2_isBacked cX2_isBacked 4 (some .boolean), Cond.fieldLink RX2 42 "FaultEvidenceModel" "saying" "[I", Cond.methodLink RX2 93 yX2_place]
def wsX2_counts_r2 : List Cond := [Cond.static yX2_place, Cond.code yX2_place cX2_place 4 (some .int), Cond.methodLink RX2 97 yX2_haveMost, Cond.instanceMethod yX2_haveMost, Cond.selects RX2 yX2_haveMost yX2_haveMost, Cond.code yX2_haveMost cX2_haveMost 3 (some .boolean), Cond.constantLong RX2 85 (3), Cond.constantLong RX2 91 (2), Cond.fieldLink RX2 23 "FaultEvidenceModel" "totals" "[J", Cond.methodLink RX2 87 yX2_weightOf, Cond.instanceMethod yX2_weightOf, Cond.selects RX2 yX2_weightOf yX2_weightOf, Cond.code yX2_weightOf cX2_weightOf 6 (some .long), Cond.fieldLink RX2 20 "FaultEvidenceModel" "weights" "[J", Cond.methodLink RX2 111 yX2_isBare, Cond.instanceMethod yX2_isBare, Cond.selects RX2 yX2_isBare yX2_isBare, Cond.code yX2_isBare cX2_isBare 2 (some .boolean)]
def wsX2_counts : List Cond := .code yX2_counts cX2_counts 5 (some .boolean) :: ((wsX2_counts_r1 ++ wsX2_counts_r2) ++ wsX20)
def wsX2_breaks_r1 : List Cond := [Cond.constantLong RX2 91 (2), Cond.fieldLink RX2 79 "FaultEvidenceModel" "votes" "I", Cond.fieldLink RX2 30 "FaultEvidenceModel" "when" "[I", Cond.methodLink RX2 172 yX2_isHeight, Cond.instanceMethod yX2_isHeight, Cond.selects RX2 yX2_isHeight yX2_isHeight, Cond.initialized RX2, Cond.code yX2_isHeight cX2_isHeight 2 (some .boolean), Cond.fieldLink RX2 82 "FaultEvidenceModel" "height" "I", Cond.methodLink RX2 117 yX2_in, Cond.static yX2_in, Cond.code yX2_in cX2_in 6 (some .boolean), Cond.methodLink RX2 178 yX2_counts, Cond.instanceMethod yX2_counts, Cond.selects RX2 yX2_counts yX2_counts, Cond.code yX2_counts cX2_counts 5 (some .boolean), Cond.methodLink RX2 153 yX2_isBreak, Cond.instanceMethod yX2_isBreak, Cond.selects RX2 yX2_isBreak yX2_isBreak, Cond.code yX2_isBreak cX2_isBreak 4 (some .boolean), Cond.methodLink RX2 105 yX2_isTwice, Cond.instanceMethod yX2_isTwice, Cond.selects RX2 yX2_isTwice yX2_isTwice, Cond.code yX2_isTwice cX2_isTwice 3 (some .boolean)]
def wsX2_breaks_r2 : List Cond := [Cond.fieldLink RX2 26 "FaultEvidenceModel" "who" "[I", Cond.fieldLink RX2 33 "FaultEvidenceModel" "rounds" "[I", Cond.fieldLink RX2 36 "FaultEvidenceModel" "steps" "[I", Cond.fieldLink RX2 39 "FaultEvidenceModel" "blocks" "[I", Cond.methodLink RX2 108 yX2_isLock, Cond.instanceMethod yX2_isLock, Cond.selects RX2 yX2_isLock yX2_isLock, Cond.code yX2_isLock cX2_isLock 5 (some .boolean), Cond.methodLink RX2 101 yX2_isBacked, Cond.instanceMethod yX2_isBacked, Cond.selects RX2 yX2_isBacked yX2_isBacked, Cond.code yX2_isBacked cX2_isBacked 4 (some .boolean), Cond.fieldLink RX2 42 "FaultEvidenceModel" "saying" "[I", Cond.methodLink RX2 93 yX2_place, Cond.static yX2_place, Cond.code yX2_place cX2_place 4 (some .int), Cond.methodLink RX2 97 yX2_haveMost, Cond.instanceMethod yX2_haveMost, Cond.selects RX2 yX2_haveMost yX2_haveMost, Cond.code yX2_haveMost cX2_haveMost 3 (some .boolean), Cond.constantLong RX2 85 (3), Cond.fieldLink RX2 23 "FaultEvidenceModel" "totals" "[J", Cond.methodLink RX2 87 yX2_weightOf, Cond.instanceMethod yX2_weightOf]
def wsX2_breaks_r3 : List Cond := [Cond.selects RX2 yX2_weightOf yX2_weightOf, Cond.code yX2_weightOf cX2_weightOf 6 (some .long), Cond.fieldLink RX2 20 "FaultEvidenceModel" "weights" "[J", Cond.methodLink RX2 111 yX2_isBare, Cond.instanceMethod yX2_isBare, Cond.selects RX2 yX2_isBare yX2_isBare, Cond.code yX2_isBare cX2_isBare 2 (some .boolean)]
def wsX2_breaks : List Cond := .code yX2_breaks cX2_breaks 6 (some .int) :: ((wsX2_breaks_r1 ++ (wsX2_breaks_r2 ++ wsX2_breaks_r3)) ++ wsX20)
def wsX2_broken_r1 : List Cond := [Cond.constantLong RX2 91 (2), Cond.fieldLink RX2 79 "FaultEvidenceModel" "votes" "I", Cond.fieldLink RX2 30 "FaultEvidenceModel" "when" "[I", Cond.methodLink RX2 172 yX2_isHeight, Cond.instanceMethod yX2_isHeight, Cond.selects RX2 yX2_isHeight yX2_isHeight, Cond.initialized RX2, Cond.code yX2_isHeight cX2_isHeight 2 (some .boolean), Cond.fieldLink RX2 82 "FaultEvidenceModel" "height" "I", Cond.methodLink RX2 117 yX2_in, Cond.static yX2_in, Cond.code yX2_in cX2_in 6 (some .boolean), Cond.methodLink RX2 178 yX2_counts, Cond.instanceMethod yX2_counts, Cond.selects RX2 yX2_counts yX2_counts, Cond.code yX2_counts cX2_counts 5 (some .boolean), Cond.methodLink RX2 153 yX2_isBreak, Cond.instanceMethod yX2_isBreak, Cond.selects RX2 yX2_isBreak yX2_isBreak, Cond.code yX2_isBreak cX2_isBreak 4 (some .boolean), Cond.methodLink RX2 105 yX2_isTwice, Cond.instanceMethod yX2_isTwice, Cond.selects RX2 yX2_isTwice yX2_isTwice, Cond.code yX2_isTwice cX2_isTwice 3 (some .boolean)]
def wsX2_broken_r2 : List Cond := [Cond.fieldLink RX2 26 "FaultEvidenceModel" "who" "[I", Cond.fieldLink RX2 33 "FaultEvidenceModel" "rounds" "[I", Cond.fieldLink RX2 36 "FaultEvidenceModel" "steps" "[I", Cond.fieldLink RX2 39 "FaultEvidenceModel" "blocks" "[I", Cond.methodLink RX2 108 yX2_isLock, Cond.instanceMethod yX2_isLock, Cond.selects RX2 yX2_isLock yX2_isLock, Cond.code yX2_isLock cX2_isLock 5 (some .boolean), Cond.methodLink RX2 101 yX2_isBacked, Cond.instanceMethod yX2_isBacked, Cond.selects RX2 yX2_isBacked yX2_isBacked, Cond.code yX2_isBacked cX2_isBacked 4 (some .boolean), Cond.fieldLink RX2 42 "FaultEvidenceModel" "saying" "[I", Cond.methodLink RX2 93 yX2_place, Cond.static yX2_place, Cond.code yX2_place cX2_place 4 (some .int), Cond.methodLink RX2 97 yX2_haveMost, Cond.instanceMethod yX2_haveMost, Cond.selects RX2 yX2_haveMost yX2_haveMost, Cond.code yX2_haveMost cX2_haveMost 3 (some .boolean), Cond.constantLong RX2 85 (3), Cond.fieldLink RX2 23 "FaultEvidenceModel" "totals" "[J", Cond.methodLink RX2 87 yX2_weightOf, Cond.instanceMethod yX2_weightOf]
def wsX2_broken_r3 : List Cond := [Cond.selects RX2 yX2_weightOf yX2_weightOf, Cond.code yX2_weightOf cX2_weightOf 6 (some .long), Cond.fieldLink RX2 20 "FaultEvidenceModel" "weights" "[J", Cond.methodLink RX2 111 yX2_isBare, Cond.instanceMethod yX2_isBare, Cond.selects RX2 yX2_isBare yX2_isBare, Cond.code yX2_isBare cX2_isBare 2 (some .boolean)]
def wsX2_broken : List Cond := .code yX2_broken cX2_broken 8 (some .int) :: ((wsX2_broken_r1 ++ (wsX2_broken_r2 ++ wsX2_broken_r3)) ++ wsX20)
def wsX2_named_r1 : List Cond := [Cond.fieldLink RX2 79 "FaultEvidenceModel" "votes" "I", Cond.fieldLink RX2 30 "FaultEvidenceModel" "when" "[I", Cond.fieldLink RX2 26 "FaultEvidenceModel" "who" "[I", Cond.methodLink RX2 172 yX2_isHeight, Cond.instanceMethod yX2_isHeight, Cond.selects RX2 yX2_isHeight yX2_isHeight, Cond.initialized RX2, Cond.code yX2_isHeight cX2_isHeight 2 (some .boolean), Cond.fieldLink RX2 82 "FaultEvidenceModel" "height" "I", Cond.methodLink RX2 178 yX2_counts, Cond.instanceMethod yX2_counts, Cond.selects RX2 yX2_counts yX2_counts, Cond.code yX2_counts cX2_counts 5 (some .boolean), Cond.methodLink RX2 153 yX2_isBreak, Cond.instanceMethod yX2_isBreak, Cond.selects RX2 yX2_isBreak yX2_isBreak, Cond.code yX2_isBreak cX2_isBreak 4 (some .boolean), Cond.methodLink RX2 105 yX2_isTwice, Cond.instanceMethod yX2_isTwice, Cond.selects RX2 yX2_isTwice yX2_isTwice, Cond.code yX2_isTwice cX2_isTwice 3 (some .boolean), Cond.fieldLink RX2 33 "FaultEvidenceModel" "rounds" "[I", Cond.fieldLink RX2 36 "FaultEvidenceModel" "steps" "[I", Cond.fieldLink RX2 39 "FaultEvidenceModel" "blocks" "[I"]
def wsX2_named_r2 : List Cond := [Cond.methodLink RX2 108 yX2_isLock, Cond.instanceMethod yX2_isLock, Cond.selects RX2 yX2_isLock yX2_isLock, Cond.code yX2_isLock cX2_isLock 5 (some .boolean), Cond.methodLink RX2 101 yX2_isBacked, Cond.instanceMethod yX2_isBacked, Cond.selects RX2 yX2_isBacked yX2_isBacked, Cond.code yX2_isBacked cX2_isBacked 4 (some .boolean), Cond.fieldLink RX2 42 "FaultEvidenceModel" "saying" "[I", Cond.methodLink RX2 93 yX2_place, Cond.static yX2_place, Cond.code yX2_place cX2_place 4 (some .int), Cond.methodLink RX2 97 yX2_haveMost, Cond.instanceMethod yX2_haveMost, Cond.selects RX2 yX2_haveMost yX2_haveMost, Cond.code yX2_haveMost cX2_haveMost 3 (some .boolean), Cond.constantLong RX2 85 (3), Cond.constantLong RX2 91 (2), Cond.fieldLink RX2 23 "FaultEvidenceModel" "totals" "[J", Cond.methodLink RX2 87 yX2_weightOf, Cond.instanceMethod yX2_weightOf, Cond.selects RX2 yX2_weightOf yX2_weightOf, Cond.code yX2_weightOf cX2_weightOf 6 (some .long), Cond.fieldLink RX2 20 "FaultEvidenceModel" "weights" "[J"]
def wsX2_named_r3 : List Cond := [Cond.methodLink RX2 111 yX2_isBare, Cond.instanceMethod yX2_isBare, Cond.selects RX2 yX2_isBare yX2_isBare, Cond.code yX2_isBare cX2_isBare 2 (some .boolean)]
def wsX2_named : List Cond := .code yX2_named cX2_named 6 (some .int) :: ((wsX2_named_r1 ++ (wsX2_named_r2 ++ wsX2_named_r3)) ++ wsX20)
def wsX2_taken : List Cond := .code yX2_taken cX2_taken 3 (some .long) :: ([.fieldLink RX2 169 "FaultEvidenceModel" "takenMany" "I", .constantLong RX2 124 (-101), .fieldLink RX2 52 "FaultEvidenceModel" "takenKind" "[I", .fieldLink RX2 55 "FaultEvidenceModel" "takenA" "[I", .fieldLink RX2 58 "FaultEvidenceModel" "takenB" "[I", .fieldLink RX2 61 "FaultEvidenceModel" "takenBy" "[I", .fieldLink RX2 64 "FaultEvidenceModel" "takenAt" "[I", .fieldLink RX2 67 "FaultEvidenceModel" "takenCost" "[J", .fieldLink RX2 70 "FaultEvidenceModel" "takenShare" "[J", .constantLong RX2 126 (-102)] ++ wsX20)
def wsJ9_max_7cf53 : List Cond := .code yJ9_max_7cf53 cJ9_max_7cf53 2 (some .int) :: ([])
def wsJ9_min_7cf53 : List Cond := .code yJ9_min_7cf53 cJ9_min_7cf53 2 (some .int) :: ([])
def wsL_law_r1 : List Cond := [Cond.classLink RL 7 RX1, Cond.instantiable RX1 14, Cond.initialized RX1, Cond.classLink RL 10 RX2, Cond.instantiable RX2 27, Cond.initialized RX2, Cond.constantLong RL 13 (4294967295), Cond.methodLink RL 9 yX1_init, Cond.instanceMethod yX1_init, Cond.code yX1_init cX1_init 1 none, Cond.methodLink RX1 3 objectInit, Cond.instanceMethod objectInit, Cond.code objectInit ⟨#[0xb1]⟩ 1 none, Cond.arrayClass .long, Cond.constantLong RX1 9 (50), Cond.constantLong RX1 11 (100), Cond.constantLong RX1 13 (200), Cond.constantLong RX1 15 (10), Cond.fieldLink RX1 17 "FaultEvidence" "rules" "[J", Cond.fieldLink RX1 21 "FaultEvidence" "stakes" "[J", Cond.fieldLink RX1 24 "FaultEvidence" "purses" "[J", Cond.arrayClass .boolean, Cond.fieldLink RX1 27 "FaultEvidence" "out" "[Z", Cond.fieldLink RX1 31 "FaultEvidence" "nodeCount" "I"]
def wsL_law_r2 : List Cond := [Cond.fieldLink RX1 35 "FaultEvidence" "currentHeight" "I", Cond.fieldLink RX1 38 "FaultEvidence" "weights" "[J", Cond.fieldLink RX1 41 "FaultEvidence" "totals" "[J", Cond.arrayClass .int, Cond.fieldLink RX1 44 "FaultEvidence" "votes" "[I", Cond.fieldLink RX1 48 "FaultEvidence" "voteCount" "I", Cond.fieldLink RX1 51 "FaultEvidence" "backedBlocks" "[I", Cond.fieldLink RX1 54 "FaultEvidence" "certainBlocks" "[I", Cond.classLink RX1 57 RJx4a65c, Cond.instantiable RJx4a65c 3, Cond.initialized RJx4a65c, Cond.fieldLink RX1 60 "FaultEvidence" "takenBreaks" "Ljava/util/ArrayList;", Cond.fieldLink RX1 64 "FaultEvidence" "burnt" "J", Cond.methodLink RX1 59 yJx4a65c_init_da8c8, Cond.instanceMethod yJx4a65c_init_da8c8, Cond.code yJx4a65c_init_da8c8 cJx4a65c_init_da8c8 1 none, Cond.fieldLink RJx4a65c 39 "java/util/ArrayList" "DEFAULTCAPACITY_EMPTY_ELEMENTDATA" "[Ljava/lang/Object;", Cond.fieldLink RJx4a65c 9 "java/util/ArrayList" "elementData" "[Ljava/lang/Object;", Cond.methodLink RJx4a65c 1 yJxc12de_init_da8c8, Cond.instanceMethod yJxc12de_init_da8c8, Cond.initialized RJxc12de, Cond.code yJxc12de_init_da8c8 cJxc12de_init_da8c8 1 none, Cond.fieldLink RJxc12de 7 "java/util/AbstractList" "modCount" "I", Cond.methodLink RJxc12de 1 yJxa1e45_init_da8c8]
def wsL_law_r3 : List Cond := [Cond.instanceMethod yJxa1e45_init_da8c8, Cond.initialized RJxa1e45, Cond.code yJxa1e45_init_da8c8 cJxa1e45_init_da8c8 1 none, Cond.methodLink RJxa1e45 1 objectInit, Cond.methodLink RL 12 yX2_init, Cond.instanceMethod yX2_init, Cond.code yX2_init cX2_init 1 none, Cond.methodLink RX2 1 objectInit, Cond.fieldLink RX2 7 "FaultEvidenceModel" "stakes" "[J", Cond.fieldLink RX2 13 "FaultEvidenceModel" "purses" "[J", Cond.fieldLink RX2 16 "FaultEvidenceModel" "isOut" "[Z", Cond.fieldLink RX2 20 "FaultEvidenceModel" "weights" "[J", Cond.fieldLink RX2 23 "FaultEvidenceModel" "totals" "[J", Cond.fieldLink RX2 26 "FaultEvidenceModel" "who" "[I", Cond.fieldLink RX2 30 "FaultEvidenceModel" "when" "[I", Cond.fieldLink RX2 33 "FaultEvidenceModel" "rounds" "[I", Cond.fieldLink RX2 36 "FaultEvidenceModel" "steps" "[I", Cond.fieldLink RX2 39 "FaultEvidenceModel" "blocks" "[I", Cond.fieldLink RX2 42 "FaultEvidenceModel" "saying" "[I", Cond.fieldLink RX2 45 "FaultEvidenceModel" "rates" "[I", Cond.fieldLink RX2 48 "FaultEvidenceModel" "span" "I", Cond.fieldLink RX2 52 "FaultEvidenceModel" "takenKind" "[I", Cond.fieldLink RX2 55 "FaultEvidenceModel" "takenA" "[I", Cond.fieldLink RX2 58 "FaultEvidenceModel" "takenB" "[I"]
def wsL_law_r4 : List Cond := [Cond.fieldLink RX2 61 "FaultEvidenceModel" "takenBy" "[I", Cond.fieldLink RX2 64 "FaultEvidenceModel" "takenAt" "[I", Cond.fieldLink RX2 67 "FaultEvidenceModel" "takenCost" "[J", Cond.fieldLink RX2 70 "FaultEvidenceModel" "takenShare" "[J", Cond.fieldLink RX2 73 "FaultEvidenceModel" "isDone" "[Z", Cond.methodLink RL 15 yX1_node, Cond.instanceMethod yX1_node, Cond.selects RX1 yX1_node yX1_node, Cond.code yX1_node cX1_node 3 (some .int), Cond.constantLong RX1 68 (1000000000), Cond.methodLink RL 19 yX2_node, Cond.instanceMethod yX2_node, Cond.selects RX2 yX2_node yX2_node, Cond.code yX2_node cX2_node 3 (some .int), Cond.constantLong RX2 115 (1000000000), Cond.fieldLink RX2 76 "FaultEvidenceModel" "nodes" "I", Cond.methodLink RX2 117 yX2_in, Cond.static yX2_in, Cond.code yX2_in cX2_in 6 (some .boolean), Cond.methodLink RL 20 yX1_add, Cond.instanceMethod yX1_add, Cond.selects RX1 yX1_add yX1_add, Cond.code yX1_add cX1_add 4 (some .long), Cond.constantLong RX1 74 (-101)]
def wsL_law_r5 : List Cond := [Cond.constantLong RX1 76 (-102), Cond.methodLink RX1 70 yX1_isNode, Cond.instanceMethod yX1_isNode, Cond.selects RX1 yX1_isNode yX1_isNode, Cond.code yX1_isNode cX1_isNode 2 (some .boolean), Cond.methodLink RL 24 yX2_add, Cond.instanceMethod yX2_add, Cond.selects RX2 yX2_add yX2_add, Cond.code yX2_add cX2_add 4 (some .long), Cond.constantLong RX2 124 (-101), Cond.constantLong RX2 126 (-102), Cond.methodLink RX2 121 yX2_isNode, Cond.instanceMethod yX2_isNode, Cond.selects RX2 yX2_isNode yX2_isNode, Cond.code yX2_isNode cX2_isNode 2 (some .boolean), Cond.methodLink RL 25 yX1_next, Cond.instanceMethod yX1_next, Cond.selects RX1 yX1_next yX1_next, Cond.code yX1_next cX1_next 1 (some .int), Cond.methodLink RX1 78 yX1_weighNodes, Cond.instanceMethod yX1_weighNodes, Cond.selects RX1 yX1_weighNodes yX1_weighNodes, Cond.code yX1_weighNodes cX1_weighNodes 7 none, Cond.methodLink RX1 153 yX1_weightIndex]
def wsL_law_r6 : List Cond := [Cond.static yX1_weightIndex, Cond.code yX1_weightIndex cX1_weightIndex 2 (some .int), Cond.methodLink RL 29 yX2_next, Cond.instanceMethod yX2_next, Cond.selects RX2 yX2_next yX2_next, Cond.code yX2_next cX2_next 4 (some .int), Cond.fieldLink RX2 82 "FaultEvidenceModel" "height" "I", Cond.methodLink RL 30 yX1_set, Cond.instanceMethod yX1_set, Cond.selects RX1 yX1_set yX1_set, Cond.code yX1_set cX1_set 6 (some .long), Cond.fieldLink RX1 82 "FaultEvidence" "RULE_FROM" "[J", Cond.fieldLink RX1 85 "FaultEvidence" "RULE_TO" "[J", Cond.methodLink RL 33 yX2_set, Cond.instanceMethod yX2_set, Cond.selects RX2 yX2_set yX2_set, Cond.code yX2_set cX2_set 6 (some .long), Cond.constantLong RX2 128 (1000), Cond.constantLong RX2 91 (2), Cond.constantLong RX2 130 (20), Cond.fieldLink RX2 132 "FaultEvidenceModel" "least" "J", Cond.methodLink RL 34 yX1_vote, Cond.instanceMethod yX1_vote, Cond.selects RX1 yX1_vote yX1_vote]
def wsL_law_r7 : List Cond := [Cond.code yX1_vote cX1_vote 9 (some .int), Cond.methodLink RX1 88 yX1_voteRefusal, Cond.instanceMethod yX1_voteRefusal, Cond.selects RX1 yX1_voteRefusal yX1_voteRefusal, Cond.code yX1_voteRefusal cX1_voteRefusal 6 (some .int), Cond.methodLink RX1 209 yX1_isOpen, Cond.instanceMethod yX1_isOpen, Cond.selects RX1 yX1_isOpen yX1_isOpen, Cond.code yX1_isOpen cX1_isOpen 2 (some .boolean), Cond.methodLink RX1 150 yX1_hasBegun, Cond.instanceMethod yX1_hasBegun, Cond.selects RX1 yX1_hasBegun yX1_hasBegun, Cond.code yX1_hasBegun cX1_hasBegun 2 (some .boolean), Cond.methodLink RX1 156 yX1_isSayable, Cond.static yX1_isSayable, Cond.code yX1_isSayable cX1_isSayable 3 (some .boolean), Cond.methodLink RX1 92 yX1_packed, Cond.static yX1_packed, Cond.code yX1_packed cX1_packed 5 (some .int), Cond.methodLink RX1 95 yX1_numberOf, Cond.instanceMethod yX1_numberOf, Cond.selects RX1 yX1_numberOf yX1_numberOf, Cond.code yX1_numberOf cX1_numberOf 3 (some .int), Cond.methodLink RX1 99 yX1_keep]
def wsL_law_r8 : List Cond := [Cond.instanceMethod yX1_keep, Cond.selects RX1 yX1_keep yX1_keep, Cond.code yX1_keep cX1_keep 2 none, Cond.methodLink RX1 144 yX1_blockOf, Cond.static yX1_blockOf, Cond.code yX1_blockOf cX1_blockOf 1 (some .int), Cond.methodLink RX1 135 yX1_heightOf, Cond.static yX1_heightOf, Cond.code yX1_heightOf cX1_heightOf 1 (some .int), Cond.methodLink RX1 160 yX1_weightFor, Cond.instanceMethod yX1_weightFor, Cond.selects RX1 yX1_weightFor yX1_weightFor, Cond.code yX1_weightFor cX1_weightFor 7 (some .long), Cond.methodLink RX1 132 yX1_nodeOf, Cond.static yX1_nodeOf, Cond.code yX1_nodeOf cX1_nodeOf 1 (some .int), Cond.methodLink RX1 212 yX1_isTheMost, Cond.instanceMethod yX1_isTheMost, Cond.selects RX1 yX1_isTheMost yX1_isTheMost, Cond.code yX1_isTheMost cX1_isTheMost 4 (some .boolean), Cond.constantLong RX1 205 (3), Cond.constantLong RX1 207 (2), Cond.methodLink RX1 216 yX1_noteTheMost, Cond.instanceMethod yX1_noteTheMost]
def wsL_law_r9 : List Cond := [Cond.selects RX1 yX1_noteTheMost yX1_noteTheMost, Cond.code yX1_noteTheMost cX1_noteTheMost 3 none, Cond.methodLink RX1 141 yX1_stepOf, Cond.static yX1_stepOf, Cond.code yX1_stepOf cX1_stepOf 1 (some .int), Cond.methodLink RX1 138 yX1_roundOf, Cond.static yX1_roundOf, Cond.code yX1_roundOf cX1_roundOf 1 (some .int), Cond.methodLink RL 38 yX2_vote, Cond.instanceMethod yX2_vote, Cond.selects RX2 yX2_vote yX2_vote, Cond.code yX2_vote cX2_vote 8 (some .int), Cond.fieldLink RX2 79 "FaultEvidenceModel" "votes" "I", Cond.methodLink RX2 140 yX2_refusal, Cond.instanceMethod yX2_refusal, Cond.selects RX2 yX2_refusal yX2_refusal, Cond.code yX2_refusal cX2_refusal 6 (some .int), Cond.constantLong RX2 136 (7), Cond.constantLong RX2 138 (9), Cond.methodLink RX2 144 yX2_find, Cond.instanceMethod yX2_find, Cond.selects RX2 yX2_find yX2_find, Cond.code yX2_find cX2_find 7 (some .int), Cond.methodLink RX2 93 yX2_place]
def wsL_law_r10 : List Cond := [Cond.static yX2_place, Cond.code yX2_place cX2_place 4 (some .int), Cond.methodLink RL 39 yX1_may, Cond.instanceMethod yX1_may, Cond.selects RX1 yX1_may yX1_may, Cond.code yX1_may cX1_may 7 (some .int), Cond.methodLink RX1 102 yX1_makesBreak, Cond.instanceMethod yX1_makesBreak, Cond.selects RX1 yX1_makesBreak yX1_makesBreak, Cond.code yX1_makesBreak cX1_makesBreak 4 (some .boolean), Cond.methodLink RX1 238 yX1_isBare, Cond.instanceMethod yX1_isBare, Cond.selects RX1 yX1_isBare yX1_isBare, Cond.code yX1_isBare cX1_isBare 2 (some .boolean), Cond.methodLink RX1 219 yX1_isLocking, Cond.static yX1_isLocking, Cond.code yX1_isLocking cX1_isLocking 1 (some .boolean), Cond.methodLink RX1 229 yX1_isBacked, Cond.instanceMethod yX1_isBacked, Cond.selects RX1 yX1_isBacked yX1_isBacked, Cond.code yX1_isBacked cX1_isBacked 4 (some .boolean), Cond.methodLink RX1 164 yX1_hasBlock, Cond.static yX1_hasBlock, Cond.code yX1_hasBlock cX1_hasBlock 2 (some .boolean)]
def wsL_law_r11 : List Cond := [Cond.methodLink RX1 222 yX1_voterOf, Cond.static yX1_voterOf, Cond.code yX1_voterOf cX1_voterOf 1 (some .int), Cond.methodLink RX1 241 yX1_isClash, Cond.instanceMethod yX1_isClash, Cond.selects RX1 yX1_isClash yX1_isClash, Cond.code yX1_isClash cX1_isClash 3 (some .boolean), Cond.methodLink RX1 232 yX1_isTwice, Cond.static yX1_isTwice, Cond.code yX1_isTwice cX1_isTwice 2 (some .boolean), Cond.methodLink RX1 235 yX1_isLock, Cond.instanceMethod yX1_isLock, Cond.selects RX1 yX1_isLock yX1_isLock, Cond.code yX1_isLock cX1_isLock 4 (some .boolean), Cond.methodLink RX1 225 yX1_isUnlocked, Cond.instanceMethod yX1_isUnlocked, Cond.selects RX1 yX1_isUnlocked yX1_isUnlocked, Cond.code yX1_isUnlocked cX1_isUnlocked 6 (some .boolean), Cond.methodLink RL 42 yX2_may, Cond.instanceMethod yX2_may, Cond.selects RX2 yX2_may yX2_may, Cond.code yX2_may cX2_may 10 (some .int), Cond.methodLink RX2 147 yX2_saidBy, Cond.instanceMethod yX2_saidBy]
def wsL_law_r12 : List Cond := [Cond.selects RX2 yX2_saidBy yX2_saidBy, Cond.code yX2_saidBy cX2_saidBy 7 (some .int), Cond.methodLink RX2 101 yX2_isBacked, Cond.instanceMethod yX2_isBacked, Cond.selects RX2 yX2_isBacked yX2_isBacked, Cond.code yX2_isBacked cX2_isBacked 4 (some .boolean), Cond.methodLink RX2 97 yX2_haveMost, Cond.instanceMethod yX2_haveMost, Cond.selects RX2 yX2_haveMost yX2_haveMost, Cond.code yX2_haveMost cX2_haveMost 3 (some .boolean), Cond.constantLong RX2 85 (3), Cond.methodLink RX2 87 yX2_weightOf, Cond.instanceMethod yX2_weightOf, Cond.selects RX2 yX2_weightOf yX2_weightOf, Cond.code yX2_weightOf cX2_weightOf 6 (some .long), Cond.methodLink RL 43 yX1_accuse, Cond.instanceMethod yX1_accuse, Cond.selects RX1 yX1_accuse yX1_accuse, Cond.code yX1_accuse cX1_accuse 6 (some .long), Cond.methodLink RX1 109 Lib.Math.min.name, Cond.static Lib.Math.min.name, Cond.initialized "java/lang/Math", Cond.code Lib.Math.min.name Lib.Math.min.code 2 (some .int), Cond.methodLink RX1 115 Lib.Math.max.name]
def wsL_law_r13 : List Cond := [Cond.static Lib.Math.max.name, Cond.code Lib.Math.max.name Lib.Math.max.code 2 (some .int), Cond.methodLink RX1 105 yX1_accuseRefusal, Cond.instanceMethod yX1_accuseRefusal, Cond.selects RX1 yX1_accuseRefusal yX1_accuseRefusal, Cond.code yX1_accuseRefusal cX1_accuseRefusal 6 (some .int), Cond.methodLink RX1 129 yX1_isVote, Cond.instanceMethod yX1_isVote, Cond.selects RX1 yX1_isVote yX1_isVote, Cond.code yX1_isVote cX1_isVote 2 (some .boolean), Cond.methodLink RX1 147 yX1_isNodeOrNone, Cond.instanceMethod yX1_isNodeOrNone, Cond.selects RX1 yX1_isNodeOrNone yX1_isNodeOrNone, Cond.code yX1_isNodeOrNone cX1_isNodeOrNone 2 (some .boolean), Cond.methodLink RX1 168 yX1_isKind, Cond.static yX1_isKind, Cond.code yX1_isKind cX1_isKind 1 (some .boolean), Cond.methodLink RX1 247 yX1_isPair, Cond.instanceMethod yX1_isPair, Cond.selects RX1 yX1_isPair yX1_isPair, Cond.code yX1_isPair cX1_isPair 4 (some .boolean), Cond.methodLink RX1 250 yX1_wasTaken, Cond.instanceMethod yX1_wasTaken, Cond.selects RX1 yX1_wasTaken yX1_wasTaken]
def wsL_law_r14 : List Cond := [Cond.code yX1_wasTaken cX1_wasTaken 5 (some .boolean), Cond.classLink RX1 182 "FaultEvidence$Taken", Cond.methodLink RX1 122 yJx4a65c_size_8abf5, Cond.instanceMethod yJx4a65c_size_8abf5, Cond.selects RJx4a65c yJx4a65c_size_8abf5 yJx4a65c_size_8abf5, Cond.code yJx4a65c_size_8abf5 cJx4a65c_size_8abf5 1 (some .int), Cond.fieldLink RJx4a65c 48 "java/util/ArrayList" "size" "I", Cond.methodLink RX1 178 yJx4a65c_get_915e3, Cond.instanceMethod yJx4a65c_get_915e3, Cond.selects RJx4a65c yJx4a65c_get_915e3 yJx4a65c_get_915e3, Cond.code yJx4a65c_get_915e3 cJx4a65c_get_915e3 2 (some (.object "java/lang/Object")), Cond.methodLink RJx4a65c 118 yJ15_checkIndex_7cf53, Cond.static yJ15_checkIndex_7cf53, Cond.initialized RJ15, Cond.code yJ15_checkIndex_7cf53 cJ15_checkIndex_7cf53 2 (some .int), Cond.methodLink RJ15 105 yJ3_checkIndex_8e157, Cond.static yJ3_checkIndex_8e157, Cond.initialized RJ3, Cond.code yJ3_checkIndex_8e157 cJ3_checkIndex_8e157 3 (some .int), Cond.methodLink RJx4a65c 123 yJx4a65c_elementData_915e3, Cond.instanceMethod yJx4a65c_elementData_915e3, Cond.selects RJx4a65c yJx4a65c_elementData_915e3 yJx4a65c_elementData_915e3, Cond.code yJx4a65c_elementData_915e3 cJx4a65c_elementData_915e3 2 (some (.object "java/lang/Object")), Cond.methodLink RX1 118 yX1_take]
def wsL_law_r15 : List Cond := [Cond.instanceMethod yX1_take, Cond.selects RX1 yX1_take yX1_take, Cond.code yX1_take cX1_take 10 (some .long), Cond.constantLong RX1 253 (1000), Cond.classLink RX1 182 RX0, Cond.instantiable RX0 7, Cond.initialized RX0, Cond.instanceMethod yX0_init, Cond.code yX0_init cX0_init 10 none, Cond.methodLink RX0 1 objectInit, Cond.fieldLink RX0 7 "FaultEvidence$Taken" "kind" "I", Cond.fieldLink RX0 13 "FaultEvidence$Taken" "first" "I", Cond.fieldLink RX0 16 "FaultEvidence$Taken" "second" "I", Cond.fieldLink RX0 19 "FaultEvidence$Taken" "accuser" "I", Cond.fieldLink RX0 22 "FaultEvidence$Taken" "heightThen" "I", Cond.fieldLink RX0 25 "FaultEvidence$Taken" "cost" "J", Cond.fieldLink RX0 29 "FaultEvidence$Taken" "reward" "J", Cond.methodLink RX1 258 yJx4a65c_add_9ea2d, Cond.instanceMethod yJx4a65c_add_9ea2d, Cond.selects RJx4a65c yJx4a65c_add_9ea2d yJx4a65c_add_9ea2d, Cond.code yJx4a65c_add_9ea2d cJx4a65c_add_9ea2d 2 (some .boolean), Cond.fieldLink RJx4a65c 63 "java/util/ArrayList" "modCount" "I", Cond.sameField "java/util/ArrayList" "java/util/AbstractList" "modCount" "I", Cond.methodLink RJx4a65c 131 yJx4a65c_add_72be8]
def wsL_law_r16 : List Cond := [Cond.instanceMethod yJx4a65c_add_72be8, Cond.selects RJx4a65c yJx4a65c_add_72be8 yJx4a65c_add_72be8, Cond.code yJx4a65c_add_72be8 cJx4a65c_add_72be8 4 none, Cond.methodLink RJx4a65c 129 yJx4a65c_grow_d5877, Cond.instanceMethod yJx4a65c_grow_d5877, Cond.selects RJx4a65c yJx4a65c_grow_d5877 yJx4a65c_grow_d5877, Cond.code yJx4a65c_grow_d5877 cJx4a65c_grow_d5877 1 (some (.array (.object "java/lang/Object"))), Cond.methodLink RJx4a65c 69 yJx4a65c_grow_92f84, Cond.instanceMethod yJx4a65c_grow_92f84, Cond.selects RJx4a65c yJx4a65c_grow_92f84 yJx4a65c_grow_92f84, Cond.code yJx4a65c_grow_92f84 cJx4a65c_grow_92f84 4 (some (.array (.object "java/lang/Object"))), Cond.methodLink RJx4a65c 79 Lib.Math.max.name, Cond.classLink RJx4a65c 7 "java/lang/Object", Cond.methodLink RJx4a65c 73 yJ8_newLength_cabcc, Cond.static yJ8_newLength_cabcc, Cond.initialized RJ8, Cond.code yJ8_newLength_cabcc cJ8_newLength_cabcc 4 (some .int), Cond.methodLink RJ8 194 Lib.Math.max.name, Cond.constant RJ8 200 (2147483639), Cond.methodLink RJ8 201 yJ8_hugeLength_7cf53, Cond.static yJ8_hugeLength_7cf53, Cond.code yJ8_hugeLength_7cf53 cJ8_hugeLength_7cf53 3 (some .int), Cond.methodLink RJx4a65c 66 yJ7_copyOf_1904c, Cond.static yJ7_copyOf_1904c]
def wsL_law_r17 : List Cond := [Cond.initialized RJ7, Cond.code yJ7_copyOf_1904c cJ7_copyOf_1904c 2 (some (.array (.object "java/lang/Object"))), Cond.methodLink RJ7 86 ⟨"java/lang/Object", "getClass", "()Ljava/lang/Class;"⟩, Cond.selects "[Ljava/lang/Object;" ⟨"java/lang/Object", "getClass", "()Ljava/lang/Class;"⟩ ⟨"java/lang/Object", "getClass", "()Ljava/lang/Class;"⟩, Cond.instanceMethod ⟨"java/lang/Object", "getClass", "()Ljava/lang/Class;"⟩, Cond.native ⟨"java/lang/Object", "getClass", "()Ljava/lang/Class;"⟩, Cond.methodLink RJ7 300 yJ7_copyOf_6403c, Cond.static yJ7_copyOf_6403c, Cond.code yJ7_copyOf_6403c cJ7_copyOf_6403c 4 (some (.array (.object "java/lang/Object"))), Cond.classLink RJ7 110 "[Ljava/lang/Object;", Cond.classLink RJ7 2 "java/lang/Object", Cond.methodLink RJ7 304 Lib.Math.min.name, Cond.methodLink RJ7 150 arraycopyName, Cond.native arraycopyName, Cond.static arraycopyName, Cond.initialized "java/lang/System", Cond.methodLink RL 47 yX2_accuse, Cond.instanceMethod yX2_accuse, Cond.selects RX2 yX2_accuse yX2_accuse, Cond.code yX2_accuse cX2_accuse 12 (some .long), Cond.constantLong RX2 156 (-105), Cond.constantLong RX2 158 (-106), Cond.constantLong RX2 160 (-107), Cond.constantLong RX2 162 (-108)]
def wsL_law_r18 : List Cond := [Cond.constantLong RX2 164 (10), Cond.fieldLink RX2 166 "FaultEvidenceModel" "burnt" "J", Cond.fieldLink RX2 169 "FaultEvidenceModel" "takenMany" "I", Cond.methodLink RX2 150 yX2_isVote, Cond.instanceMethod yX2_isVote, Cond.selects RX2 yX2_isVote yX2_isVote, Cond.code yX2_isVote cX2_isVote 2 (some .boolean), Cond.methodLink RX2 153 yX2_isBreak, Cond.instanceMethod yX2_isBreak, Cond.selects RX2 yX2_isBreak yX2_isBreak, Cond.code yX2_isBreak cX2_isBreak 4 (some .boolean), Cond.methodLink RX2 105 yX2_isTwice, Cond.instanceMethod yX2_isTwice, Cond.selects RX2 yX2_isTwice yX2_isTwice, Cond.code yX2_isTwice cX2_isTwice 3 (some .boolean), Cond.methodLink RX2 108 yX2_isLock, Cond.instanceMethod yX2_isLock, Cond.selects RX2 yX2_isLock yX2_isLock, Cond.code yX2_isLock cX2_isLock 5 (some .boolean), Cond.methodLink RX2 111 yX2_isBare, Cond.instanceMethod yX2_isBare, Cond.selects RX2 yX2_isBare yX2_isBare, Cond.code yX2_isBare cX2_isBare 2 (some .boolean), Cond.methodLink RL 48 yX1_about]
def wsL_law_r19 : List Cond := [Cond.instanceMethod yX1_about, Cond.selects RX1 yX1_about yX1_about, Cond.code yX1_about cX1_about 2 (some .long), Cond.methodLink RL 52 yX2_about, Cond.instanceMethod yX2_about, Cond.selects RX2 yX2_about yX2_about, Cond.code yX2_about cX2_about 2 (some .long), Cond.methodLink RL 53 yX1_holds, Cond.instanceMethod yX1_holds, Cond.selects RX1 yX1_holds yX1_holds, Cond.code yX1_holds cX1_holds 3 (some .long), Cond.methodLink RX1 126 yX1_countTakenOf, Cond.instanceMethod yX1_countTakenOf, Cond.selects RX1 yX1_countTakenOf yX1_countTakenOf, Cond.code yX1_countTakenOf cX1_countTakenOf 4 (some .int), Cond.methodLink RL 57 yX2_holds, Cond.instanceMethod yX2_holds, Cond.selects RX2 yX2_holds yX2_holds, Cond.code yX2_holds cX2_holds 5 (some .long), Cond.methodLink RL 58 yX1_said, Cond.instanceMethod yX1_said, Cond.selects RX1 yX1_said yX1_said, Cond.code yX1_said cX1_said 3 (some .int), Cond.methodLink RL 62 yX2_said]
def wsL_law_r20 : List Cond := [Cond.instanceMethod yX2_said, Cond.selects RX2 yX2_said yX2_said, Cond.code yX2_said cX2_said 3 (some .int), Cond.methodLink RL 63 yX1_weight, Cond.instanceMethod yX1_weight, Cond.selects RX1 yX1_weight yX1_weight, Cond.code yX1_weight cX1_weight 3 (some .long), Cond.methodLink RL 66 yX2_weight, Cond.instanceMethod yX2_weight, Cond.selects RX2 yX2_weight yX2_weight, Cond.code yX2_weight cX2_weight 3 (some .long), Cond.methodLink RX2 172 yX2_isHeight, Cond.instanceMethod yX2_isHeight, Cond.selects RX2 yX2_isHeight yX2_isHeight, Cond.code yX2_isHeight cX2_isHeight 2 (some .boolean), Cond.methodLink RL 67 yX1_backed, Cond.instanceMethod yX1_backed, Cond.selects RX1 yX1_backed yX1_backed, Cond.code yX1_backed cX1_backed 5 (some .long), Cond.methodLink RL 70 yX2_backed, Cond.instanceMethod yX2_backed, Cond.selects RX2 yX2_backed yX2_backed, Cond.code yX2_backed cX2_backed 5 (some .long), Cond.methodLink RL 71 yX1_certain]
def wsL_law_r21 : List Cond := [Cond.instanceMethod yX1_certain, Cond.selects RX1 yX1_certain yX1_certain, Cond.code yX1_certain cX1_certain 5 (some .int), Cond.methodLink RL 74 yX2_certain, Cond.instanceMethod yX2_certain, Cond.selects RX2 yX2_certain yX2_certain, Cond.code yX2_certain cX2_certain 5 (some .int), Cond.methodLink RX2 175 yX2_isCertain, Cond.instanceMethod yX2_isCertain, Cond.selects RX2 yX2_isCertain yX2_isCertain, Cond.code yX2_isCertain cX2_isCertain 5 (some .boolean), Cond.methodLink RL 75 yX1_breaks, Cond.instanceMethod yX1_breaks, Cond.selects RX1 yX1_breaks yX1_breaks, Cond.code yX1_breaks cX1_breaks 5 (some .int), Cond.methodLink RX1 171 yX1_countBreaksFrom, Cond.instanceMethod yX1_countBreaksFrom, Cond.selects RX1 yX1_countBreaksFrom yX1_countBreaksFrom, Cond.code yX1_countBreaksFrom cX1_countBreaksFrom 7 (some .int), Cond.methodLink RX1 244 yX1_firstPartner, Cond.static yX1_firstPartner, Cond.code yX1_firstPartner cX1_firstPartner 2 (some .int), Cond.methodLink RL 78 yX2_breaks, Cond.instanceMethod yX2_breaks]
def wsL_law_r22 : List Cond := [Cond.selects RX2 yX2_breaks yX2_breaks, Cond.code yX2_breaks cX2_breaks 6 (some .int), Cond.methodLink RX2 178 yX2_counts, Cond.instanceMethod yX2_counts, Cond.selects RX2 yX2_counts yX2_counts, Cond.code yX2_counts cX2_counts 5 (some .boolean), Cond.methodLink RL 79 yX1_broken, Cond.instanceMethod yX1_broken, Cond.selects RX1 yX1_broken yX1_broken, Cond.code yX1_broken cX1_broken 8 (some .int), Cond.methodLink RX1 174 yX1_partner, Cond.instanceMethod yX1_partner, Cond.selects RX1 yX1_partner yX1_partner, Cond.code yX1_partner cX1_partner 6 (some .int), Cond.methodLink RL 83 yX2_broken, Cond.instanceMethod yX2_broken, Cond.selects RX2 yX2_broken yX2_broken, Cond.code yX2_broken cX2_broken 8 (some .int), Cond.methodLink RL 84 yX1_named, Cond.instanceMethod yX1_named, Cond.selects RX1 yX1_named yX1_named, Cond.code yX1_named cX1_named 5 (some .int), Cond.methodLink RL 88 yX2_named, Cond.instanceMethod yX2_named]
def wsL_law_r23 : List Cond := [Cond.selects RX2 yX2_named yX2_named, Cond.code yX2_named cX2_named 6 (some .int), Cond.methodLink RL 89 yX1_taken, Cond.instanceMethod yX1_taken, Cond.selects RX1 yX1_taken yX1_taken, Cond.code yX1_taken cX1_taken 4 (some .long), Cond.methodLink RL 92 yX2_taken, Cond.instanceMethod yX2_taken, Cond.selects RX2 yX2_taken yX2_taken, Cond.code yX2_taken cX2_taken 3 (some .long)]
def wsL_law : List Cond := (wsL_law_r1 ++ (wsL_law_r2 ++ (wsL_law_r3 ++ (wsL_law_r4 ++ (wsL_law_r5 ++ (wsL_law_r6 ++ (wsL_law_r7 ++ (wsL_law_r8 ++ (wsL_law_r9 ++ (wsL_law_r10 ++ (wsL_law_r11 ++ (wsL_law_r12 ++ (wsL_law_r13 ++ (wsL_law_r14 ++ (wsL_law_r15 ++ (wsL_law_r16 ++ (wsL_law_r17 ++ (wsL_law_r18 ++ (wsL_law_r19 ++ (wsL_law_r20 ++ (wsL_law_r21 ++ (wsL_law_r22 ++ wsL_law_r23)))))))))))))))))))))) ++ wsX10 ++ wsX20 ++ wsJx4a65c0 ++ wsX00 ++ ([] : List Cond)
end
section
theorem dX0_init_0 : decode cX0_init 0 = .ok (.aload_n 0, 1) := by decide +kernel
theorem dX0_init_1 : decode cX0_init 1 = .ok (.invokespecial 1, 3) := by decide +kernel
theorem dX0_init_4 : decode cX0_init 4 = .ok (.aload_n 0, 1) := by decide +kernel
theorem dX0_init_5 : decode cX0_init 5 = .ok (.iload_n 1, 1) := by decide +kernel
theorem dX0_init_6 : decode cX0_init 6 = .ok (.putfield 7, 3) := by decide +kernel
theorem dX0_init_9 : decode cX0_init 9 = .ok (.aload_n 0, 1) := by decide +kernel
theorem dX0_init_10 : decode cX0_init 10 = .ok (.iload_n 2, 1) := by decide +kernel
theorem dX0_init_11 : decode cX0_init 11 = .ok (.putfield 13, 3) := by decide +kernel
theorem dX0_init_14 : decode cX0_init 14 = .ok (.aload_n 0, 1) := by decide +kernel
theorem dX0_init_15 : decode cX0_init 15 = .ok (.iload_n 3, 1) := by decide +kernel
theorem dX0_init_16 : decode cX0_init 16 = .ok (.putfield 16, 3) := by decide +kernel
theorem dX0_init_19 : decode cX0_init 19 = .ok (.aload_n 0, 1) := by decide +kernel
theorem dX0_init_20 : decode cX0_init 20 = .ok (.iload 4, 2) := by decide +kernel
theorem dX0_init_22 : decode cX0_init 22 = .ok (.putfield 19, 3) := by decide +kernel
theorem dX0_init_25 : decode cX0_init 25 = .ok (.aload_n 0, 1) := by decide +kernel
theorem dX0_init_26 : decode cX0_init 26 = .ok (.iload 5, 2) := by decide +kernel
theorem dX0_init_28 : decode cX0_init 28 = .ok (.putfield 22, 3) := by decide +kernel
theorem dX0_init_31 : decode cX0_init 31 = .ok (.aload_n 0, 1) := by decide +kernel
theorem dX0_init_32 : decode cX0_init 32 = .ok (.lload 6, 2) := by decide +kernel
theorem dX0_init_34 : decode cX0_init 34 = .ok (.putfield 25, 3) := by decide +kernel
theorem dX0_init_37 : decode cX0_init 37 = .ok (.aload_n 0, 1) := by decide +kernel
theorem dX0_init_38 : decode cX0_init 38 = .ok (.lload 8, 2) := by decide +kernel
theorem dX0_init_40 : decode cX0_init 40 = .ok (.putfield 29, 3) := by decide +kernel
theorem dX0_init_43 : decode cX0_init 43 = .ok (.return_, 1) := by decide +kernel
set_option maxRecDepth 20000 in
theorem ggX1_init_Jx4a65c_init_da8c8 : GoodIn wsX1_init wsJx4a65c_init_da8c8 := goodIn_r _ [30, 31, 32, 33, 34, 35, 36, 37, 38, 39, 40, 41, 42, 2, 3, 57, 58, 59] (by decide +kernel) (by decide +kernel)
set_option maxRecDepth 20000 in
theorem gX1_init_Jx4a65c_init_da8c8 : GoodIn wsX1_init (wsJx4a65c_init_da8c8) := ggX1_init_Jx4a65c_init_da8c8
theorem dX1_init_0 : decode cX1_init 0 = .ok (.aload_n 0, 1) := by decide +kernel
theorem dX1_init_1 : decode cX1_init 1 = .ok (.invokespecial 3, 3) := by decide +kernel
theorem dX1_init_4 : decode cX1_init 4 = .ok (.aload_n 0, 1) := by decide +kernel
theorem dX1_init_5 : decode cX1_init 5 = .ok (.iconst 5, 1) := by decide +kernel
theorem dX1_init_6 : decode cX1_init 6 = .ok (.newarray .long, 2) := by decide +kernel
theorem dX1_init_8 : decode cX1_init 8 = .ok (.dup, 1) := by decide +kernel
theorem dX1_init_9 : decode cX1_init 9 = .ok (.iconst 0, 1) := by decide +kernel
theorem dX1_init_10 : decode cX1_init 10 = .ok (.ldc2_w 9, 3) := by decide +kernel
theorem dX1_init_13 : decode cX1_init 13 = .ok (.lastore, 1) := by decide +kernel
theorem dX1_init_14 : decode cX1_init 14 = .ok (.dup, 1) := by decide +kernel
theorem dX1_init_15 : decode cX1_init 15 = .ok (.iconst 1, 1) := by decide +kernel
theorem dX1_init_16 : decode cX1_init 16 = .ok (.ldc2_w 11, 3) := by decide +kernel
theorem dX1_init_19 : decode cX1_init 19 = .ok (.lastore, 1) := by decide +kernel
theorem dX1_init_20 : decode cX1_init 20 = .ok (.dup, 1) := by decide +kernel
theorem dX1_init_21 : decode cX1_init 21 = .ok (.iconst 2, 1) := by decide +kernel
theorem dX1_init_22 : decode cX1_init 22 = .ok (.ldc2_w 13, 3) := by decide +kernel
theorem dX1_init_25 : decode cX1_init 25 = .ok (.lastore, 1) := by decide +kernel
theorem dX1_init_26 : decode cX1_init 26 = .ok (.dup, 1) := by decide +kernel
theorem dX1_init_27 : decode cX1_init 27 = .ok (.iconst 3, 1) := by decide +kernel
theorem dX1_init_28 : decode cX1_init 28 = .ok (.ldc2_w 15, 3) := by decide +kernel
theorem dX1_init_31 : decode cX1_init 31 = .ok (.lastore, 1) := by decide +kernel
theorem dX1_init_32 : decode cX1_init 32 = .ok (.dup, 1) := by decide +kernel
theorem dX1_init_33 : decode cX1_init 33 = .ok (.iconst 4, 1) := by decide +kernel
theorem dX1_init_34 : decode cX1_init 34 = .ok (.lconst 0, 1) := by decide +kernel
theorem dX1_init_35 : decode cX1_init 35 = .ok (.lastore, 1) := by decide +kernel
theorem dX1_init_36 : decode cX1_init 36 = .ok (.putfield 17, 3) := by decide +kernel
theorem dX1_init_39 : decode cX1_init 39 = .ok (.aload_n 0, 1) := by decide +kernel
theorem dX1_init_40 : decode cX1_init 40 = .ok (.bipush 8, 2) := by decide +kernel
theorem dX1_init_42 : decode cX1_init 42 = .ok (.newarray .long, 2) := by decide +kernel
theorem dX1_init_44 : decode cX1_init 44 = .ok (.putfield 21, 3) := by decide +kernel
theorem dX1_init_47 : decode cX1_init 47 = .ok (.aload_n 0, 1) := by decide +kernel
theorem dX1_init_48 : decode cX1_init 48 = .ok (.bipush 8, 2) := by decide +kernel
theorem dX1_init_50 : decode cX1_init 50 = .ok (.newarray .long, 2) := by decide +kernel
theorem dX1_init_52 : decode cX1_init 52 = .ok (.putfield 24, 3) := by decide +kernel
theorem dX1_init_55 : decode cX1_init 55 = .ok (.aload_n 0, 1) := by decide +kernel
theorem dX1_init_56 : decode cX1_init 56 = .ok (.bipush 8, 2) := by decide +kernel
theorem dX1_init_58 : decode cX1_init 58 = .ok (.newarray .boolean, 2) := by decide +kernel
theorem dX1_init_60 : decode cX1_init 60 = .ok (.putfield 27, 3) := by decide +kernel
theorem dX1_init_63 : decode cX1_init 63 = .ok (.aload_n 0, 1) := by decide +kernel
theorem dX1_init_64 : decode cX1_init 64 = .ok (.iconst 0, 1) := by decide +kernel
theorem dX1_init_65 : decode cX1_init 65 = .ok (.putfield 31, 3) := by decide +kernel
theorem dX1_init_68 : decode cX1_init 68 = .ok (.aload_n 0, 1) := by decide +kernel
theorem dX1_init_69 : decode cX1_init 69 = .ok (.iconst 0, 1) := by decide +kernel
theorem dX1_init_70 : decode cX1_init 70 = .ok (.putfield 35, 3) := by decide +kernel
theorem dX1_init_73 : decode cX1_init 73 = .ok (.aload_n 0, 1) := by decide +kernel
theorem dX1_init_74 : decode cX1_init 74 = .ok (.sipush 328, 3) := by decide +kernel
theorem dX1_init_77 : decode cX1_init 77 = .ok (.newarray .long, 2) := by decide +kernel
theorem dX1_init_79 : decode cX1_init 79 = .ok (.putfield 38, 3) := by decide +kernel
theorem dX1_init_82 : decode cX1_init 82 = .ok (.aload_n 0, 1) := by decide +kernel
theorem dX1_init_83 : decode cX1_init 83 = .ok (.bipush 41, 2) := by decide +kernel
theorem dX1_init_85 : decode cX1_init 85 = .ok (.newarray .long, 2) := by decide +kernel
theorem dX1_init_87 : decode cX1_init 87 = .ok (.putfield 41, 3) := by decide +kernel
theorem dX1_init_90 : decode cX1_init 90 = .ok (.aload_n 0, 1) := by decide +kernel
theorem dX1_init_91 : decode cX1_init 91 = .ok (.sipush 300, 3) := by decide +kernel
theorem dX1_init_94 : decode cX1_init 94 = .ok (.newarray .int, 2) := by decide +kernel
theorem dX1_init_96 : decode cX1_init 96 = .ok (.putfield 44, 3) := by decide +kernel
theorem dX1_init_99 : decode cX1_init 99 = .ok (.aload_n 0, 1) := by decide +kernel
theorem dX1_init_100 : decode cX1_init 100 = .ok (.iconst 0, 1) := by decide +kernel
theorem dX1_init_101 : decode cX1_init 101 = .ok (.putfield 48, 3) := by decide +kernel
theorem dX1_init_104 : decode cX1_init 104 = .ok (.aload_n 0, 1) := by decide +kernel
theorem dX1_init_105 : decode cX1_init 105 = .ok (.sipush 328, 3) := by decide +kernel
theorem dX1_init_108 : decode cX1_init 108 = .ok (.newarray .int, 2) := by decide +kernel
theorem dX1_init_110 : decode cX1_init 110 = .ok (.putfield 51, 3) := by decide +kernel
theorem dX1_init_113 : decode cX1_init 113 = .ok (.aload_n 0, 1) := by decide +kernel
theorem dX1_init_114 : decode cX1_init 114 = .ok (.bipush 41, 2) := by decide +kernel
theorem dX1_init_116 : decode cX1_init 116 = .ok (.newarray .int, 2) := by decide +kernel
theorem dX1_init_118 : decode cX1_init 118 = .ok (.putfield 54, 3) := by decide +kernel
theorem dX1_init_121 : decode cX1_init 121 = .ok (.aload_n 0, 1) := by decide +kernel
theorem dX1_init_122 : decode cX1_init 122 = .ok (.new 57, 3) := by decide +kernel
theorem dX1_init_125 : decode cX1_init 125 = .ok (.dup, 1) := by decide +kernel
theorem dX1_init_126 : decode cX1_init 126 = .ok (.invokespecial 59, 3) := by decide +kernel
theorem dX1_init_129 : decode cX1_init 129 = .ok (.putfield 60, 3) := by decide +kernel
theorem dX1_init_132 : decode cX1_init 132 = .ok (.aload_n 0, 1) := by decide +kernel
theorem dX1_init_133 : decode cX1_init 133 = .ok (.lconst 0, 1) := by decide +kernel
theorem dX1_init_134 : decode cX1_init 134 = .ok (.putfield 64, 3) := by decide +kernel
theorem dX1_init_137 : decode cX1_init 137 = .ok (.return_, 1) := by decide +kernel
theorem dX1_node_0 : decode cX1_node 0 = .ok (.lload_n 1, 1) := by decide +kernel
theorem dX1_node_1 : decode cX1_node 1 = .ok (.lconst 1, 1) := by decide +kernel
theorem dX1_node_2 : decode cX1_node 2 = .ok (.lcmp, 1) := by decide +kernel
theorem dX1_node_3 : decode cX1_node 3 = .ok (.ifCond .lt 11, 3) := by decide +kernel
theorem dX1_node_6 : decode cX1_node 6 = .ok (.lload_n 1, 1) := by decide +kernel
theorem dX1_node_7 : decode cX1_node 7 = .ok (.ldc2_w 68, 3) := by decide +kernel
theorem dX1_node_10 : decode cX1_node 10 = .ok (.lcmp, 1) := by decide +kernel
theorem dX1_node_11 : decode cX1_node 11 = .ok (.ifCond .le 6, 3) := by decide +kernel
theorem dX1_node_14 : decode cX1_node 14 = .ok (.bipush (-102), 2) := by decide +kernel
theorem dX1_node_16 : decode cX1_node 16 = .ok (.ireturn, 1) := by decide +kernel
theorem dX1_node_17 : decode cX1_node 17 = .ok (.aload_n 0, 1) := by decide +kernel
theorem dX1_node_18 : decode cX1_node 18 = .ok (.getfield 31, 3) := by decide +kernel
theorem dX1_node_21 : decode cX1_node 21 = .ok (.bipush 8, 2) := by decide +kernel
theorem dX1_node_23 : decode cX1_node 23 = .ok (.if_icmp .lt 6, 3) := by decide +kernel
theorem dX1_node_26 : decode cX1_node 26 = .ok (.bipush (-104), 2) := by decide +kernel
theorem dX1_node_28 : decode cX1_node 28 = .ok (.ireturn, 1) := by decide +kernel
theorem dX1_node_29 : decode cX1_node 29 = .ok (.aload_n 0, 1) := by decide +kernel
theorem dX1_node_30 : decode cX1_node 30 = .ok (.getfield 21, 3) := by decide +kernel
theorem dX1_node_33 : decode cX1_node 33 = .ok (.aload_n 0, 1) := by decide +kernel
theorem dX1_node_34 : decode cX1_node 34 = .ok (.getfield 31, 3) := by decide +kernel
theorem dX1_node_37 : decode cX1_node 37 = .ok (.lload_n 1, 1) := by decide +kernel
theorem dX1_node_38 : decode cX1_node 38 = .ok (.lastore, 1) := by decide +kernel
theorem dX1_node_39 : decode cX1_node 39 = .ok (.aload_n 0, 1) := by decide +kernel
theorem dX1_node_40 : decode cX1_node 40 = .ok (.dup, 1) := by decide +kernel
theorem dX1_node_41 : decode cX1_node 41 = .ok (.getfield 31, 3) := by decide +kernel
theorem dX1_node_44 : decode cX1_node 44 = .ok (.iconst 1, 1) := by decide +kernel
theorem dX1_node_45 : decode cX1_node 45 = .ok (.iadd, 1) := by decide +kernel
theorem dX1_node_46 : decode cX1_node 46 = .ok (.putfield 31, 3) := by decide +kernel
theorem dX1_node_49 : decode cX1_node 49 = .ok (.aload_n 0, 1) := by decide +kernel
theorem dX1_node_50 : decode cX1_node 50 = .ok (.getfield 31, 3) := by decide +kernel
theorem dX1_node_53 : decode cX1_node 53 = .ok (.iconst 1, 1) := by decide +kernel
theorem dX1_node_54 : decode cX1_node 54 = .ok (.isub, 1) := by decide +kernel
theorem dX1_node_55 : decode cX1_node 55 = .ok (.ireturn, 1) := by decide +kernel
set_option maxRecDepth 20000 in
theorem ggX1_add_X1_isNode : GoodIn wsX1_add wsX1_isNode := goodIn_r _ [9, 10, 11, 12, 13, 14, 15, 16, 17, 18, 19, 20, 21, 22, 23, 24] (by decide +kernel) (by decide +kernel)
set_option maxRecDepth 20000 in
theorem gX1_add_X1_isNode : GoodIn wsX1_add (wsV RX1 70 RX1 yX1_isNode wsX1_isNode) := goodIn_app (goodIn_of _ (by decide +kernel)) ggX1_add_X1_isNode
theorem dX1_add_0 : decode cX1_add 0 = .ok (.aload_n 0, 1) := by decide +kernel
theorem dX1_add_1 : decode cX1_add 1 = .ok (.iload_n 1, 1) := by decide +kernel
theorem dX1_add_2 : decode cX1_add 2 = .ok (.invokevirtual 70, 3) := by decide +kernel
theorem dX1_add_5 : decode cX1_add 5 = .ok (.ifCond .ne 7, 3) := by decide +kernel
theorem dX1_add_8 : decode cX1_add 8 = .ok (.ldc2_w 74, 3) := by decide +kernel
theorem dX1_add_11 : decode cX1_add 11 = .ok (.lreturn, 1) := by decide +kernel
theorem dX1_add_12 : decode cX1_add 12 = .ok (.lload_n 2, 1) := by decide +kernel
theorem dX1_add_13 : decode cX1_add 13 = .ok (.lconst 1, 1) := by decide +kernel
theorem dX1_add_14 : decode cX1_add 14 = .ok (.lcmp, 1) := by decide +kernel
theorem dX1_add_15 : decode cX1_add 15 = .ok (.ifCond .lt 26, 3) := by decide +kernel
theorem dX1_add_18 : decode cX1_add 18 = .ok (.lload_n 2, 1) := by decide +kernel
theorem dX1_add_19 : decode cX1_add 19 = .ok (.ldc2_w 68, 3) := by decide +kernel
theorem dX1_add_22 : decode cX1_add 22 = .ok (.lcmp, 1) := by decide +kernel
theorem dX1_add_23 : decode cX1_add 23 = .ok (.ifCond .gt 18, 3) := by decide +kernel
theorem dX1_add_26 : decode cX1_add 26 = .ok (.aload_n 0, 1) := by decide +kernel
theorem dX1_add_27 : decode cX1_add 27 = .ok (.getfield 21, 3) := by decide +kernel
theorem dX1_add_30 : decode cX1_add 30 = .ok (.iload_n 1, 1) := by decide +kernel
theorem dX1_add_31 : decode cX1_add 31 = .ok (.laload, 1) := by decide +kernel
theorem dX1_add_32 : decode cX1_add 32 = .ok (.lload_n 2, 1) := by decide +kernel
theorem dX1_add_33 : decode cX1_add 33 = .ok (.ladd, 1) := by decide +kernel
theorem dX1_add_34 : decode cX1_add 34 = .ok (.ldc2_w 68, 3) := by decide +kernel
theorem dX1_add_37 : decode cX1_add 37 = .ok (.lcmp, 1) := by decide +kernel
theorem dX1_add_38 : decode cX1_add 38 = .ok (.ifCond .le 7, 3) := by decide +kernel
theorem dX1_add_41 : decode cX1_add 41 = .ok (.ldc2_w 76, 3) := by decide +kernel
theorem dX1_add_44 : decode cX1_add 44 = .ok (.lreturn, 1) := by decide +kernel
theorem dX1_add_45 : decode cX1_add 45 = .ok (.aload_n 0, 1) := by decide +kernel
theorem dX1_add_46 : decode cX1_add 46 = .ok (.getfield 21, 3) := by decide +kernel
theorem dX1_add_49 : decode cX1_add 49 = .ok (.iload_n 1, 1) := by decide +kernel
theorem dX1_add_50 : decode cX1_add 50 = .ok (.dup2, 1) := by decide +kernel
theorem dX1_add_51 : decode cX1_add 51 = .ok (.laload, 1) := by decide +kernel
theorem dX1_add_52 : decode cX1_add 52 = .ok (.lload_n 2, 1) := by decide +kernel
theorem dX1_add_53 : decode cX1_add 53 = .ok (.ladd, 1) := by decide +kernel
theorem dX1_add_54 : decode cX1_add 54 = .ok (.lastore, 1) := by decide +kernel
theorem dX1_add_55 : decode cX1_add 55 = .ok (.aload_n 0, 1) := by decide +kernel
theorem dX1_add_56 : decode cX1_add 56 = .ok (.getfield 21, 3) := by decide +kernel
theorem dX1_add_59 : decode cX1_add 59 = .ok (.iload_n 1, 1) := by decide +kernel
theorem dX1_add_60 : decode cX1_add 60 = .ok (.laload, 1) := by decide +kernel
theorem dX1_add_61 : decode cX1_add 61 = .ok (.lreturn, 1) := by decide +kernel
set_option maxRecDepth 20000 in
theorem ggX1_next_X1_weighNodes : GoodIn wsX1_next wsX1_weighNodes := goodIn_r _ [6, 7, 8, 9, 10, 11, 12, 13, 5, 14, 15, 16, 17, 18, 19, 20, 21, 22, 23, 24, 25, 26, 27, 28] (by decide +kernel) (by decide +kernel)
set_option maxRecDepth 20000 in
theorem gX1_next_X1_weighNodes : GoodIn wsX1_next (wsV RX1 78 RX1 yX1_weighNodes wsX1_weighNodes) := goodIn_app (goodIn_of _ (by decide +kernel)) ggX1_next_X1_weighNodes
theorem dX1_next_0 : decode cX1_next 0 = .ok (.aload_n 0, 1) := by decide +kernel
theorem dX1_next_1 : decode cX1_next 1 = .ok (.getfield 35, 3) := by decide +kernel
theorem dX1_next_4 : decode cX1_next 4 = .ok (.bipush 40, 2) := by decide +kernel
theorem dX1_next_6 : decode cX1_next 6 = .ok (.if_icmp .lt 6, 3) := by decide +kernel
theorem dX1_next_9 : decode cX1_next 9 = .ok (.bipush (-104), 2) := by decide +kernel
theorem dX1_next_11 : decode cX1_next 11 = .ok (.ireturn, 1) := by decide +kernel
theorem dX1_next_12 : decode cX1_next 12 = .ok (.aload_n 0, 1) := by decide +kernel
theorem dX1_next_13 : decode cX1_next 13 = .ok (.dup, 1) := by decide +kernel
theorem dX1_next_14 : decode cX1_next 14 = .ok (.getfield 35, 3) := by decide +kernel
theorem dX1_next_17 : decode cX1_next 17 = .ok (.iconst 1, 1) := by decide +kernel
theorem dX1_next_18 : decode cX1_next 18 = .ok (.iadd, 1) := by decide +kernel
theorem dX1_next_19 : decode cX1_next 19 = .ok (.putfield 35, 3) := by decide +kernel
theorem dX1_next_22 : decode cX1_next 22 = .ok (.aload_n 0, 1) := by decide +kernel
theorem dX1_next_23 : decode cX1_next 23 = .ok (.aload_n 0, 1) := by decide +kernel
theorem dX1_next_24 : decode cX1_next 24 = .ok (.getfield 35, 3) := by decide +kernel
theorem dX1_next_27 : decode cX1_next 27 = .ok (.invokevirtual 78, 3) := by decide +kernel
theorem dX1_next_30 : decode cX1_next 30 = .ok (.aload_n 0, 1) := by decide +kernel
theorem dX1_next_31 : decode cX1_next 31 = .ok (.getfield 35, 3) := by decide +kernel
theorem dX1_next_34 : decode cX1_next 34 = .ok (.ireturn, 1) := by decide +kernel
theorem dX1_set_0 : decode cX1_set 0 = .ok (.iload_n 1, 1) := by decide +kernel
theorem dX1_set_1 : decode cX1_set 1 = .ok (.ifCond .lt 28, 3) := by decide +kernel
theorem dX1_set_4 : decode cX1_set 4 = .ok (.iload_n 1, 1) := by decide +kernel
theorem dX1_set_5 : decode cX1_set 5 = .ok (.iconst 5, 1) := by decide +kernel
theorem dX1_set_6 : decode cX1_set 6 = .ok (.if_icmp .ge 23, 3) := by decide +kernel
theorem dX1_set_9 : decode cX1_set 9 = .ok (.lload_n 2, 1) := by decide +kernel
theorem dX1_set_10 : decode cX1_set 10 = .ok (.getstatic 82, 3) := by decide +kernel
theorem dX1_set_13 : decode cX1_set 13 = .ok (.iload_n 1, 1) := by decide +kernel
theorem dX1_set_14 : decode cX1_set 14 = .ok (.laload, 1) := by decide +kernel
theorem dX1_set_15 : decode cX1_set 15 = .ok (.lcmp, 1) := by decide +kernel
theorem dX1_set_16 : decode cX1_set 16 = .ok (.ifCond .lt 13, 3) := by decide +kernel
theorem dX1_set_19 : decode cX1_set 19 = .ok (.lload_n 2, 1) := by decide +kernel
theorem dX1_set_20 : decode cX1_set 20 = .ok (.getstatic 85, 3) := by decide +kernel
theorem dX1_set_23 : decode cX1_set 23 = .ok (.iload_n 1, 1) := by decide +kernel
theorem dX1_set_24 : decode cX1_set 24 = .ok (.laload, 1) := by decide +kernel
theorem dX1_set_25 : decode cX1_set 25 = .ok (.lcmp, 1) := by decide +kernel
theorem dX1_set_26 : decode cX1_set 26 = .ok (.ifCond .le 7, 3) := by decide +kernel
theorem dX1_set_29 : decode cX1_set 29 = .ok (.ldc2_w 76, 3) := by decide +kernel
theorem dX1_set_32 : decode cX1_set 32 = .ok (.lreturn, 1) := by decide +kernel
theorem dX1_set_33 : decode cX1_set 33 = .ok (.aload_n 0, 1) := by decide +kernel
theorem dX1_set_34 : decode cX1_set 34 = .ok (.getfield 17, 3) := by decide +kernel
theorem dX1_set_37 : decode cX1_set 37 = .ok (.iload_n 1, 1) := by decide +kernel
theorem dX1_set_38 : decode cX1_set 38 = .ok (.laload, 1) := by decide +kernel
theorem dX1_set_39 : decode cX1_set 39 = .ok (.lstore 4, 2) := by decide +kernel
theorem dX1_set_41 : decode cX1_set 41 = .ok (.aload_n 0, 1) := by decide +kernel
theorem dX1_set_42 : decode cX1_set 42 = .ok (.getfield 17, 3) := by decide +kernel
theorem dX1_set_45 : decode cX1_set 45 = .ok (.iload_n 1, 1) := by decide +kernel
theorem dX1_set_46 : decode cX1_set 46 = .ok (.lload_n 2, 1) := by decide +kernel
theorem dX1_set_47 : decode cX1_set 47 = .ok (.lastore, 1) := by decide +kernel
theorem dX1_set_48 : decode cX1_set 48 = .ok (.lload 4, 2) := by decide +kernel
theorem dX1_set_50 : decode cX1_set 50 = .ok (.lreturn, 1) := by decide +kernel
set_option maxRecDepth 20000 in
theorem ggX1_vote_X1_voteRefusal : GoodIn wsX1_vote wsX1_voteRefusal := goodIn_r _ [6, 7, 8, 9, 10, 5, 11, 12, 13, 14, 15, 16, 17, 18, 19, 20, 21, 22, 23, 24, 25, 26, 27, 72, 73, 74, 75, 76, 77, 78, 79, 80, 81, 82, 83, 84, 85] (by decide +kernel) (by decide +kernel)
set_option maxRecDepth 20000 in
theorem gX1_vote_X1_voteRefusal : GoodIn wsX1_vote (wsV RX1 88 RX1 yX1_voteRefusal wsX1_voteRefusal) := goodIn_app (goodIn_of _ (by decide +kernel)) ggX1_vote_X1_voteRefusal
set_option maxRecDepth 20000 in
theorem ggX1_vote_X1_packed : GoodIn wsX1_vote wsX1_packed := goodIn_r _ [30] (by decide +kernel) (by decide +kernel)
set_option maxRecDepth 20000 in
theorem gX1_vote_X1_packed : GoodIn wsX1_vote (va_wsS RX1 92 yX1_packed wsX1_packed) := goodIn_app (goodIn_of _ (by decide +kernel)) ggX1_vote_X1_packed
set_option maxRecDepth 20000 in
theorem ggX1_vote_X1_numberOf : GoodIn wsX1_vote wsX1_numberOf := goodIn_r _ [34, 1, 35, 72, 73, 74, 75, 76, 77, 78, 79, 80, 81, 82, 83, 84, 85] (by decide +kernel) (by decide +kernel)
set_option maxRecDepth 20000 in
theorem gX1_vote_X1_numberOf : GoodIn wsX1_vote (wsV RX1 95 RX1 yX1_numberOf wsX1_numberOf) := goodIn_app (goodIn_of _ (by decide +kernel)) ggX1_vote_X1_numberOf
set_option maxRecDepth 20000 in
theorem ggX1_vote_X1_keep : GoodIn wsX1_vote wsX1_keep := goodIn_r _ [39, 35, 1, 40, 41, 5, 42, 43, 44, 45, 46, 47, 48, 49, 7, 50, 51, 52, 25, 26, 27, 53, 54, 55, 56, 57, 58, 59, 60, 61, 62, 63, 64, 65, 66, 67, 68, 69, 70, 71, 72, 73, 74, 75, 76, 77, 78, 79, 80, 81, 82, 83, 84, 85] (by decide +kernel) (by decide +kernel)
set_option maxRecDepth 20000 in
theorem gX1_vote_X1_keep : GoodIn wsX1_vote (wsV RX1 99 RX1 yX1_keep wsX1_keep) := goodIn_app (goodIn_of _ (by decide +kernel)) ggX1_vote_X1_keep
theorem dX1_vote_0 : decode cX1_vote 0 = .ok (.aload_n 0, 1) := by decide +kernel
theorem dX1_vote_1 : decode cX1_vote 1 = .ok (.iload_n 1, 1) := by decide +kernel
theorem dX1_vote_2 : decode cX1_vote 2 = .ok (.iload_n 2, 1) := by decide +kernel
theorem dX1_vote_3 : decode cX1_vote 3 = .ok (.iload_n 3, 1) := by decide +kernel
theorem dX1_vote_4 : decode cX1_vote 4 = .ok (.iload 4, 2) := by decide +kernel
theorem dX1_vote_6 : decode cX1_vote 6 = .ok (.iload 5, 2) := by decide +kernel
theorem dX1_vote_8 : decode cX1_vote 8 = .ok (.invokevirtual 88, 3) := by decide +kernel
theorem dX1_vote_11 : decode cX1_vote 11 = .ok (.istore 6, 2) := by decide +kernel
theorem dX1_vote_13 : decode cX1_vote 13 = .ok (.iload 6, 2) := by decide +kernel
theorem dX1_vote_15 : decode cX1_vote 15 = .ok (.ifCond .eq 6, 3) := by decide +kernel
theorem dX1_vote_18 : decode cX1_vote 18 = .ok (.iload 6, 2) := by decide +kernel
theorem dX1_vote_20 : decode cX1_vote 20 = .ok (.ireturn, 1) := by decide +kernel
theorem dX1_vote_21 : decode cX1_vote 21 = .ok (.iload_n 1, 1) := by decide +kernel
theorem dX1_vote_22 : decode cX1_vote 22 = .ok (.iload_n 2, 1) := by decide +kernel
theorem dX1_vote_23 : decode cX1_vote 23 = .ok (.iload_n 3, 1) := by decide +kernel
theorem dX1_vote_24 : decode cX1_vote 24 = .ok (.iload 4, 2) := by decide +kernel
theorem dX1_vote_26 : decode cX1_vote 26 = .ok (.iload 5, 2) := by decide +kernel
theorem dX1_vote_28 : decode cX1_vote 28 = .ok (.invokestatic 92, 3) := by decide +kernel
theorem dX1_vote_31 : decode cX1_vote 31 = .ok (.istore 7, 2) := by decide +kernel
theorem dX1_vote_33 : decode cX1_vote 33 = .ok (.aload_n 0, 1) := by decide +kernel
theorem dX1_vote_34 : decode cX1_vote 34 = .ok (.iload 7, 2) := by decide +kernel
theorem dX1_vote_36 : decode cX1_vote 36 = .ok (.invokevirtual 95, 3) := by decide +kernel
theorem dX1_vote_39 : decode cX1_vote 39 = .ok (.istore 8, 2) := by decide +kernel
theorem dX1_vote_41 : decode cX1_vote 41 = .ok (.iload 8, 2) := by decide +kernel
theorem dX1_vote_43 : decode cX1_vote 43 = .ok (.iconst (-1), 1) := by decide +kernel
theorem dX1_vote_44 : decode cX1_vote 44 = .ok (.if_icmp .eq 6, 3) := by decide +kernel
theorem dX1_vote_47 : decode cX1_vote 47 = .ok (.iload 8, 2) := by decide +kernel
theorem dX1_vote_49 : decode cX1_vote 49 = .ok (.ireturn, 1) := by decide +kernel
theorem dX1_vote_50 : decode cX1_vote 50 = .ok (.aload_n 0, 1) := by decide +kernel
theorem dX1_vote_51 : decode cX1_vote 51 = .ok (.getfield 48, 3) := by decide +kernel
theorem dX1_vote_54 : decode cX1_vote 54 = .ok (.sipush 300, 3) := by decide +kernel
theorem dX1_vote_57 : decode cX1_vote 57 = .ok (.if_icmp .lt 6, 3) := by decide +kernel
theorem dX1_vote_60 : decode cX1_vote 60 = .ok (.bipush (-104), 2) := by decide +kernel
theorem dX1_vote_62 : decode cX1_vote 62 = .ok (.ireturn, 1) := by decide +kernel
theorem dX1_vote_63 : decode cX1_vote 63 = .ok (.aload_n 0, 1) := by decide +kernel
theorem dX1_vote_64 : decode cX1_vote 64 = .ok (.iload 7, 2) := by decide +kernel
theorem dX1_vote_66 : decode cX1_vote 66 = .ok (.invokevirtual 99, 3) := by decide +kernel
theorem dX1_vote_69 : decode cX1_vote 69 = .ok (.aload_n 0, 1) := by decide +kernel
theorem dX1_vote_70 : decode cX1_vote 70 = .ok (.getfield 48, 3) := by decide +kernel
theorem dX1_vote_73 : decode cX1_vote 73 = .ok (.iconst 1, 1) := by decide +kernel
theorem dX1_vote_74 : decode cX1_vote 74 = .ok (.isub, 1) := by decide +kernel
theorem dX1_vote_75 : decode cX1_vote 75 = .ok (.ireturn, 1) := by decide +kernel
set_option maxRecDepth 20000 in
theorem ggX1_may_X1_voteRefusal : GoodIn wsX1_may wsX1_voteRefusal := goodIn_r _ [5, 6, 7, 8, 9, 4, 10, 11, 12, 13, 14, 15, 16, 17, 18, 19, 20, 21, 22, 23, 24, 25, 26, 81, 82, 83, 84, 85, 86, 87, 88, 89, 90, 91, 92, 93, 94] (by decide +kernel) (by decide +kernel)
set_option maxRecDepth 20000 in
theorem gX1_may_X1_voteRefusal : GoodIn wsX1_may (wsV RX1 88 RX1 yX1_voteRefusal wsX1_voteRefusal) := goodIn_app (goodIn_of _ (by decide +kernel)) ggX1_may_X1_voteRefusal
set_option maxRecDepth 20000 in
theorem ggX1_may_X1_packed : GoodIn wsX1_may wsX1_packed := goodIn_r _ [29] (by decide +kernel) (by decide +kernel)
set_option maxRecDepth 20000 in
theorem gX1_may_X1_packed : GoodIn wsX1_may (va_wsS RX1 92 yX1_packed wsX1_packed) := goodIn_app (goodIn_of _ (by decide +kernel)) ggX1_may_X1_packed
set_option maxRecDepth 20000 in
theorem ggX1_may_X1_makesBreak : GoodIn wsX1_may wsX1_makesBreak := goodIn_r _ [33, 34, 35, 36, 37, 38, 4, 39, 40, 41, 42, 43, 44, 45, 46, 47, 48, 49, 50, 51, 52, 53, 54, 55, 56, 57, 58, 59, 60, 61, 62, 63, 64, 65, 66, 67, 68, 69, 70, 71, 72, 73, 74, 75, 76, 77, 78, 79, 80, 81, 82, 83, 84, 85, 86, 87, 88, 89, 90, 91, 92, 93, 94] (by decide +kernel) (by decide +kernel)
set_option maxRecDepth 20000 in
theorem gX1_may_X1_makesBreak : GoodIn wsX1_may (wsV RX1 102 RX1 yX1_makesBreak wsX1_makesBreak) := goodIn_app (goodIn_of _ (by decide +kernel)) ggX1_may_X1_makesBreak
theorem dX1_may_0 : decode cX1_may 0 = .ok (.aload_n 0, 1) := by decide +kernel
theorem dX1_may_1 : decode cX1_may 1 = .ok (.iload_n 1, 1) := by decide +kernel
theorem dX1_may_2 : decode cX1_may 2 = .ok (.iload_n 2, 1) := by decide +kernel
theorem dX1_may_3 : decode cX1_may 3 = .ok (.iload_n 3, 1) := by decide +kernel
theorem dX1_may_4 : decode cX1_may 4 = .ok (.iload 4, 2) := by decide +kernel
theorem dX1_may_6 : decode cX1_may 6 = .ok (.iload 5, 2) := by decide +kernel
theorem dX1_may_8 : decode cX1_may 8 = .ok (.invokevirtual 88, 3) := by decide +kernel
theorem dX1_may_11 : decode cX1_may 11 = .ok (.istore 6, 2) := by decide +kernel
theorem dX1_may_13 : decode cX1_may 13 = .ok (.iload 6, 2) := by decide +kernel
theorem dX1_may_15 : decode cX1_may 15 = .ok (.ifCond .eq 6, 3) := by decide +kernel
theorem dX1_may_18 : decode cX1_may 18 = .ok (.iload 6, 2) := by decide +kernel
theorem dX1_may_20 : decode cX1_may 20 = .ok (.ireturn, 1) := by decide +kernel
theorem dX1_may_21 : decode cX1_may 21 = .ok (.aload_n 0, 1) := by decide +kernel
theorem dX1_may_22 : decode cX1_may 22 = .ok (.iload_n 1, 1) := by decide +kernel
theorem dX1_may_23 : decode cX1_may 23 = .ok (.iload_n 2, 1) := by decide +kernel
theorem dX1_may_24 : decode cX1_may 24 = .ok (.iload_n 3, 1) := by decide +kernel
theorem dX1_may_25 : decode cX1_may 25 = .ok (.iload 4, 2) := by decide +kernel
theorem dX1_may_27 : decode cX1_may 27 = .ok (.iload 5, 2) := by decide +kernel
theorem dX1_may_29 : decode cX1_may 29 = .ok (.invokestatic 92, 3) := by decide +kernel
theorem dX1_may_32 : decode cX1_may 32 = .ok (.invokevirtual 102, 3) := by decide +kernel
theorem dX1_may_35 : decode cX1_may 35 = .ok (.ifCond .eq 7, 3) := by decide +kernel
theorem dX1_may_38 : decode cX1_may 38 = .ok (.iconst 0, 1) := by decide +kernel
theorem dX1_may_39 : decode cX1_may 39 = .ok (.goto 4, 3) := by decide +kernel
theorem dX1_may_42 : decode cX1_may 42 = .ok (.iconst 1, 1) := by decide +kernel
theorem dX1_may_43 : decode cX1_may 43 = .ok (.ireturn, 1) := by decide +kernel
set_option maxRecDepth 20000 in
theorem ggX1_accuse_X1_accuseRefusal : GoodIn wsX1_accuse wsX1_accuseRefusal := goodIn_r _ [12, 13, 14, 15, 16, 17, 18, 11, 19, 20, 21, 22, 23, 24, 25, 26, 27, 28, 29, 30, 31, 32, 33, 34, 35, 36, 37, 38, 39, 40, 41, 42, 43, 44, 45, 46, 47, 48, 49, 50, 51, 52, 53, 54, 55, 56, 57, 58, 59, 60, 61, 62, 63, 64, 65, 66, 67, 68, 69, 70, 71, 72, 73, 74, 75, 76, 77, 78, 79, 80, 81, 82, 83, 84, 85, 86, 87, 88, 89, 90, 91, 92, 93, 94, 95, 96, 97, 98, 99, 100, 101, 102, 103, 104, 105, 106, 107, 108, 109, 110, 111, 112, 113, 114, 191, 192, 193, 194, 195, 196, 197, 198, 199, 200, 201, 202, 203, 204, 205, 206, 207, 208, 209, 210, 211, 212, 213, 214] (by decide +kernel) (by decide +kernel)
set_option maxRecDepth 20000 in
theorem gX1_accuse_X1_accuseRefusal : GoodIn wsX1_accuse (wsV RX1 105 RX1 yX1_accuseRefusal wsX1_accuseRefusal) := goodIn_app (goodIn_of _ (by decide +kernel)) ggX1_accuse_X1_accuseRefusal
set_option maxRecDepth 20000 in
theorem ggX1_accuse_X1_take : GoodIn wsX1_accuse wsX1_take := goodIn_r _ [118, 13, 119, 15, 120, 121, 122, 123, 124, 90, 125, 126, 127, 14, 128, 129, 11, 130, 131, 132, 133, 134, 135, 136, 137, 138, 139, 140, 141, 142, 143, 144, 145, 95, 146, 147, 148, 114, 97, 149, 150, 151, 152, 153, 154, 155, 156, 157, 158, 159, 160, 161, 162, 6, 3, 7, 163, 164, 165, 166, 167, 168, 169, 170, 171, 172, 173, 174, 175, 176, 177, 178, 179, 180, 181, 182, 183, 184, 185, 186, 2, 4, 187, 188, 189, 190, 191, 192, 193, 194, 195, 196, 197, 198, 199, 200, 201, 202, 203, 204, 205, 206, 207, 208, 209, 210, 211, 212, 213, 214] (by decide +kernel) (by decide +kernel)
set_option maxRecDepth 20000 in
theorem gX1_accuse_X1_take : GoodIn wsX1_accuse (wsV RX1 118 RX1 yX1_take wsX1_take) := goodIn_app (goodIn_of _ (by decide +kernel)) ggX1_accuse_X1_take
theorem dX1_accuse_0 : decode cX1_accuse 0 = .ok (.aload_n 0, 1) := by decide +kernel
theorem dX1_accuse_1 : decode cX1_accuse 1 = .ok (.iload_n 1, 1) := by decide +kernel
theorem dX1_accuse_2 : decode cX1_accuse 2 = .ok (.iload_n 2, 1) := by decide +kernel
theorem dX1_accuse_3 : decode cX1_accuse 3 = .ok (.iload_n 3, 1) := by decide +kernel
theorem dX1_accuse_4 : decode cX1_accuse 4 = .ok (.iload 4, 2) := by decide +kernel
theorem dX1_accuse_6 : decode cX1_accuse 6 = .ok (.invokevirtual 105, 3) := by decide +kernel
theorem dX1_accuse_9 : decode cX1_accuse 9 = .ok (.istore 5, 2) := by decide +kernel
theorem dX1_accuse_11 : decode cX1_accuse 11 = .ok (.iload 5, 2) := by decide +kernel
theorem dX1_accuse_13 : decode cX1_accuse 13 = .ok (.ifCond .eq 7, 3) := by decide +kernel
theorem dX1_accuse_16 : decode cX1_accuse 16 = .ok (.iload 5, 2) := by decide +kernel
theorem dX1_accuse_18 : decode cX1_accuse 18 = .ok (.i2l, 1) := by decide +kernel
theorem dX1_accuse_19 : decode cX1_accuse 19 = .ok (.lreturn, 1) := by decide +kernel
theorem dX1_accuse_20 : decode cX1_accuse 20 = .ok (.iload_n 1, 1) := by decide +kernel
theorem dX1_accuse_21 : decode cX1_accuse 21 = .ok (.ifCond .ne 21, 3) := by decide +kernel
theorem dX1_accuse_24 : decode cX1_accuse 24 = .ok (.aload_n 0, 1) := by decide +kernel
theorem dX1_accuse_25 : decode cX1_accuse 25 = .ok (.iload_n 1, 1) := by decide +kernel
theorem dX1_accuse_26 : decode cX1_accuse 26 = .ok (.iload_n 2, 1) := by decide +kernel
theorem dX1_accuse_27 : decode cX1_accuse 27 = .ok (.iload_n 3, 1) := by decide +kernel
theorem dX1_accuse_28 : decode cX1_accuse 28 = .ok (.invokestatic 109, 3) := by decide +kernel
theorem dX1_accuse_31 : decode cX1_accuse 31 = .ok (.iload_n 2, 1) := by decide +kernel
theorem dX1_accuse_32 : decode cX1_accuse 32 = .ok (.iload_n 3, 1) := by decide +kernel
theorem dX1_accuse_33 : decode cX1_accuse 33 = .ok (.invokestatic 115, 3) := by decide +kernel
theorem dX1_accuse_36 : decode cX1_accuse 36 = .ok (.iload 4, 2) := by decide +kernel
theorem dX1_accuse_38 : decode cX1_accuse 38 = .ok (.invokevirtual 118, 3) := by decide +kernel
theorem dX1_accuse_41 : decode cX1_accuse 41 = .ok (.lreturn, 1) := by decide +kernel
theorem dX1_accuse_42 : decode cX1_accuse 42 = .ok (.aload_n 0, 1) := by decide +kernel
theorem dX1_accuse_43 : decode cX1_accuse 43 = .ok (.iload_n 1, 1) := by decide +kernel
theorem dX1_accuse_44 : decode cX1_accuse 44 = .ok (.iload_n 2, 1) := by decide +kernel
theorem dX1_accuse_45 : decode cX1_accuse 45 = .ok (.iload_n 1, 1) := by decide +kernel
theorem dX1_accuse_46 : decode cX1_accuse 46 = .ok (.iconst 2, 1) := by decide +kernel
theorem dX1_accuse_47 : decode cX1_accuse 47 = .ok (.if_icmp .ne 7, 3) := by decide +kernel
theorem dX1_accuse_50 : decode cX1_accuse 50 = .ok (.iconst (-1), 1) := by decide +kernel
theorem dX1_accuse_51 : decode cX1_accuse 51 = .ok (.goto 4, 3) := by decide +kernel
theorem dX1_accuse_54 : decode cX1_accuse 54 = .ok (.iload_n 3, 1) := by decide +kernel
theorem dX1_accuse_55 : decode cX1_accuse 55 = .ok (.iload 4, 2) := by decide +kernel
theorem dX1_accuse_57 : decode cX1_accuse 57 = .ok (.invokevirtual 118, 3) := by decide +kernel
theorem dX1_accuse_60 : decode cX1_accuse 60 = .ok (.lreturn, 1) := by decide +kernel
set_option maxRecDepth 20000 in
theorem ggX1_about_Jx4a65c_size_8abf5 : GoodIn wsX1_about wsJx4a65c_size_8abf5 := goodIn_r _ [12, 13, 28, 29, 30] (by decide +kernel) (by decide +kernel)
set_option maxRecDepth 20000 in
theorem gX1_about_Jx4a65c_size_8abf5 : GoodIn wsX1_about (wsV RX1 122 RJx4a65c yJx4a65c_size_8abf5 wsJx4a65c_size_8abf5) := goodIn_app (goodIn_of _ (by decide +kernel)) ggX1_about_Jx4a65c_size_8abf5
theorem dX1_about_0 : decode cX1_about 0 = .ok (.iload_n 1, 1) := by decide +kernel
theorem dX1_about_1 : decode cX1_about 1 = .ok (.tableswitch 122 0 9 #[55, 61, 67, 73, 82, 87, 94, 101, 108, 115], 55) := by decide +kernel
theorem dX1_about_56 : decode cX1_about 56 = .ok (.aload_n 0, 1) := by decide +kernel
theorem dX1_about_57 : decode cX1_about 57 = .ok (.getfield 35, 3) := by decide +kernel
theorem dX1_about_60 : decode cX1_about 60 = .ok (.i2l, 1) := by decide +kernel
theorem dX1_about_61 : decode cX1_about 61 = .ok (.lreturn, 1) := by decide +kernel
theorem dX1_about_62 : decode cX1_about 62 = .ok (.aload_n 0, 1) := by decide +kernel
theorem dX1_about_63 : decode cX1_about 63 = .ok (.getfield 31, 3) := by decide +kernel
theorem dX1_about_66 : decode cX1_about 66 = .ok (.i2l, 1) := by decide +kernel
theorem dX1_about_67 : decode cX1_about 67 = .ok (.lreturn, 1) := by decide +kernel
theorem dX1_about_68 : decode cX1_about 68 = .ok (.aload_n 0, 1) := by decide +kernel
theorem dX1_about_69 : decode cX1_about 69 = .ok (.getfield 48, 3) := by decide +kernel
theorem dX1_about_72 : decode cX1_about 72 = .ok (.i2l, 1) := by decide +kernel
theorem dX1_about_73 : decode cX1_about 73 = .ok (.lreturn, 1) := by decide +kernel
theorem dX1_about_74 : decode cX1_about 74 = .ok (.aload_n 0, 1) := by decide +kernel
theorem dX1_about_75 : decode cX1_about 75 = .ok (.getfield 60, 3) := by decide +kernel
theorem dX1_about_78 : decode cX1_about 78 = .ok (.invokevirtual 122, 3) := by decide +kernel
theorem dX1_about_81 : decode cX1_about 81 = .ok (.i2l, 1) := by decide +kernel
theorem dX1_about_82 : decode cX1_about 82 = .ok (.lreturn, 1) := by decide +kernel
theorem dX1_about_83 : decode cX1_about 83 = .ok (.aload_n 0, 1) := by decide +kernel
theorem dX1_about_84 : decode cX1_about 84 = .ok (.getfield 64, 3) := by decide +kernel
theorem dX1_about_87 : decode cX1_about 87 = .ok (.lreturn, 1) := by decide +kernel
theorem dX1_about_88 : decode cX1_about 88 = .ok (.aload_n 0, 1) := by decide +kernel
theorem dX1_about_89 : decode cX1_about 89 = .ok (.getfield 17, 3) := by decide +kernel
theorem dX1_about_92 : decode cX1_about 92 = .ok (.iconst 0, 1) := by decide +kernel
theorem dX1_about_93 : decode cX1_about 93 = .ok (.laload, 1) := by decide +kernel
theorem dX1_about_94 : decode cX1_about 94 = .ok (.lreturn, 1) := by decide +kernel
theorem dX1_about_95 : decode cX1_about 95 = .ok (.aload_n 0, 1) := by decide +kernel
theorem dX1_about_96 : decode cX1_about 96 = .ok (.getfield 17, 3) := by decide +kernel
theorem dX1_about_99 : decode cX1_about 99 = .ok (.iconst 1, 1) := by decide +kernel
theorem dX1_about_100 : decode cX1_about 100 = .ok (.laload, 1) := by decide +kernel
theorem dX1_about_101 : decode cX1_about 101 = .ok (.lreturn, 1) := by decide +kernel
theorem dX1_about_102 : decode cX1_about 102 = .ok (.aload_n 0, 1) := by decide +kernel
theorem dX1_about_103 : decode cX1_about 103 = .ok (.getfield 17, 3) := by decide +kernel
theorem dX1_about_106 : decode cX1_about 106 = .ok (.iconst 2, 1) := by decide +kernel
theorem dX1_about_107 : decode cX1_about 107 = .ok (.laload, 1) := by decide +kernel
theorem dX1_about_108 : decode cX1_about 108 = .ok (.lreturn, 1) := by decide +kernel
theorem dX1_about_109 : decode cX1_about 109 = .ok (.aload_n 0, 1) := by decide +kernel
theorem dX1_about_110 : decode cX1_about 110 = .ok (.getfield 17, 3) := by decide +kernel
theorem dX1_about_113 : decode cX1_about 113 = .ok (.iconst 3, 1) := by decide +kernel
theorem dX1_about_114 : decode cX1_about 114 = .ok (.laload, 1) := by decide +kernel
theorem dX1_about_115 : decode cX1_about 115 = .ok (.lreturn, 1) := by decide +kernel
theorem dX1_about_116 : decode cX1_about 116 = .ok (.aload_n 0, 1) := by decide +kernel
theorem dX1_about_117 : decode cX1_about 117 = .ok (.getfield 17, 3) := by decide +kernel
theorem dX1_about_120 : decode cX1_about 120 = .ok (.iconst 4, 1) := by decide +kernel
theorem dX1_about_121 : decode cX1_about 121 = .ok (.laload, 1) := by decide +kernel
theorem dX1_about_122 : decode cX1_about 122 = .ok (.lreturn, 1) := by decide +kernel
theorem dX1_about_123 : decode cX1_about 123 = .ok (.ldc2_w 76, 3) := by decide +kernel
theorem dX1_about_126 : decode cX1_about 126 = .ok (.lreturn, 1) := by decide +kernel
set_option maxRecDepth 20000 in
theorem ggX1_holds_X1_isNode : GoodIn wsX1_holds wsX1_isNode := goodIn_r _ [10, 11, 45, 46, 47, 48, 49, 50, 51, 52, 53, 54, 55, 56, 57, 58] (by decide +kernel) (by decide +kernel)
set_option maxRecDepth 20000 in
theorem gX1_holds_X1_isNode : GoodIn wsX1_holds (wsV RX1 70 RX1 yX1_isNode wsX1_isNode) := goodIn_app (goodIn_of _ (by decide +kernel)) ggX1_holds_X1_isNode
set_option maxRecDepth 20000 in
theorem ggX1_holds_X1_countTakenOf : GoodIn wsX1_holds wsX1_countTakenOf := goodIn_r _ [15, 16, 17, 18, 19, 20, 21, 22, 23, 24, 25, 26, 27, 28, 29, 30, 31, 32, 33, 34, 35, 36, 37, 38, 39, 40, 41, 42, 43, 9, 44, 45, 46, 47, 48, 49, 50, 51, 52, 53, 54, 55, 56, 57, 58, 59, 60, 61, 62, 63, 64, 65, 66, 67, 68] (by decide +kernel) (by decide +kernel)
set_option maxRecDepth 20000 in
theorem gX1_holds_X1_countTakenOf : GoodIn wsX1_holds (wsV RX1 126 RX1 yX1_countTakenOf wsX1_countTakenOf) := goodIn_app (goodIn_of _ (by decide +kernel)) ggX1_holds_X1_countTakenOf
theorem dX1_holds_0 : decode cX1_holds 0 = .ok (.aload_n 0, 1) := by decide +kernel
theorem dX1_holds_1 : decode cX1_holds 1 = .ok (.iload_n 1, 1) := by decide +kernel
theorem dX1_holds_2 : decode cX1_holds 2 = .ok (.invokevirtual 70, 3) := by decide +kernel
theorem dX1_holds_5 : decode cX1_holds 5 = .ok (.ifCond .ne 7, 3) := by decide +kernel
theorem dX1_holds_8 : decode cX1_holds 8 = .ok (.ldc2_w 74, 3) := by decide +kernel
theorem dX1_holds_11 : decode cX1_holds 11 = .ok (.lreturn, 1) := by decide +kernel
theorem dX1_holds_12 : decode cX1_holds 12 = .ok (.iload_n 2, 1) := by decide +kernel
theorem dX1_holds_13 : decode cX1_holds 13 = .ok (.tableswitch 67 0 3 #[31, 38, 45, 60], 31) := by decide +kernel
theorem dX1_holds_44 : decode cX1_holds 44 = .ok (.aload_n 0, 1) := by decide +kernel
theorem dX1_holds_45 : decode cX1_holds 45 = .ok (.getfield 21, 3) := by decide +kernel
theorem dX1_holds_48 : decode cX1_holds 48 = .ok (.iload_n 1, 1) := by decide +kernel
theorem dX1_holds_49 : decode cX1_holds 49 = .ok (.laload, 1) := by decide +kernel
theorem dX1_holds_50 : decode cX1_holds 50 = .ok (.lreturn, 1) := by decide +kernel
theorem dX1_holds_51 : decode cX1_holds 51 = .ok (.aload_n 0, 1) := by decide +kernel
theorem dX1_holds_52 : decode cX1_holds 52 = .ok (.getfield 24, 3) := by decide +kernel
theorem dX1_holds_55 : decode cX1_holds 55 = .ok (.iload_n 1, 1) := by decide +kernel
theorem dX1_holds_56 : decode cX1_holds 56 = .ok (.laload, 1) := by decide +kernel
theorem dX1_holds_57 : decode cX1_holds 57 = .ok (.lreturn, 1) := by decide +kernel
theorem dX1_holds_58 : decode cX1_holds 58 = .ok (.aload_n 0, 1) := by decide +kernel
theorem dX1_holds_59 : decode cX1_holds 59 = .ok (.getfield 27, 3) := by decide +kernel
theorem dX1_holds_62 : decode cX1_holds 62 = .ok (.iload_n 1, 1) := by decide +kernel
theorem dX1_holds_63 : decode cX1_holds 63 = .ok (.baload, 1) := by decide +kernel
theorem dX1_holds_64 : decode cX1_holds 64 = .ok (.ifCond .eq 7, 3) := by decide +kernel
theorem dX1_holds_67 : decode cX1_holds 67 = .ok (.lconst 1, 1) := by decide +kernel
theorem dX1_holds_68 : decode cX1_holds 68 = .ok (.goto 4, 3) := by decide +kernel
theorem dX1_holds_71 : decode cX1_holds 71 = .ok (.lconst 0, 1) := by decide +kernel
theorem dX1_holds_72 : decode cX1_holds 72 = .ok (.lreturn, 1) := by decide +kernel
theorem dX1_holds_73 : decode cX1_holds 73 = .ok (.aload_n 0, 1) := by decide +kernel
theorem dX1_holds_74 : decode cX1_holds 74 = .ok (.iload_n 1, 1) := by decide +kernel
theorem dX1_holds_75 : decode cX1_holds 75 = .ok (.invokevirtual 126, 3) := by decide +kernel
theorem dX1_holds_78 : decode cX1_holds 78 = .ok (.i2l, 1) := by decide +kernel
theorem dX1_holds_79 : decode cX1_holds 79 = .ok (.lreturn, 1) := by decide +kernel
theorem dX1_holds_80 : decode cX1_holds 80 = .ok (.ldc2_w 76, 3) := by decide +kernel
theorem dX1_holds_83 : decode cX1_holds 83 = .ok (.lreturn, 1) := by decide +kernel
set_option maxRecDepth 20000 in
theorem ggX1_said_X1_isVote : GoodIn wsX1_said wsX1_isVote := goodIn_r _ [6, 7, 23, 24, 25, 26, 27, 28, 29, 30, 31, 32, 33, 34, 35, 36] (by decide +kernel) (by decide +kernel)
set_option maxRecDepth 20000 in
theorem gX1_said_X1_isVote : GoodIn wsX1_said (wsV RX1 129 RX1 yX1_isVote wsX1_isVote) := goodIn_app (goodIn_of _ (by decide +kernel)) ggX1_said_X1_isVote
set_option maxRecDepth 20000 in
theorem ggX1_said_X1_nodeOf : GoodIn wsX1_said wsX1_nodeOf := goodIn_r _ [10] (by decide +kernel) (by decide +kernel)
set_option maxRecDepth 20000 in
theorem gX1_said_X1_nodeOf : GoodIn wsX1_said (va_wsS RX1 132 yX1_nodeOf wsX1_nodeOf) := goodIn_app (goodIn_of _ (by decide +kernel)) ggX1_said_X1_nodeOf
set_option maxRecDepth 20000 in
theorem ggX1_said_X1_heightOf : GoodIn wsX1_said wsX1_heightOf := goodIn_r _ [13] (by decide +kernel) (by decide +kernel)
set_option maxRecDepth 20000 in
theorem gX1_said_X1_heightOf : GoodIn wsX1_said (va_wsS RX1 135 yX1_heightOf wsX1_heightOf) := goodIn_app (goodIn_of _ (by decide +kernel)) ggX1_said_X1_heightOf
set_option maxRecDepth 20000 in
theorem ggX1_said_X1_roundOf : GoodIn wsX1_said wsX1_roundOf := goodIn_r _ [16] (by decide +kernel) (by decide +kernel)
set_option maxRecDepth 20000 in
theorem gX1_said_X1_roundOf : GoodIn wsX1_said (va_wsS RX1 138 yX1_roundOf wsX1_roundOf) := goodIn_app (goodIn_of _ (by decide +kernel)) ggX1_said_X1_roundOf
set_option maxRecDepth 20000 in
theorem ggX1_said_X1_stepOf : GoodIn wsX1_said wsX1_stepOf := goodIn_r _ [19] (by decide +kernel) (by decide +kernel)
set_option maxRecDepth 20000 in
theorem gX1_said_X1_stepOf : GoodIn wsX1_said (va_wsS RX1 141 yX1_stepOf wsX1_stepOf) := goodIn_app (goodIn_of _ (by decide +kernel)) ggX1_said_X1_stepOf
set_option maxRecDepth 20000 in
theorem ggX1_said_X1_blockOf : GoodIn wsX1_said wsX1_blockOf := goodIn_r _ [22] (by decide +kernel) (by decide +kernel)
set_option maxRecDepth 20000 in
theorem gX1_said_X1_blockOf : GoodIn wsX1_said (va_wsS RX1 144 yX1_blockOf wsX1_blockOf) := goodIn_app (goodIn_of _ (by decide +kernel)) ggX1_said_X1_blockOf
theorem dX1_said_0 : decode cX1_said 0 = .ok (.aload_n 0, 1) := by decide +kernel
theorem dX1_said_1 : decode cX1_said 1 = .ok (.iload_n 1, 1) := by decide +kernel
theorem dX1_said_2 : decode cX1_said 2 = .ok (.invokevirtual 129, 3) := by decide +kernel
theorem dX1_said_5 : decode cX1_said 5 = .ok (.ifCond .ne 6, 3) := by decide +kernel
theorem dX1_said_8 : decode cX1_said 8 = .ok (.bipush (-101), 2) := by decide +kernel
theorem dX1_said_10 : decode cX1_said 10 = .ok (.ireturn, 1) := by decide +kernel
theorem dX1_said_11 : decode cX1_said 11 = .ok (.iload_n 2, 1) := by decide +kernel
theorem dX1_said_12 : decode cX1_said 12 = .ok (.tableswitch 86 0 4 #[36, 46, 56, 66, 76], 36) := by decide +kernel
theorem dX1_said_48 : decode cX1_said 48 = .ok (.aload_n 0, 1) := by decide +kernel
theorem dX1_said_49 : decode cX1_said 49 = .ok (.getfield 44, 3) := by decide +kernel
theorem dX1_said_52 : decode cX1_said 52 = .ok (.iload_n 1, 1) := by decide +kernel
theorem dX1_said_53 : decode cX1_said 53 = .ok (.iaload, 1) := by decide +kernel
theorem dX1_said_54 : decode cX1_said 54 = .ok (.invokestatic 132, 3) := by decide +kernel
theorem dX1_said_57 : decode cX1_said 57 = .ok (.ireturn, 1) := by decide +kernel
theorem dX1_said_58 : decode cX1_said 58 = .ok (.aload_n 0, 1) := by decide +kernel
theorem dX1_said_59 : decode cX1_said 59 = .ok (.getfield 44, 3) := by decide +kernel
theorem dX1_said_62 : decode cX1_said 62 = .ok (.iload_n 1, 1) := by decide +kernel
theorem dX1_said_63 : decode cX1_said 63 = .ok (.iaload, 1) := by decide +kernel
theorem dX1_said_64 : decode cX1_said 64 = .ok (.invokestatic 135, 3) := by decide +kernel
theorem dX1_said_67 : decode cX1_said 67 = .ok (.ireturn, 1) := by decide +kernel
theorem dX1_said_68 : decode cX1_said 68 = .ok (.aload_n 0, 1) := by decide +kernel
theorem dX1_said_69 : decode cX1_said 69 = .ok (.getfield 44, 3) := by decide +kernel
theorem dX1_said_72 : decode cX1_said 72 = .ok (.iload_n 1, 1) := by decide +kernel
theorem dX1_said_73 : decode cX1_said 73 = .ok (.iaload, 1) := by decide +kernel
theorem dX1_said_74 : decode cX1_said 74 = .ok (.invokestatic 138, 3) := by decide +kernel
theorem dX1_said_77 : decode cX1_said 77 = .ok (.ireturn, 1) := by decide +kernel
theorem dX1_said_78 : decode cX1_said 78 = .ok (.aload_n 0, 1) := by decide +kernel
theorem dX1_said_79 : decode cX1_said 79 = .ok (.getfield 44, 3) := by decide +kernel
theorem dX1_said_82 : decode cX1_said 82 = .ok (.iload_n 1, 1) := by decide +kernel
theorem dX1_said_83 : decode cX1_said 83 = .ok (.iaload, 1) := by decide +kernel
theorem dX1_said_84 : decode cX1_said 84 = .ok (.invokestatic 141, 3) := by decide +kernel
theorem dX1_said_87 : decode cX1_said 87 = .ok (.ireturn, 1) := by decide +kernel
theorem dX1_said_88 : decode cX1_said 88 = .ok (.aload_n 0, 1) := by decide +kernel
theorem dX1_said_89 : decode cX1_said 89 = .ok (.getfield 44, 3) := by decide +kernel
theorem dX1_said_92 : decode cX1_said 92 = .ok (.iload_n 1, 1) := by decide +kernel
theorem dX1_said_93 : decode cX1_said 93 = .ok (.iaload, 1) := by decide +kernel
theorem dX1_said_94 : decode cX1_said 94 = .ok (.invokestatic 144, 3) := by decide +kernel
theorem dX1_said_97 : decode cX1_said 97 = .ok (.ireturn, 1) := by decide +kernel
theorem dX1_said_98 : decode cX1_said 98 = .ok (.bipush (-102), 2) := by decide +kernel
theorem dX1_said_100 : decode cX1_said 100 = .ok (.ireturn, 1) := by decide +kernel
set_option maxRecDepth 20000 in
theorem ggX1_weight_X1_isNodeOrNone : GoodIn wsX1_weight wsX1_isNodeOrNone := goodIn_r _ [9, 10, 11, 12, 8, 13, 14, 23, 24, 25, 26, 27, 28, 29, 30, 31, 32, 33, 34, 35, 36] (by decide +kernel) (by decide +kernel)
set_option maxRecDepth 20000 in
theorem gX1_weight_X1_isNodeOrNone : GoodIn wsX1_weight (wsV RX1 147 RX1 yX1_isNodeOrNone wsX1_isNodeOrNone) := goodIn_app (goodIn_of _ (by decide +kernel)) ggX1_weight_X1_isNodeOrNone
set_option maxRecDepth 20000 in
theorem ggX1_weight_X1_hasBegun : GoodIn wsX1_weight wsX1_hasBegun := goodIn_r _ [18, 19, 23, 24, 25, 26, 27, 28, 29, 30, 31, 32, 33, 34, 35, 36] (by decide +kernel) (by decide +kernel)
set_option maxRecDepth 20000 in
theorem gX1_weight_X1_hasBegun : GoodIn wsX1_weight (wsV RX1 150 RX1 yX1_hasBegun wsX1_hasBegun) := goodIn_app (goodIn_of _ (by decide +kernel)) ggX1_weight_X1_hasBegun
set_option maxRecDepth 20000 in
theorem ggX1_weight_X1_weightIndex : GoodIn wsX1_weight wsX1_weightIndex := goodIn_r _ [22] (by decide +kernel) (by decide +kernel)
set_option maxRecDepth 20000 in
theorem gX1_weight_X1_weightIndex : GoodIn wsX1_weight (va_wsS RX1 153 yX1_weightIndex wsX1_weightIndex) := goodIn_app (goodIn_of _ (by decide +kernel)) ggX1_weight_X1_weightIndex
theorem dX1_weight_0 : decode cX1_weight 0 = .ok (.aload_n 0, 1) := by decide +kernel
theorem dX1_weight_1 : decode cX1_weight 1 = .ok (.iload_n 2, 1) := by decide +kernel
theorem dX1_weight_2 : decode cX1_weight 2 = .ok (.invokevirtual 147, 3) := by decide +kernel
theorem dX1_weight_5 : decode cX1_weight 5 = .ok (.ifCond .ne 7, 3) := by decide +kernel
theorem dX1_weight_8 : decode cX1_weight 8 = .ok (.ldc2_w 74, 3) := by decide +kernel
theorem dX1_weight_11 : decode cX1_weight 11 = .ok (.lreturn, 1) := by decide +kernel
theorem dX1_weight_12 : decode cX1_weight 12 = .ok (.aload_n 0, 1) := by decide +kernel
theorem dX1_weight_13 : decode cX1_weight 13 = .ok (.iload_n 1, 1) := by decide +kernel
theorem dX1_weight_14 : decode cX1_weight 14 = .ok (.invokevirtual 150, 3) := by decide +kernel
theorem dX1_weight_17 : decode cX1_weight 17 = .ok (.ifCond .ne 7, 3) := by decide +kernel
theorem dX1_weight_20 : decode cX1_weight 20 = .ok (.ldc2_w 76, 3) := by decide +kernel
theorem dX1_weight_23 : decode cX1_weight 23 = .ok (.lreturn, 1) := by decide +kernel
theorem dX1_weight_24 : decode cX1_weight 24 = .ok (.iload_n 2, 1) := by decide +kernel
theorem dX1_weight_25 : decode cX1_weight 25 = .ok (.iconst (-1), 1) := by decide +kernel
theorem dX1_weight_26 : decode cX1_weight 26 = .ok (.if_icmp .ne 12, 3) := by decide +kernel
theorem dX1_weight_29 : decode cX1_weight 29 = .ok (.aload_n 0, 1) := by decide +kernel
theorem dX1_weight_30 : decode cX1_weight 30 = .ok (.getfield 41, 3) := by decide +kernel
theorem dX1_weight_33 : decode cX1_weight 33 = .ok (.iload_n 1, 1) := by decide +kernel
theorem dX1_weight_34 : decode cX1_weight 34 = .ok (.laload, 1) := by decide +kernel
theorem dX1_weight_35 : decode cX1_weight 35 = .ok (.goto 13, 3) := by decide +kernel
theorem dX1_weight_38 : decode cX1_weight 38 = .ok (.aload_n 0, 1) := by decide +kernel
theorem dX1_weight_39 : decode cX1_weight 39 = .ok (.getfield 38, 3) := by decide +kernel
theorem dX1_weight_42 : decode cX1_weight 42 = .ok (.iload_n 1, 1) := by decide +kernel
theorem dX1_weight_43 : decode cX1_weight 43 = .ok (.iload_n 2, 1) := by decide +kernel
theorem dX1_weight_44 : decode cX1_weight 44 = .ok (.invokestatic 153, 3) := by decide +kernel
theorem dX1_weight_47 : decode cX1_weight 47 = .ok (.laload, 1) := by decide +kernel
theorem dX1_weight_48 : decode cX1_weight 48 = .ok (.lreturn, 1) := by decide +kernel
set_option maxRecDepth 20000 in
theorem ggX1_backed_X1_hasBegun : GoodIn wsX1_backed wsX1_hasBegun := goodIn_r _ [6, 7, 30, 31, 32, 33, 34, 35, 36, 37, 38, 39, 40, 41, 42, 43] (by decide +kernel) (by decide +kernel)
set_option maxRecDepth 20000 in
theorem gX1_backed_X1_hasBegun : GoodIn wsX1_backed (wsV RX1 150 RX1 yX1_hasBegun wsX1_hasBegun) := goodIn_app (goodIn_of _ (by decide +kernel)) ggX1_backed_X1_hasBegun
set_option maxRecDepth 20000 in
theorem ggX1_backed_X1_isSayable : GoodIn wsX1_backed wsX1_isSayable := goodIn_r _ [10] (by decide +kernel) (by decide +kernel)
set_option maxRecDepth 20000 in
theorem gX1_backed_X1_isSayable : GoodIn wsX1_backed (va_wsS RX1 156 yX1_isSayable wsX1_isSayable) := goodIn_app (goodIn_of _ (by decide +kernel)) ggX1_backed_X1_isSayable
set_option maxRecDepth 20000 in
theorem ggX1_backed_X1_packed : GoodIn wsX1_backed wsX1_packed := goodIn_r _ [13] (by decide +kernel) (by decide +kernel)
set_option maxRecDepth 20000 in
theorem gX1_backed_X1_packed : GoodIn wsX1_backed (va_wsS RX1 92 yX1_packed wsX1_packed) := goodIn_app (goodIn_of _ (by decide +kernel)) ggX1_backed_X1_packed
set_option maxRecDepth 20000 in
theorem ggX1_backed_X1_weightFor : GoodIn wsX1_backed wsX1_weightFor := goodIn_r _ [17, 18, 19, 20, 21, 22, 5, 23, 24, 25, 26, 27, 28, 29, 30, 31, 32, 33, 34, 35, 36, 37, 38, 39, 40, 41, 42, 43] (by decide +kernel) (by decide +kernel)
set_option maxRecDepth 20000 in
theorem gX1_backed_X1_weightFor : GoodIn wsX1_backed (wsV RX1 160 RX1 yX1_weightFor wsX1_weightFor) := goodIn_app (goodIn_of _ (by decide +kernel)) ggX1_backed_X1_weightFor
theorem dX1_backed_0 : decode cX1_backed 0 = .ok (.aload_n 0, 1) := by decide +kernel
theorem dX1_backed_1 : decode cX1_backed 1 = .ok (.iload_n 1, 1) := by decide +kernel
theorem dX1_backed_2 : decode cX1_backed 2 = .ok (.invokevirtual 150, 3) := by decide +kernel
theorem dX1_backed_5 : decode cX1_backed 5 = .ok (.ifCond .eq 13, 3) := by decide +kernel
theorem dX1_backed_8 : decode cX1_backed 8 = .ok (.iload_n 2, 1) := by decide +kernel
theorem dX1_backed_9 : decode cX1_backed 9 = .ok (.iload_n 3, 1) := by decide +kernel
theorem dX1_backed_10 : decode cX1_backed 10 = .ok (.iload 4, 2) := by decide +kernel
theorem dX1_backed_12 : decode cX1_backed 12 = .ok (.invokestatic 156, 3) := by decide +kernel
theorem dX1_backed_15 : decode cX1_backed 15 = .ok (.ifCond .ne 7, 3) := by decide +kernel
theorem dX1_backed_18 : decode cX1_backed 18 = .ok (.ldc2_w 76, 3) := by decide +kernel
theorem dX1_backed_21 : decode cX1_backed 21 = .ok (.lreturn, 1) := by decide +kernel
theorem dX1_backed_22 : decode cX1_backed 22 = .ok (.aload_n 0, 1) := by decide +kernel
theorem dX1_backed_23 : decode cX1_backed 23 = .ok (.iconst 0, 1) := by decide +kernel
theorem dX1_backed_24 : decode cX1_backed 24 = .ok (.iload_n 1, 1) := by decide +kernel
theorem dX1_backed_25 : decode cX1_backed 25 = .ok (.iload_n 2, 1) := by decide +kernel
theorem dX1_backed_26 : decode cX1_backed 26 = .ok (.iload_n 3, 1) := by decide +kernel
theorem dX1_backed_27 : decode cX1_backed 27 = .ok (.iload 4, 2) := by decide +kernel
theorem dX1_backed_29 : decode cX1_backed 29 = .ok (.invokestatic 92, 3) := by decide +kernel
theorem dX1_backed_32 : decode cX1_backed 32 = .ok (.invokevirtual 160, 3) := by decide +kernel
theorem dX1_backed_35 : decode cX1_backed 35 = .ok (.lreturn, 1) := by decide +kernel
set_option maxRecDepth 20000 in
theorem ggX1_certain_X1_hasBegun : GoodIn wsX1_certain wsX1_hasBegun := goodIn_r _ [6, 7, 11, 12, 13, 14, 15, 16, 17, 18, 19, 20, 21, 22, 23, 24] (by decide +kernel) (by decide +kernel)
set_option maxRecDepth 20000 in
theorem gX1_certain_X1_hasBegun : GoodIn wsX1_certain (wsV RX1 150 RX1 yX1_hasBegun wsX1_hasBegun) := goodIn_app (goodIn_of _ (by decide +kernel)) ggX1_certain_X1_hasBegun
set_option maxRecDepth 20000 in
theorem ggX1_certain_X1_hasBlock : GoodIn wsX1_certain wsX1_hasBlock := goodIn_r _ [10] (by decide +kernel) (by decide +kernel)
set_option maxRecDepth 20000 in
theorem gX1_certain_X1_hasBlock : GoodIn wsX1_certain (va_wsS RX1 164 yX1_hasBlock wsX1_hasBlock) := goodIn_app (goodIn_of _ (by decide +kernel)) ggX1_certain_X1_hasBlock
theorem dX1_certain_0 : decode cX1_certain 0 = .ok (.aload_n 0, 1) := by decide +kernel
theorem dX1_certain_1 : decode cX1_certain 1 = .ok (.iload_n 1, 1) := by decide +kernel
theorem dX1_certain_2 : decode cX1_certain 2 = .ok (.invokevirtual 150, 3) := by decide +kernel
theorem dX1_certain_5 : decode cX1_certain 5 = .ok (.ifCond .ne 6, 3) := by decide +kernel
theorem dX1_certain_8 : decode cX1_certain 8 = .ok (.bipush (-102), 2) := by decide +kernel
end
section
theorem dX1_certain_10 : decode cX1_certain 10 = .ok (.ireturn, 1) := by decide +kernel
theorem dX1_certain_11 : decode cX1_certain 11 = .ok (.iconst 0, 1) := by decide +kernel
theorem dX1_certain_12 : decode cX1_certain 12 = .ok (.istore_n 3, 1) := by decide +kernel
theorem dX1_certain_13 : decode cX1_certain 13 = .ok (.iconst 1, 1) := by decide +kernel
theorem dX1_certain_14 : decode cX1_certain 14 = .ok (.istore 4, 2) := by decide +kernel
theorem dX1_certain_16 : decode cX1_certain 16 = .ok (.iload 4, 2) := by decide +kernel
theorem dX1_certain_18 : decode cX1_certain 18 = .ok (.bipush 10, 2) := by decide +kernel
theorem dX1_certain_20 : decode cX1_certain 20 = .ok (.if_icmp .ge 34, 3) := by decide +kernel
theorem dX1_certain_23 : decode cX1_certain 23 = .ok (.aload_n 0, 1) := by decide +kernel
theorem dX1_certain_24 : decode cX1_certain 24 = .ok (.getfield 54, 3) := by decide +kernel
theorem dX1_certain_27 : decode cX1_certain 27 = .ok (.iload_n 1, 1) := by decide +kernel
theorem dX1_certain_28 : decode cX1_certain 28 = .ok (.iaload, 1) := by decide +kernel
theorem dX1_certain_29 : decode cX1_certain 29 = .ok (.iload 4, 2) := by decide +kernel
theorem dX1_certain_31 : decode cX1_certain 31 = .ok (.invokestatic 164, 3) := by decide +kernel
theorem dX1_certain_34 : decode cX1_certain 34 = .ok (.ifCond .eq 14, 3) := by decide +kernel
theorem dX1_certain_37 : decode cX1_certain 37 = .ok (.iload_n 3, 1) := by decide +kernel
theorem dX1_certain_38 : decode cX1_certain 38 = .ok (.iload_n 2, 1) := by decide +kernel
theorem dX1_certain_39 : decode cX1_certain 39 = .ok (.if_icmp .ne 6, 3) := by decide +kernel
theorem dX1_certain_42 : decode cX1_certain 42 = .ok (.iload 4, 2) := by decide +kernel
theorem dX1_certain_44 : decode cX1_certain 44 = .ok (.ireturn, 1) := by decide +kernel
theorem dX1_certain_45 : decode cX1_certain 45 = .ok (.iinc 3 1, 3) := by decide +kernel
theorem dX1_certain_48 : decode cX1_certain 48 = .ok (.iinc 4 1, 3) := by decide +kernel
theorem dX1_certain_51 : decode cX1_certain 51 = .ok (.goto (-35), 3) := by decide +kernel
theorem dX1_certain_54 : decode cX1_certain 54 = .ok (.iconst (-1), 1) := by decide +kernel
theorem dX1_certain_55 : decode cX1_certain 55 = .ok (.ireturn, 1) := by decide +kernel
set_option maxRecDepth 20000 in
theorem ggX1_breaks_X1_hasBegun : GoodIn wsX1_breaks wsX1_hasBegun := goodIn_r _ [7, 8, 64, 65, 66, 67, 68, 69, 70, 71, 72, 73, 74, 75, 76, 77] (by decide +kernel) (by decide +kernel)
set_option maxRecDepth 20000 in
theorem gX1_breaks_X1_hasBegun : GoodIn wsX1_breaks (wsV RX1 150 RX1 yX1_hasBegun wsX1_hasBegun) := goodIn_app (goodIn_of _ (by decide +kernel)) ggX1_breaks_X1_hasBegun
set_option maxRecDepth 20000 in
theorem ggX1_breaks_X1_isKind : GoodIn wsX1_breaks wsX1_isKind := goodIn_r _ [11] (by decide +kernel) (by decide +kernel)
set_option maxRecDepth 20000 in
theorem gX1_breaks_X1_isKind : GoodIn wsX1_breaks (va_wsS RX1 168 yX1_isKind wsX1_isKind) := goodIn_app (goodIn_of _ (by decide +kernel)) ggX1_breaks_X1_isKind
set_option maxRecDepth 20000 in
theorem ggX1_breaks_X1_heightOf : GoodIn wsX1_breaks wsX1_heightOf := goodIn_r _ [14] (by decide +kernel) (by decide +kernel)
set_option maxRecDepth 20000 in
theorem gX1_breaks_X1_heightOf : GoodIn wsX1_breaks (va_wsS RX1 135 yX1_heightOf wsX1_heightOf) := goodIn_app (goodIn_of _ (by decide +kernel)) ggX1_breaks_X1_heightOf
set_option maxRecDepth 20000 in
theorem ggX1_breaks_X1_countBreaksFrom : GoodIn wsX1_breaks wsX1_countBreaksFrom := goodIn_r _ [18, 2, 1, 19, 20, 21, 6, 22, 23, 24, 25, 26, 27, 28, 29, 30, 31, 12, 13, 14, 32, 33, 34, 35, 36, 37, 38, 39, 40, 41, 42, 43, 44, 45, 46, 47, 48, 49, 50, 51, 52, 53, 54, 55, 56, 57, 58, 59, 60, 61, 62, 63, 64, 65, 66, 67, 68, 69, 70, 71, 72, 73, 74, 75, 76, 77] (by decide +kernel) (by decide +kernel)
set_option maxRecDepth 20000 in
theorem gX1_breaks_X1_countBreaksFrom : GoodIn wsX1_breaks (wsV RX1 171 RX1 yX1_countBreaksFrom wsX1_countBreaksFrom) := goodIn_app (goodIn_of _ (by decide +kernel)) ggX1_breaks_X1_countBreaksFrom
theorem dX1_breaks_0 : decode cX1_breaks 0 = .ok (.aload_n 0, 1) := by decide +kernel
theorem dX1_breaks_1 : decode cX1_breaks 1 = .ok (.iload_n 1, 1) := by decide +kernel
theorem dX1_breaks_2 : decode cX1_breaks 2 = .ok (.invokevirtual 150, 3) := by decide +kernel
theorem dX1_breaks_5 : decode cX1_breaks 5 = .ok (.ifCond .eq 10, 3) := by decide +kernel
theorem dX1_breaks_8 : decode cX1_breaks 8 = .ok (.iload_n 2, 1) := by decide +kernel
theorem dX1_breaks_9 : decode cX1_breaks 9 = .ok (.invokestatic 168, 3) := by decide +kernel
theorem dX1_breaks_12 : decode cX1_breaks 12 = .ok (.ifCond .ne 6, 3) := by decide +kernel
theorem dX1_breaks_15 : decode cX1_breaks 15 = .ok (.bipush (-102), 2) := by decide +kernel
theorem dX1_breaks_17 : decode cX1_breaks 17 = .ok (.ireturn, 1) := by decide +kernel
theorem dX1_breaks_18 : decode cX1_breaks 18 = .ok (.iconst 0, 1) := by decide +kernel
theorem dX1_breaks_19 : decode cX1_breaks 19 = .ok (.istore_n 3, 1) := by decide +kernel
theorem dX1_breaks_20 : decode cX1_breaks 20 = .ok (.iconst 0, 1) := by decide +kernel
theorem dX1_breaks_21 : decode cX1_breaks 21 = .ok (.istore 4, 2) := by decide +kernel
theorem dX1_breaks_23 : decode cX1_breaks 23 = .ok (.iload 4, 2) := by decide +kernel
theorem dX1_breaks_25 : decode cX1_breaks 25 = .ok (.aload_n 0, 1) := by decide +kernel
theorem dX1_breaks_26 : decode cX1_breaks 26 = .ok (.getfield 48, 3) := by decide +kernel
theorem dX1_breaks_29 : decode cX1_breaks 29 = .ok (.if_icmp .ge 33, 3) := by decide +kernel
theorem dX1_breaks_32 : decode cX1_breaks 32 = .ok (.aload_n 0, 1) := by decide +kernel
theorem dX1_breaks_33 : decode cX1_breaks 33 = .ok (.getfield 44, 3) := by decide +kernel
theorem dX1_breaks_36 : decode cX1_breaks 36 = .ok (.iload 4, 2) := by decide +kernel
theorem dX1_breaks_38 : decode cX1_breaks 38 = .ok (.iaload, 1) := by decide +kernel
theorem dX1_breaks_39 : decode cX1_breaks 39 = .ok (.invokestatic 135, 3) := by decide +kernel
theorem dX1_breaks_42 : decode cX1_breaks 42 = .ok (.iload_n 1, 1) := by decide +kernel
theorem dX1_breaks_43 : decode cX1_breaks 43 = .ok (.if_icmp .ne 13, 3) := by decide +kernel
theorem dX1_breaks_46 : decode cX1_breaks 46 = .ok (.iload_n 3, 1) := by decide +kernel
theorem dX1_breaks_47 : decode cX1_breaks 47 = .ok (.aload_n 0, 1) := by decide +kernel
theorem dX1_breaks_48 : decode cX1_breaks 48 = .ok (.iload_n 2, 1) := by decide +kernel
theorem dX1_breaks_49 : decode cX1_breaks 49 = .ok (.iload 4, 2) := by decide +kernel
theorem dX1_breaks_51 : decode cX1_breaks 51 = .ok (.invokevirtual 171, 3) := by decide +kernel
theorem dX1_breaks_54 : decode cX1_breaks 54 = .ok (.iadd, 1) := by decide +kernel
theorem dX1_breaks_55 : decode cX1_breaks 55 = .ok (.istore_n 3, 1) := by decide +kernel
theorem dX1_breaks_56 : decode cX1_breaks 56 = .ok (.iinc 4 1, 3) := by decide +kernel
theorem dX1_breaks_59 : decode cX1_breaks 59 = .ok (.goto (-36), 3) := by decide +kernel
theorem dX1_breaks_62 : decode cX1_breaks 62 = .ok (.iload_n 3, 1) := by decide +kernel
theorem dX1_breaks_63 : decode cX1_breaks 63 = .ok (.ireturn, 1) := by decide +kernel
set_option maxRecDepth 20000 in
theorem ggX1_broken_X1_hasBegun : GoodIn wsX1_broken wsX1_hasBegun := goodIn_r _ [7, 8, 68, 69, 70, 71, 72, 73, 74, 75, 76, 77, 78, 79, 80, 81] (by decide +kernel) (by decide +kernel)
set_option maxRecDepth 20000 in
theorem gX1_broken_X1_hasBegun : GoodIn wsX1_broken (wsV RX1 150 RX1 yX1_hasBegun wsX1_hasBegun) := goodIn_app (goodIn_of _ (by decide +kernel)) ggX1_broken_X1_hasBegun
set_option maxRecDepth 20000 in
theorem ggX1_broken_X1_isKind : GoodIn wsX1_broken wsX1_isKind := goodIn_r _ [11] (by decide +kernel) (by decide +kernel)
set_option maxRecDepth 20000 in
theorem gX1_broken_X1_isKind : GoodIn wsX1_broken (va_wsS RX1 168 yX1_isKind wsX1_isKind) := goodIn_app (goodIn_of _ (by decide +kernel)) ggX1_broken_X1_isKind
set_option maxRecDepth 20000 in
theorem ggX1_broken_X1_heightOf : GoodIn wsX1_broken wsX1_heightOf := goodIn_r _ [14] (by decide +kernel) (by decide +kernel)
set_option maxRecDepth 20000 in
theorem gX1_broken_X1_heightOf : GoodIn wsX1_broken (va_wsS RX1 135 yX1_heightOf wsX1_heightOf) := goodIn_app (goodIn_of _ (by decide +kernel)) ggX1_broken_X1_heightOf
set_option maxRecDepth 20000 in
theorem ggX1_broken_X1_countBreaksFrom : GoodIn wsX1_broken wsX1_countBreaksFrom := goodIn_r _ [18, 2, 1, 19, 20, 21, 6, 22, 23, 24, 25, 26, 27, 28, 29, 30, 31, 12, 13, 14, 32, 33, 34, 35, 36, 37, 38, 39, 40, 41, 42, 43, 44, 45, 46, 47, 48, 49, 50, 51, 52, 53, 54, 55, 56, 57, 58, 59, 60, 61, 62, 63, 68, 69, 70, 71, 72, 73, 74, 75, 76, 77, 78, 79, 80, 81] (by decide +kernel) (by decide +kernel)
set_option maxRecDepth 20000 in
theorem gX1_broken_X1_countBreaksFrom : GoodIn wsX1_broken (wsV RX1 171 RX1 yX1_countBreaksFrom wsX1_countBreaksFrom) := goodIn_app (goodIn_of _ (by decide +kernel)) ggX1_broken_X1_countBreaksFrom
set_option maxRecDepth 20000 in
theorem ggX1_broken_X1_partner : GoodIn wsX1_broken wsX1_partner := goodIn_r _ [67, 1, 2, 46, 47, 6, 48, 49, 50, 51, 52, 53, 54, 55, 56, 57, 58, 59, 23, 24, 25, 26, 27, 28, 29, 30, 31, 43, 44, 45, 32, 33, 34, 12, 13, 14, 60, 61, 62, 63, 35, 36, 37, 38, 39, 40, 41, 42, 68, 69, 70, 71, 72, 73, 74, 75, 76, 77, 78, 79, 80, 81] (by decide +kernel) (by decide +kernel)
set_option maxRecDepth 20000 in
theorem gX1_broken_X1_partner : GoodIn wsX1_broken (wsV RX1 174 RX1 yX1_partner wsX1_partner) := goodIn_app (goodIn_of _ (by decide +kernel)) ggX1_broken_X1_partner
theorem dX1_broken_0 : decode cX1_broken 0 = .ok (.aload_n 0, 1) := by decide +kernel
theorem dX1_broken_1 : decode cX1_broken 1 = .ok (.iload_n 1, 1) := by decide +kernel
theorem dX1_broken_2 : decode cX1_broken 2 = .ok (.invokevirtual 150, 3) := by decide +kernel
theorem dX1_broken_5 : decode cX1_broken 5 = .ok (.ifCond .eq 21, 3) := by decide +kernel
theorem dX1_broken_8 : decode cX1_broken 8 = .ok (.iload_n 2, 1) := by decide +kernel
theorem dX1_broken_9 : decode cX1_broken 9 = .ok (.invokestatic 168, 3) := by decide +kernel
theorem dX1_broken_12 : decode cX1_broken 12 = .ok (.ifCond .eq 14, 3) := by decide +kernel
theorem dX1_broken_15 : decode cX1_broken 15 = .ok (.iload 4, 2) := by decide +kernel
theorem dX1_broken_17 : decode cX1_broken 17 = .ok (.ifCond .lt 9, 3) := by decide +kernel
theorem dX1_broken_20 : decode cX1_broken 20 = .ok (.iload 4, 2) := by decide +kernel
theorem dX1_broken_22 : decode cX1_broken 22 = .ok (.iconst 1, 1) := by decide +kernel
theorem dX1_broken_23 : decode cX1_broken 23 = .ok (.if_icmp .le 6, 3) := by decide +kernel
theorem dX1_broken_26 : decode cX1_broken 26 = .ok (.bipush (-102), 2) := by decide +kernel
theorem dX1_broken_28 : decode cX1_broken 28 = .ok (.ireturn, 1) := by decide +kernel
theorem dX1_broken_29 : decode cX1_broken 29 = .ok (.iload_n 3, 1) := by decide +kernel
theorem dX1_broken_30 : decode cX1_broken 30 = .ok (.ifCond .ge 5, 3) := by decide +kernel
theorem dX1_broken_33 : decode cX1_broken 33 = .ok (.iconst (-1), 1) := by decide +kernel
theorem dX1_broken_34 : decode cX1_broken 34 = .ok (.ireturn, 1) := by decide +kernel
theorem dX1_broken_35 : decode cX1_broken 35 = .ok (.iload_n 3, 1) := by decide +kernel
theorem dX1_broken_36 : decode cX1_broken 36 = .ok (.istore 5, 2) := by decide +kernel
theorem dX1_broken_38 : decode cX1_broken 38 = .ok (.iconst 0, 1) := by decide +kernel
theorem dX1_broken_39 : decode cX1_broken 39 = .ok (.istore 6, 2) := by decide +kernel
theorem dX1_broken_41 : decode cX1_broken 41 = .ok (.iload 6, 2) := by decide +kernel
theorem dX1_broken_43 : decode cX1_broken 43 = .ok (.aload_n 0, 1) := by decide +kernel
theorem dX1_broken_44 : decode cX1_broken 44 = .ok (.getfield 48, 3) := by decide +kernel
theorem dX1_broken_47 : decode cX1_broken 47 = .ok (.if_icmp .ge 66, 3) := by decide +kernel
theorem dX1_broken_50 : decode cX1_broken 50 = .ok (.aload_n 0, 1) := by decide +kernel
theorem dX1_broken_51 : decode cX1_broken 51 = .ok (.getfield 44, 3) := by decide +kernel
theorem dX1_broken_54 : decode cX1_broken 54 = .ok (.iload 6, 2) := by decide +kernel
theorem dX1_broken_56 : decode cX1_broken 56 = .ok (.iaload, 1) := by decide +kernel
theorem dX1_broken_57 : decode cX1_broken 57 = .ok (.invokestatic 135, 3) := by decide +kernel
theorem dX1_broken_60 : decode cX1_broken 60 = .ok (.iload_n 1, 1) := by decide +kernel
theorem dX1_broken_61 : decode cX1_broken 61 = .ok (.if_icmp .ne 46, 3) := by decide +kernel
theorem dX1_broken_64 : decode cX1_broken 64 = .ok (.aload_n 0, 1) := by decide +kernel
theorem dX1_broken_65 : decode cX1_broken 65 = .ok (.iload_n 2, 1) := by decide +kernel
theorem dX1_broken_66 : decode cX1_broken 66 = .ok (.iload 6, 2) := by decide +kernel
theorem dX1_broken_68 : decode cX1_broken 68 = .ok (.invokevirtual 171, 3) := by decide +kernel
theorem dX1_broken_71 : decode cX1_broken 71 = .ok (.istore 7, 2) := by decide +kernel
theorem dX1_broken_73 : decode cX1_broken 73 = .ok (.iload 5, 2) := by decide +kernel
theorem dX1_broken_75 : decode cX1_broken 75 = .ok (.iload 7, 2) := by decide +kernel
theorem dX1_broken_77 : decode cX1_broken 77 = .ok (.if_icmp .ge 23, 3) := by decide +kernel
theorem dX1_broken_80 : decode cX1_broken 80 = .ok (.iload 4, 2) := by decide +kernel
theorem dX1_broken_82 : decode cX1_broken 82 = .ok (.ifCond .ne 8, 3) := by decide +kernel
theorem dX1_broken_85 : decode cX1_broken 85 = .ok (.iload 6, 2) := by decide +kernel
theorem dX1_broken_87 : decode cX1_broken 87 = .ok (.goto 12, 3) := by decide +kernel
theorem dX1_broken_90 : decode cX1_broken 90 = .ok (.aload_n 0, 1) := by decide +kernel
theorem dX1_broken_91 : decode cX1_broken 91 = .ok (.iload_n 2, 1) := by decide +kernel
theorem dX1_broken_92 : decode cX1_broken 92 = .ok (.iload 6, 2) := by decide +kernel
theorem dX1_broken_94 : decode cX1_broken 94 = .ok (.iload 5, 2) := by decide +kernel
theorem dX1_broken_96 : decode cX1_broken 96 = .ok (.invokevirtual 174, 3) := by decide +kernel
theorem dX1_broken_99 : decode cX1_broken 99 = .ok (.ireturn, 1) := by decide +kernel
theorem dX1_broken_100 : decode cX1_broken 100 = .ok (.iload 5, 2) := by decide +kernel
theorem dX1_broken_102 : decode cX1_broken 102 = .ok (.iload 7, 2) := by decide +kernel
theorem dX1_broken_104 : decode cX1_broken 104 = .ok (.isub, 1) := by decide +kernel
theorem dX1_broken_105 : decode cX1_broken 105 = .ok (.istore 5, 2) := by decide +kernel
theorem dX1_broken_107 : decode cX1_broken 107 = .ok (.iinc 6 1, 3) := by decide +kernel
theorem dX1_broken_110 : decode cX1_broken 110 = .ok (.goto (-69), 3) := by decide +kernel
theorem dX1_broken_113 : decode cX1_broken 113 = .ok (.iconst (-1), 1) := by decide +kernel
theorem dX1_broken_114 : decode cX1_broken 114 = .ok (.ireturn, 1) := by decide +kernel
set_option maxRecDepth 20000 in
theorem ggX1_named_X1_hasBegun : GoodIn wsX1_named wsX1_hasBegun := goodIn_r _ [7, 8, 61, 62, 63, 64, 65, 66, 67, 68, 69, 70, 71, 72, 73, 74] (by decide +kernel) (by decide +kernel)
set_option maxRecDepth 20000 in
theorem gX1_named_X1_hasBegun : GoodIn wsX1_named (wsV RX1 150 RX1 yX1_hasBegun wsX1_hasBegun) := goodIn_app (goodIn_of _ (by decide +kernel)) ggX1_named_X1_hasBegun
set_option maxRecDepth 20000 in
theorem ggX1_named_X1_nodeOf : GoodIn wsX1_named wsX1_nodeOf := goodIn_r _ [11] (by decide +kernel) (by decide +kernel)
set_option maxRecDepth 20000 in
theorem gX1_named_X1_nodeOf : GoodIn wsX1_named (va_wsS RX1 132 yX1_nodeOf wsX1_nodeOf) := goodIn_app (goodIn_of _ (by decide +kernel)) ggX1_named_X1_nodeOf
set_option maxRecDepth 20000 in
theorem ggX1_named_X1_heightOf : GoodIn wsX1_named wsX1_heightOf := goodIn_r _ [14] (by decide +kernel) (by decide +kernel)
set_option maxRecDepth 20000 in
theorem gX1_named_X1_heightOf : GoodIn wsX1_named (va_wsS RX1 135 yX1_heightOf wsX1_heightOf) := goodIn_app (goodIn_of _ (by decide +kernel)) ggX1_named_X1_heightOf
set_option maxRecDepth 20000 in
theorem ggX1_named_X1_makesBreak : GoodIn wsX1_named wsX1_makesBreak := goodIn_r _ [18, 1, 2, 19, 20, 21, 6, 22, 23, 24, 25, 26, 27, 28, 29, 30, 31, 12, 13, 14, 32, 33, 34, 35, 36, 37, 38, 39, 40, 41, 42, 43, 44, 45, 46, 47, 48, 49, 50, 51, 52, 53, 54, 55, 56, 57, 58, 59, 60, 61, 62, 63, 64, 65, 66, 67, 68, 69, 70, 71, 72, 73, 74] (by decide +kernel) (by decide +kernel)
set_option maxRecDepth 20000 in
theorem gX1_named_X1_makesBreak : GoodIn wsX1_named (wsV RX1 102 RX1 yX1_makesBreak wsX1_makesBreak) := goodIn_app (goodIn_of _ (by decide +kernel)) ggX1_named_X1_makesBreak
theorem dX1_named_0 : decode cX1_named 0 = .ok (.aload_n 0, 1) := by decide +kernel
theorem dX1_named_1 : decode cX1_named 1 = .ok (.iload_n 1, 1) := by decide +kernel
theorem dX1_named_2 : decode cX1_named 2 = .ok (.invokevirtual 150, 3) := by decide +kernel
theorem dX1_named_5 : decode cX1_named 5 = .ok (.ifCond .ne 6, 3) := by decide +kernel
theorem dX1_named_8 : decode cX1_named 8 = .ok (.bipush (-102), 2) := by decide +kernel
theorem dX1_named_10 : decode cX1_named 10 = .ok (.ireturn, 1) := by decide +kernel
theorem dX1_named_11 : decode cX1_named 11 = .ok (.iconst 0, 1) := by decide +kernel
theorem dX1_named_12 : decode cX1_named 12 = .ok (.istore_n 2, 1) := by decide +kernel
theorem dX1_named_13 : decode cX1_named 13 = .ok (.iconst 0, 1) := by decide +kernel
theorem dX1_named_14 : decode cX1_named 14 = .ok (.istore_n 3, 1) := by decide +kernel
theorem dX1_named_15 : decode cX1_named 15 = .ok (.iload_n 3, 1) := by decide +kernel
theorem dX1_named_16 : decode cX1_named 16 = .ok (.aload_n 0, 1) := by decide +kernel
theorem dX1_named_17 : decode cX1_named 17 = .ok (.getfield 48, 3) := by decide +kernel
theorem dX1_named_20 : decode cX1_named 20 = .ok (.if_icmp .ge 60, 3) := by decide +kernel
theorem dX1_named_23 : decode cX1_named 23 = .ok (.iconst 1, 1) := by decide +kernel
theorem dX1_named_24 : decode cX1_named 24 = .ok (.aload_n 0, 1) := by decide +kernel
theorem dX1_named_25 : decode cX1_named 25 = .ok (.getfield 44, 3) := by decide +kernel
theorem dX1_named_28 : decode cX1_named 28 = .ok (.iload_n 3, 1) := by decide +kernel
theorem dX1_named_29 : decode cX1_named 29 = .ok (.iaload, 1) := by decide +kernel
theorem dX1_named_30 : decode cX1_named 30 = .ok (.invokestatic 132, 3) := by decide +kernel
theorem dX1_named_33 : decode cX1_named 33 = .ok (.ishl, 1) := by decide +kernel
theorem dX1_named_34 : decode cX1_named 34 = .ok (.istore 4, 2) := by decide +kernel
theorem dX1_named_36 : decode cX1_named 36 = .ok (.aload_n 0, 1) := by decide +kernel
theorem dX1_named_37 : decode cX1_named 37 = .ok (.getfield 44, 3) := by decide +kernel
theorem dX1_named_40 : decode cX1_named 40 = .ok (.iload_n 3, 1) := by decide +kernel
theorem dX1_named_41 : decode cX1_named 41 = .ok (.iaload, 1) := by decide +kernel
theorem dX1_named_42 : decode cX1_named 42 = .ok (.invokestatic 135, 3) := by decide +kernel
theorem dX1_named_45 : decode cX1_named 45 = .ok (.iload_n 1, 1) := by decide +kernel
theorem dX1_named_46 : decode cX1_named 46 = .ok (.if_icmp .ne 28, 3) := by decide +kernel
theorem dX1_named_49 : decode cX1_named 49 = .ok (.iload_n 2, 1) := by decide +kernel
theorem dX1_named_50 : decode cX1_named 50 = .ok (.iload 4, 2) := by decide +kernel
theorem dX1_named_52 : decode cX1_named 52 = .ok (.iand, 1) := by decide +kernel
theorem dX1_named_53 : decode cX1_named 53 = .ok (.ifCond .ne 21, 3) := by decide +kernel
theorem dX1_named_56 : decode cX1_named 56 = .ok (.aload_n 0, 1) := by decide +kernel
theorem dX1_named_57 : decode cX1_named 57 = .ok (.aload_n 0, 1) := by decide +kernel
theorem dX1_named_58 : decode cX1_named 58 = .ok (.getfield 44, 3) := by decide +kernel
theorem dX1_named_61 : decode cX1_named 61 = .ok (.iload_n 3, 1) := by decide +kernel
theorem dX1_named_62 : decode cX1_named 62 = .ok (.iaload, 1) := by decide +kernel
theorem dX1_named_63 : decode cX1_named 63 = .ok (.invokevirtual 102, 3) := by decide +kernel
theorem dX1_named_66 : decode cX1_named 66 = .ok (.ifCond .eq 8, 3) := by decide +kernel
theorem dX1_named_69 : decode cX1_named 69 = .ok (.iload_n 2, 1) := by decide +kernel
theorem dX1_named_70 : decode cX1_named 70 = .ok (.iload 4, 2) := by decide +kernel
theorem dX1_named_72 : decode cX1_named 72 = .ok (.ior, 1) := by decide +kernel
theorem dX1_named_73 : decode cX1_named 73 = .ok (.istore_n 2, 1) := by decide +kernel
theorem dX1_named_74 : decode cX1_named 74 = .ok (.iinc 3 1, 3) := by decide +kernel
theorem dX1_named_77 : decode cX1_named 77 = .ok (.goto (-62), 3) := by decide +kernel
theorem dX1_named_80 : decode cX1_named 80 = .ok (.iload_n 2, 1) := by decide +kernel
theorem dX1_named_81 : decode cX1_named 81 = .ok (.ireturn, 1) := by decide +kernel
set_option maxRecDepth 20000 in
theorem ggX1_taken_Jx4a65c_size_8abf5 : GoodIn wsX1_taken wsJx4a65c_size_8abf5 := goodIn_r _ [9, 10, 49, 50, 51] (by decide +kernel) (by decide +kernel)
set_option maxRecDepth 20000 in
theorem gX1_taken_Jx4a65c_size_8abf5 : GoodIn wsX1_taken (wsV RX1 122 RJx4a65c yJx4a65c_size_8abf5 wsJx4a65c_size_8abf5) := goodIn_app (goodIn_of _ (by decide +kernel)) ggX1_taken_Jx4a65c_size_8abf5
set_option maxRecDepth 20000 in
theorem ggX1_taken_Jx4a65c_get_915e3 : GoodIn wsX1_taken wsJx4a65c_get_915e3 := goodIn_r _ [14, 10, 15, 16, 17, 18, 19, 20, 21, 22, 23, 24, 25, 8, 26, 27, 49, 50, 51] (by decide +kernel) (by decide +kernel)
set_option maxRecDepth 20000 in
theorem gX1_taken_Jx4a65c_get_915e3 : GoodIn wsX1_taken (wsV RX1 178 RJx4a65c yJx4a65c_get_915e3 wsJx4a65c_get_915e3) := goodIn_app (goodIn_of _ (by decide +kernel)) ggX1_taken_Jx4a65c_get_915e3
theorem dX1_taken_0 : decode cX1_taken 0 = .ok (.iload_n 1, 1) := by decide +kernel
theorem dX1_taken_1 : decode cX1_taken 1 = .ok (.ifCond .lt 14, 3) := by decide +kernel
theorem dX1_taken_4 : decode cX1_taken 4 = .ok (.iload_n 1, 1) := by decide +kernel
theorem dX1_taken_5 : decode cX1_taken 5 = .ok (.aload_n 0, 1) := by decide +kernel
theorem dX1_taken_6 : decode cX1_taken 6 = .ok (.getfield 60, 3) := by decide +kernel
theorem dX1_taken_9 : decode cX1_taken 9 = .ok (.invokevirtual 122, 3) := by decide +kernel
theorem dX1_taken_12 : decode cX1_taken 12 = .ok (.if_icmp .lt 7, 3) := by decide +kernel
theorem dX1_taken_15 : decode cX1_taken 15 = .ok (.ldc2_w 74, 3) := by decide +kernel
theorem dX1_taken_18 : decode cX1_taken 18 = .ok (.lreturn, 1) := by decide +kernel
theorem dX1_taken_19 : decode cX1_taken 19 = .ok (.aload_n 0, 1) := by decide +kernel
theorem dX1_taken_20 : decode cX1_taken 20 = .ok (.getfield 60, 3) := by decide +kernel
theorem dX1_taken_23 : decode cX1_taken 23 = .ok (.iload_n 1, 1) := by decide +kernel
theorem dX1_taken_24 : decode cX1_taken 24 = .ok (.invokevirtual 178, 3) := by decide +kernel
theorem dX1_taken_27 : decode cX1_taken 27 = .ok (.checkcast 182, 3) := by decide +kernel
theorem dX1_taken_30 : decode cX1_taken 30 = .ok (.astore_n 3, 1) := by decide +kernel
theorem dX1_taken_31 : decode cX1_taken 31 = .ok (.iload_n 2, 1) := by decide +kernel
theorem dX1_taken_32 : decode cX1_taken 32 = .ok (.tableswitch 84 0 6 #[44, 50, 56, 62, 68, 74, 79], 44) := by decide +kernel
theorem dX1_taken_76 : decode cX1_taken 76 = .ok (.aload_n 3, 1) := by decide +kernel
theorem dX1_taken_77 : decode cX1_taken 77 = .ok (.getfield 184, 3) := by decide +kernel
theorem dX1_taken_80 : decode cX1_taken 80 = .ok (.i2l, 1) := by decide +kernel
theorem dX1_taken_81 : decode cX1_taken 81 = .ok (.lreturn, 1) := by decide +kernel
theorem dX1_taken_82 : decode cX1_taken 82 = .ok (.aload_n 3, 1) := by decide +kernel
theorem dX1_taken_83 : decode cX1_taken 83 = .ok (.getfield 187, 3) := by decide +kernel
theorem dX1_taken_86 : decode cX1_taken 86 = .ok (.i2l, 1) := by decide +kernel
theorem dX1_taken_87 : decode cX1_taken 87 = .ok (.lreturn, 1) := by decide +kernel
theorem dX1_taken_88 : decode cX1_taken 88 = .ok (.aload_n 3, 1) := by decide +kernel
theorem dX1_taken_89 : decode cX1_taken 89 = .ok (.getfield 190, 3) := by decide +kernel
theorem dX1_taken_92 : decode cX1_taken 92 = .ok (.i2l, 1) := by decide +kernel
theorem dX1_taken_93 : decode cX1_taken 93 = .ok (.lreturn, 1) := by decide +kernel
theorem dX1_taken_94 : decode cX1_taken 94 = .ok (.aload_n 3, 1) := by decide +kernel
theorem dX1_taken_95 : decode cX1_taken 95 = .ok (.getfield 193, 3) := by decide +kernel
theorem dX1_taken_98 : decode cX1_taken 98 = .ok (.i2l, 1) := by decide +kernel
theorem dX1_taken_99 : decode cX1_taken 99 = .ok (.lreturn, 1) := by decide +kernel
theorem dX1_taken_100 : decode cX1_taken 100 = .ok (.aload_n 3, 1) := by decide +kernel
theorem dX1_taken_101 : decode cX1_taken 101 = .ok (.getfield 196, 3) := by decide +kernel
theorem dX1_taken_104 : decode cX1_taken 104 = .ok (.i2l, 1) := by decide +kernel
theorem dX1_taken_105 : decode cX1_taken 105 = .ok (.lreturn, 1) := by decide +kernel
theorem dX1_taken_106 : decode cX1_taken 106 = .ok (.aload_n 3, 1) := by decide +kernel
theorem dX1_taken_107 : decode cX1_taken 107 = .ok (.getfield 199, 3) := by decide +kernel
theorem dX1_taken_110 : decode cX1_taken 110 = .ok (.lreturn, 1) := by decide +kernel
theorem dX1_taken_111 : decode cX1_taken 111 = .ok (.aload_n 3, 1) := by decide +kernel
theorem dX1_taken_112 : decode cX1_taken 112 = .ok (.getfield 202, 3) := by decide +kernel
theorem dX1_taken_115 : decode cX1_taken 115 = .ok (.lreturn, 1) := by decide +kernel
theorem dX1_taken_116 : decode cX1_taken 116 = .ok (.ldc2_w 76, 3) := by decide +kernel
theorem dX1_taken_119 : decode cX1_taken 119 = .ok (.lreturn, 1) := by decide +kernel
theorem dX1_isNode_0 : decode cX1_isNode 0 = .ok (.iload_n 1, 1) := by decide +kernel
theorem dX1_isNode_1 : decode cX1_isNode 1 = .ok (.ifCond .lt 15, 3) := by decide +kernel
theorem dX1_isNode_4 : decode cX1_isNode 4 = .ok (.iload_n 1, 1) := by decide +kernel
theorem dX1_isNode_5 : decode cX1_isNode 5 = .ok (.aload_n 0, 1) := by decide +kernel
theorem dX1_isNode_6 : decode cX1_isNode 6 = .ok (.getfield 31, 3) := by decide +kernel
theorem dX1_isNode_9 : decode cX1_isNode 9 = .ok (.if_icmp .ge 7, 3) := by decide +kernel
theorem dX1_isNode_12 : decode cX1_isNode 12 = .ok (.iconst 1, 1) := by decide +kernel
theorem dX1_isNode_13 : decode cX1_isNode 13 = .ok (.goto 4, 3) := by decide +kernel
theorem dX1_isNode_16 : decode cX1_isNode 16 = .ok (.iconst 0, 1) := by decide +kernel
theorem dX1_isNode_17 : decode cX1_isNode 17 = .ok (.ireturn, 1) := by decide +kernel
set_option maxRecDepth 20000 in
theorem ggX1_isNodeOrNone_X1_isNode : GoodIn wsX1_isNodeOrNone wsX1_isNode := goodIn_r _ [5, 6, 7, 8, 9, 10, 11, 12, 13, 14, 15, 16, 17, 18, 19, 20] (by decide +kernel) (by decide +kernel)
set_option maxRecDepth 20000 in
theorem gX1_isNodeOrNone_X1_isNode : GoodIn wsX1_isNodeOrNone (wsV RX1 70 RX1 yX1_isNode wsX1_isNode) := goodIn_app (goodIn_of _ (by decide +kernel)) ggX1_isNodeOrNone_X1_isNode
theorem dX1_isNodeOrNone_0 : decode cX1_isNodeOrNone 0 = .ok (.iload_n 1, 1) := by decide +kernel
theorem dX1_isNodeOrNone_1 : decode cX1_isNodeOrNone 1 = .ok (.iconst (-1), 1) := by decide +kernel
theorem dX1_isNodeOrNone_2 : decode cX1_isNodeOrNone 2 = .ok (.if_icmp .eq 11, 3) := by decide +kernel
theorem dX1_isNodeOrNone_5 : decode cX1_isNodeOrNone 5 = .ok (.aload_n 0, 1) := by decide +kernel
theorem dX1_isNodeOrNone_6 : decode cX1_isNodeOrNone 6 = .ok (.iload_n 1, 1) := by decide +kernel
theorem dX1_isNodeOrNone_7 : decode cX1_isNodeOrNone 7 = .ok (.invokevirtual 70, 3) := by decide +kernel
theorem dX1_isNodeOrNone_10 : decode cX1_isNodeOrNone 10 = .ok (.ifCond .eq 7, 3) := by decide +kernel
theorem dX1_isNodeOrNone_13 : decode cX1_isNodeOrNone 13 = .ok (.iconst 1, 1) := by decide +kernel
theorem dX1_isNodeOrNone_14 : decode cX1_isNodeOrNone 14 = .ok (.goto 4, 3) := by decide +kernel
theorem dX1_isNodeOrNone_17 : decode cX1_isNodeOrNone 17 = .ok (.iconst 0, 1) := by decide +kernel
theorem dX1_isNodeOrNone_18 : decode cX1_isNodeOrNone 18 = .ok (.ireturn, 1) := by decide +kernel
theorem dX1_isVote_0 : decode cX1_isVote 0 = .ok (.iload_n 1, 1) := by decide +kernel
theorem dX1_isVote_1 : decode cX1_isVote 1 = .ok (.ifCond .lt 15, 3) := by decide +kernel
theorem dX1_isVote_4 : decode cX1_isVote 4 = .ok (.iload_n 1, 1) := by decide +kernel
theorem dX1_isVote_5 : decode cX1_isVote 5 = .ok (.aload_n 0, 1) := by decide +kernel
theorem dX1_isVote_6 : decode cX1_isVote 6 = .ok (.getfield 48, 3) := by decide +kernel
theorem dX1_isVote_9 : decode cX1_isVote 9 = .ok (.if_icmp .ge 7, 3) := by decide +kernel
theorem dX1_isVote_12 : decode cX1_isVote 12 = .ok (.iconst 1, 1) := by decide +kernel
theorem dX1_isVote_13 : decode cX1_isVote 13 = .ok (.goto 4, 3) := by decide +kernel
theorem dX1_isVote_16 : decode cX1_isVote 16 = .ok (.iconst 0, 1) := by decide +kernel
theorem dX1_isVote_17 : decode cX1_isVote 17 = .ok (.ireturn, 1) := by decide +kernel
theorem dX1_isKind_0 : decode cX1_isKind 0 = .ok (.iload_n 0, 1) := by decide +kernel
theorem dX1_isKind_1 : decode cX1_isKind 1 = .ok (.ifCond .lt 12, 3) := by decide +kernel
theorem dX1_isKind_4 : decode cX1_isKind 4 = .ok (.iload_n 0, 1) := by decide +kernel
theorem dX1_isKind_5 : decode cX1_isKind 5 = .ok (.iconst 3, 1) := by decide +kernel
theorem dX1_isKind_6 : decode cX1_isKind 6 = .ok (.if_icmp .ge 7, 3) := by decide +kernel
theorem dX1_isKind_9 : decode cX1_isKind 9 = .ok (.iconst 1, 1) := by decide +kernel
theorem dX1_isKind_10 : decode cX1_isKind 10 = .ok (.goto 4, 3) := by decide +kernel
theorem dX1_isKind_13 : decode cX1_isKind 13 = .ok (.iconst 0, 1) := by decide +kernel
theorem dX1_isKind_14 : decode cX1_isKind 14 = .ok (.ireturn, 1) := by decide +kernel
theorem dX1_isSayable_0 : decode cX1_isSayable 0 = .ok (.iload_n 0, 1) := by decide +kernel
theorem dX1_isSayable_1 : decode cX1_isSayable 1 = .ok (.ifCond .lt 32, 3) := by decide +kernel
theorem dX1_isSayable_4 : decode cX1_isSayable 4 = .ok (.iload_n 0, 1) := by decide +kernel
theorem dX1_isSayable_5 : decode cX1_isSayable 5 = .ok (.bipush 8, 2) := by decide +kernel
theorem dX1_isSayable_7 : decode cX1_isSayable 7 = .ok (.if_icmp .ge 26, 3) := by decide +kernel
theorem dX1_isSayable_10 : decode cX1_isSayable 10 = .ok (.iload_n 1, 1) := by decide +kernel
theorem dX1_isSayable_11 : decode cX1_isSayable 11 = .ok (.ifCond .lt 22, 3) := by decide +kernel
theorem dX1_isSayable_14 : decode cX1_isSayable 14 = .ok (.iload_n 1, 1) := by decide +kernel
theorem dX1_isSayable_15 : decode cX1_isSayable 15 = .ok (.iconst 2, 1) := by decide +kernel
theorem dX1_isSayable_16 : decode cX1_isSayable 16 = .ok (.if_icmp .ge 17, 3) := by decide +kernel
theorem dX1_isSayable_19 : decode cX1_isSayable 19 = .ok (.iload_n 2, 1) := by decide +kernel
theorem dX1_isSayable_20 : decode cX1_isSayable 20 = .ok (.ifCond .lt 13, 3) := by decide +kernel
theorem dX1_isSayable_23 : decode cX1_isSayable 23 = .ok (.iload_n 2, 1) := by decide +kernel
theorem dX1_isSayable_24 : decode cX1_isSayable 24 = .ok (.bipush 10, 2) := by decide +kernel
theorem dX1_isSayable_26 : decode cX1_isSayable 26 = .ok (.if_icmp .ge 7, 3) := by decide +kernel
theorem dX1_isSayable_29 : decode cX1_isSayable 29 = .ok (.iconst 1, 1) := by decide +kernel
theorem dX1_isSayable_30 : decode cX1_isSayable 30 = .ok (.goto 4, 3) := by decide +kernel
theorem dX1_isSayable_33 : decode cX1_isSayable 33 = .ok (.iconst 0, 1) := by decide +kernel
theorem dX1_isSayable_34 : decode cX1_isSayable 34 = .ok (.ireturn, 1) := by decide +kernel
theorem dX1_hasBegun_0 : decode cX1_hasBegun 0 = .ok (.iload_n 1, 1) := by decide +kernel
theorem dX1_hasBegun_1 : decode cX1_hasBegun 1 = .ok (.iconst 1, 1) := by decide +kernel
theorem dX1_hasBegun_2 : decode cX1_hasBegun 2 = .ok (.if_icmp .lt 15, 3) := by decide +kernel
theorem dX1_hasBegun_5 : decode cX1_hasBegun 5 = .ok (.iload_n 1, 1) := by decide +kernel
theorem dX1_hasBegun_6 : decode cX1_hasBegun 6 = .ok (.aload_n 0, 1) := by decide +kernel
theorem dX1_hasBegun_7 : decode cX1_hasBegun 7 = .ok (.getfield 35, 3) := by decide +kernel
theorem dX1_hasBegun_10 : decode cX1_hasBegun 10 = .ok (.if_icmp .gt 7, 3) := by decide +kernel
theorem dX1_hasBegun_13 : decode cX1_hasBegun 13 = .ok (.iconst 1, 1) := by decide +kernel
theorem dX1_hasBegun_14 : decode cX1_hasBegun 14 = .ok (.goto 4, 3) := by decide +kernel
theorem dX1_hasBegun_17 : decode cX1_hasBegun 17 = .ok (.iconst 0, 1) := by decide +kernel
theorem dX1_hasBegun_18 : decode cX1_hasBegun 18 = .ok (.ireturn, 1) := by decide +kernel
set_option maxRecDepth 20000 in
theorem ggX1_isOpen_X1_hasBegun : GoodIn wsX1_isOpen wsX1_hasBegun := goodIn_r _ [6, 1, 7, 8, 9, 10, 11, 12, 13, 14, 15, 16, 17, 18, 19, 20] (by decide +kernel) (by decide +kernel)
set_option maxRecDepth 20000 in
theorem gX1_isOpen_X1_hasBegun : GoodIn wsX1_isOpen (wsV RX1 150 RX1 yX1_hasBegun wsX1_hasBegun) := goodIn_app (goodIn_of _ (by decide +kernel)) ggX1_isOpen_X1_hasBegun
theorem dX1_isOpen_0 : decode cX1_isOpen 0 = .ok (.aload_n 0, 1) := by decide +kernel
theorem dX1_isOpen_1 : decode cX1_isOpen 1 = .ok (.iload_n 1, 1) := by decide +kernel
theorem dX1_isOpen_2 : decode cX1_isOpen 2 = .ok (.invokevirtual 150, 3) := by decide +kernel
theorem dX1_isOpen_5 : decode cX1_isOpen 5 = .ok (.ifCond .eq 17, 3) := by decide +kernel
theorem dX1_isOpen_8 : decode cX1_isOpen 8 = .ok (.aload_n 0, 1) := by decide +kernel
theorem dX1_isOpen_9 : decode cX1_isOpen 9 = .ok (.getfield 35, 3) := by decide +kernel
theorem dX1_isOpen_12 : decode cX1_isOpen 12 = .ok (.iload_n 1, 1) := by decide +kernel
theorem dX1_isOpen_13 : decode cX1_isOpen 13 = .ok (.isub, 1) := by decide +kernel
theorem dX1_isOpen_14 : decode cX1_isOpen 14 = .ok (.iconst 1, 1) := by decide +kernel
theorem dX1_isOpen_15 : decode cX1_isOpen 15 = .ok (.if_icmp .gt 7, 3) := by decide +kernel
theorem dX1_isOpen_18 : decode cX1_isOpen 18 = .ok (.iconst 1, 1) := by decide +kernel
theorem dX1_isOpen_19 : decode cX1_isOpen 19 = .ok (.goto 4, 3) := by decide +kernel
theorem dX1_isOpen_22 : decode cX1_isOpen 22 = .ok (.iconst 0, 1) := by decide +kernel
theorem dX1_isOpen_23 : decode cX1_isOpen 23 = .ok (.ireturn, 1) := by decide +kernel
theorem dX1_packed_0 : decode cX1_packed 0 = .ok (.iload_n 1, 1) := by decide +kernel
theorem dX1_packed_1 : decode cX1_packed 1 = .ok (.bipush 11, 2) := by decide +kernel
theorem dX1_packed_3 : decode cX1_packed 3 = .ok (.ishl, 1) := by decide +kernel
theorem dX1_packed_4 : decode cX1_packed 4 = .ok (.iload_n 0, 1) := by decide +kernel
theorem dX1_packed_5 : decode cX1_packed 5 = .ok (.bipush 8, 2) := by decide +kernel
theorem dX1_packed_7 : decode cX1_packed 7 = .ok (.ishl, 1) := by decide +kernel
theorem dX1_packed_8 : decode cX1_packed 8 = .ok (.ior, 1) := by decide +kernel
theorem dX1_packed_9 : decode cX1_packed 9 = .ok (.iload_n 2, 1) := by decide +kernel
theorem dX1_packed_10 : decode cX1_packed 10 = .ok (.iconst 5, 1) := by decide +kernel
theorem dX1_packed_11 : decode cX1_packed 11 = .ok (.ishl, 1) := by decide +kernel
theorem dX1_packed_12 : decode cX1_packed 12 = .ok (.ior, 1) := by decide +kernel
theorem dX1_packed_13 : decode cX1_packed 13 = .ok (.iload_n 3, 1) := by decide +kernel
theorem dX1_packed_14 : decode cX1_packed 14 = .ok (.iconst 4, 1) := by decide +kernel
theorem dX1_packed_15 : decode cX1_packed 15 = .ok (.ishl, 1) := by decide +kernel
theorem dX1_packed_16 : decode cX1_packed 16 = .ok (.ior, 1) := by decide +kernel
theorem dX1_packed_17 : decode cX1_packed 17 = .ok (.iload 4, 2) := by decide +kernel
theorem dX1_packed_19 : decode cX1_packed 19 = .ok (.ior, 1) := by decide +kernel
theorem dX1_packed_20 : decode cX1_packed 20 = .ok (.ireturn, 1) := by decide +kernel
theorem dX1_heightOf_0 : decode cX1_heightOf 0 = .ok (.iload_n 0, 1) := by decide +kernel
theorem dX1_heightOf_1 : decode cX1_heightOf 1 = .ok (.bipush 11, 2) := by decide +kernel
theorem dX1_heightOf_3 : decode cX1_heightOf 3 = .ok (.ishr, 1) := by decide +kernel
theorem dX1_heightOf_4 : decode cX1_heightOf 4 = .ok (.ireturn, 1) := by decide +kernel
theorem dX1_nodeOf_0 : decode cX1_nodeOf 0 = .ok (.iload_n 0, 1) := by decide +kernel
theorem dX1_nodeOf_1 : decode cX1_nodeOf 1 = .ok (.bipush 8, 2) := by decide +kernel
theorem dX1_nodeOf_3 : decode cX1_nodeOf 3 = .ok (.ishr, 1) := by decide +kernel
theorem dX1_nodeOf_4 : decode cX1_nodeOf 4 = .ok (.bipush 7, 2) := by decide +kernel
theorem dX1_nodeOf_6 : decode cX1_nodeOf 6 = .ok (.iand, 1) := by decide +kernel
theorem dX1_nodeOf_7 : decode cX1_nodeOf 7 = .ok (.ireturn, 1) := by decide +kernel
theorem dX1_roundOf_0 : decode cX1_roundOf 0 = .ok (.iload_n 0, 1) := by decide +kernel
theorem dX1_roundOf_1 : decode cX1_roundOf 1 = .ok (.iconst 5, 1) := by decide +kernel
theorem dX1_roundOf_2 : decode cX1_roundOf 2 = .ok (.ishr, 1) := by decide +kernel
theorem dX1_roundOf_3 : decode cX1_roundOf 3 = .ok (.bipush 7, 2) := by decide +kernel
theorem dX1_roundOf_5 : decode cX1_roundOf 5 = .ok (.iand, 1) := by decide +kernel
theorem dX1_roundOf_6 : decode cX1_roundOf 6 = .ok (.ireturn, 1) := by decide +kernel
theorem dX1_stepOf_0 : decode cX1_stepOf 0 = .ok (.iload_n 0, 1) := by decide +kernel
theorem dX1_stepOf_1 : decode cX1_stepOf 1 = .ok (.iconst 4, 1) := by decide +kernel
theorem dX1_stepOf_2 : decode cX1_stepOf 2 = .ok (.ishr, 1) := by decide +kernel
theorem dX1_stepOf_3 : decode cX1_stepOf 3 = .ok (.iconst 1, 1) := by decide +kernel
theorem dX1_stepOf_4 : decode cX1_stepOf 4 = .ok (.iand, 1) := by decide +kernel
theorem dX1_stepOf_5 : decode cX1_stepOf 5 = .ok (.ireturn, 1) := by decide +kernel
theorem dX1_blockOf_0 : decode cX1_blockOf 0 = .ok (.iload_n 0, 1) := by decide +kernel
theorem dX1_blockOf_1 : decode cX1_blockOf 1 = .ok (.bipush 15, 2) := by decide +kernel
theorem dX1_blockOf_3 : decode cX1_blockOf 3 = .ok (.iand, 1) := by decide +kernel
theorem dX1_blockOf_4 : decode cX1_blockOf 4 = .ok (.ireturn, 1) := by decide +kernel
theorem dX1_voterOf_0 : decode cX1_voterOf 0 = .ok (.iload_n 0, 1) := by decide +kernel
theorem dX1_voterOf_1 : decode cX1_voterOf 1 = .ok (.bipush 8, 2) := by decide +kernel
theorem dX1_voterOf_3 : decode cX1_voterOf 3 = .ok (.ishr, 1) := by decide +kernel
theorem dX1_voterOf_4 : decode cX1_voterOf 4 = .ok (.ireturn, 1) := by decide +kernel
theorem dX1_weightIndex_0 : decode cX1_weightIndex 0 = .ok (.iload_n 0, 1) := by decide +kernel
theorem dX1_weightIndex_1 : decode cX1_weightIndex 1 = .ok (.bipush 8, 2) := by decide +kernel
theorem dX1_weightIndex_3 : decode cX1_weightIndex 3 = .ok (.imul, 1) := by decide +kernel
theorem dX1_weightIndex_4 : decode cX1_weightIndex 4 = .ok (.iload_n 1, 1) := by decide +kernel
theorem dX1_weightIndex_5 : decode cX1_weightIndex 5 = .ok (.iadd, 1) := by decide +kernel
theorem dX1_weightIndex_6 : decode cX1_weightIndex 6 = .ok (.ireturn, 1) := by decide +kernel
set_option maxRecDepth 20000 in
theorem ggX1_weighNodes_X1_weightIndex : GoodIn wsX1_weighNodes wsX1_weightIndex := goodIn_r _ [9] (by decide +kernel) (by decide +kernel)
set_option maxRecDepth 20000 in
theorem gX1_weighNodes_X1_weightIndex : GoodIn wsX1_weighNodes (va_wsS RX1 153 yX1_weightIndex wsX1_weightIndex) := goodIn_app (goodIn_of _ (by decide +kernel)) ggX1_weighNodes_X1_weightIndex
theorem dX1_weighNodes_0 : decode cX1_weighNodes 0 = .ok (.lconst 0, 1) := by decide +kernel
theorem dX1_weighNodes_1 : decode cX1_weighNodes 1 = .ok (.lstore_n 2, 1) := by decide +kernel
theorem dX1_weighNodes_2 : decode cX1_weighNodes 2 = .ok (.iconst 0, 1) := by decide +kernel
theorem dX1_weighNodes_3 : decode cX1_weighNodes 3 = .ok (.istore 4, 2) := by decide +kernel
theorem dX1_weighNodes_5 : decode cX1_weighNodes 5 = .ok (.iload 4, 2) := by decide +kernel
theorem dX1_weighNodes_7 : decode cX1_weighNodes 7 = .ok (.aload_n 0, 1) := by decide +kernel
theorem dX1_weighNodes_8 : decode cX1_weighNodes 8 = .ok (.getfield 31, 3) := by decide +kernel
theorem dX1_weighNodes_11 : decode cX1_weighNodes 11 = .ok (.if_icmp .ge 50, 3) := by decide +kernel
theorem dX1_weighNodes_14 : decode cX1_weighNodes 14 = .ok (.aload_n 0, 1) := by decide +kernel
theorem dX1_weighNodes_15 : decode cX1_weighNodes 15 = .ok (.getfield 27, 3) := by decide +kernel
theorem dX1_weighNodes_18 : decode cX1_weighNodes 18 = .ok (.iload 4, 2) := by decide +kernel
theorem dX1_weighNodes_20 : decode cX1_weighNodes 20 = .ok (.baload, 1) := by decide +kernel
theorem dX1_weighNodes_21 : decode cX1_weighNodes 21 = .ok (.ifCond .eq 7, 3) := by decide +kernel
theorem dX1_weighNodes_24 : decode cX1_weighNodes 24 = .ok (.lconst 0, 1) := by decide +kernel
theorem dX1_weighNodes_25 : decode cX1_weighNodes 25 = .ok (.goto 10, 3) := by decide +kernel
theorem dX1_weighNodes_28 : decode cX1_weighNodes 28 = .ok (.aload_n 0, 1) := by decide +kernel
theorem dX1_weighNodes_29 : decode cX1_weighNodes 29 = .ok (.getfield 21, 3) := by decide +kernel
theorem dX1_weighNodes_32 : decode cX1_weighNodes 32 = .ok (.iload 4, 2) := by decide +kernel
theorem dX1_weighNodes_34 : decode cX1_weighNodes 34 = .ok (.laload, 1) := by decide +kernel
theorem dX1_weighNodes_35 : decode cX1_weighNodes 35 = .ok (.lstore 5, 2) := by decide +kernel
theorem dX1_weighNodes_37 : decode cX1_weighNodes 37 = .ok (.aload_n 0, 1) := by decide +kernel
theorem dX1_weighNodes_38 : decode cX1_weighNodes 38 = .ok (.getfield 38, 3) := by decide +kernel
theorem dX1_weighNodes_41 : decode cX1_weighNodes 41 = .ok (.iload_n 1, 1) := by decide +kernel
theorem dX1_weighNodes_42 : decode cX1_weighNodes 42 = .ok (.iload 4, 2) := by decide +kernel
theorem dX1_weighNodes_44 : decode cX1_weighNodes 44 = .ok (.invokestatic 153, 3) := by decide +kernel
theorem dX1_weighNodes_47 : decode cX1_weighNodes 47 = .ok (.lload 5, 2) := by decide +kernel
theorem dX1_weighNodes_49 : decode cX1_weighNodes 49 = .ok (.lastore, 1) := by decide +kernel
theorem dX1_weighNodes_50 : decode cX1_weighNodes 50 = .ok (.lload_n 2, 1) := by decide +kernel
theorem dX1_weighNodes_51 : decode cX1_weighNodes 51 = .ok (.lload 5, 2) := by decide +kernel
theorem dX1_weighNodes_53 : decode cX1_weighNodes 53 = .ok (.ladd, 1) := by decide +kernel
theorem dX1_weighNodes_54 : decode cX1_weighNodes 54 = .ok (.lstore_n 2, 1) := by decide +kernel
theorem dX1_weighNodes_55 : decode cX1_weighNodes 55 = .ok (.iinc 4 1, 3) := by decide +kernel
theorem dX1_weighNodes_58 : decode cX1_weighNodes 58 = .ok (.goto (-53), 3) := by decide +kernel
theorem dX1_weighNodes_61 : decode cX1_weighNodes 61 = .ok (.aload_n 0, 1) := by decide +kernel
theorem dX1_weighNodes_62 : decode cX1_weighNodes 62 = .ok (.getfield 41, 3) := by decide +kernel
theorem dX1_weighNodes_65 : decode cX1_weighNodes 65 = .ok (.iload_n 1, 1) := by decide +kernel
theorem dX1_weighNodes_66 : decode cX1_weighNodes 66 = .ok (.lload_n 2, 1) := by decide +kernel
theorem dX1_weighNodes_67 : decode cX1_weighNodes 67 = .ok (.lastore, 1) := by decide +kernel
theorem dX1_weighNodes_68 : decode cX1_weighNodes 68 = .ok (.return_, 1) := by decide +kernel
set_option maxRecDepth 20000 in
theorem ggX1_weightFor_X1_heightOf : GoodIn wsX1_weightFor wsX1_heightOf := goodIn_r _ [7] (by decide +kernel) (by decide +kernel)
set_option maxRecDepth 20000 in
theorem gX1_weightFor_X1_heightOf : GoodIn wsX1_weightFor (va_wsS RX1 135 yX1_heightOf wsX1_heightOf) := goodIn_app (goodIn_of _ (by decide +kernel)) ggX1_weightFor_X1_heightOf
set_option maxRecDepth 20000 in
theorem ggX1_weightFor_X1_nodeOf : GoodIn wsX1_weightFor wsX1_nodeOf := goodIn_r _ [10] (by decide +kernel) (by decide +kernel)
set_option maxRecDepth 20000 in
theorem gX1_weightFor_X1_nodeOf : GoodIn wsX1_weightFor (va_wsS RX1 132 yX1_nodeOf wsX1_nodeOf) := goodIn_app (goodIn_of _ (by decide +kernel)) ggX1_weightFor_X1_nodeOf
set_option maxRecDepth 20000 in
theorem ggX1_weightFor_X1_weightIndex : GoodIn wsX1_weightFor wsX1_weightIndex := goodIn_r _ [13] (by decide +kernel) (by decide +kernel)
set_option maxRecDepth 20000 in
theorem gX1_weightFor_X1_weightIndex : GoodIn wsX1_weightFor (va_wsS RX1 153 yX1_weightIndex wsX1_weightIndex) := goodIn_app (goodIn_of _ (by decide +kernel)) ggX1_weightFor_X1_weightIndex
theorem dX1_weightFor_0 : decode cX1_weightFor 0 = .ok (.iload_n 1, 1) := by decide +kernel
theorem dX1_weightFor_1 : decode cX1_weightFor 1 = .ok (.sipush (-1793), 3) := by decide +kernel
theorem dX1_weightFor_4 : decode cX1_weightFor 4 = .ok (.iand, 1) := by decide +kernel
theorem dX1_weightFor_5 : decode cX1_weightFor 5 = .ok (.istore_n 2, 1) := by decide +kernel
theorem dX1_weightFor_6 : decode cX1_weightFor 6 = .ok (.iload_n 1, 1) := by decide +kernel
theorem dX1_weightFor_7 : decode cX1_weightFor 7 = .ok (.invokestatic 135, 3) := by decide +kernel
theorem dX1_weightFor_10 : decode cX1_weightFor 10 = .ok (.istore_n 3, 1) := by decide +kernel
theorem dX1_weightFor_11 : decode cX1_weightFor 11 = .ok (.lconst 0, 1) := by decide +kernel
theorem dX1_weightFor_12 : decode cX1_weightFor 12 = .ok (.lstore 4, 2) := by decide +kernel
theorem dX1_weightFor_14 : decode cX1_weightFor 14 = .ok (.iconst 0, 1) := by decide +kernel
theorem dX1_weightFor_15 : decode cX1_weightFor 15 = .ok (.istore 6, 2) := by decide +kernel
theorem dX1_weightFor_17 : decode cX1_weightFor 17 = .ok (.iload 6, 2) := by decide +kernel
theorem dX1_weightFor_19 : decode cX1_weightFor 19 = .ok (.aload_n 0, 1) := by decide +kernel
theorem dX1_weightFor_20 : decode cX1_weightFor 20 = .ok (.getfield 48, 3) := by decide +kernel
theorem dX1_weightFor_23 : decode cX1_weightFor 23 = .ok (.if_icmp .ge 48, 3) := by decide +kernel
theorem dX1_weightFor_26 : decode cX1_weightFor 26 = .ok (.aload_n 0, 1) := by decide +kernel
theorem dX1_weightFor_27 : decode cX1_weightFor 27 = .ok (.getfield 44, 3) := by decide +kernel
theorem dX1_weightFor_30 : decode cX1_weightFor 30 = .ok (.iload 6, 2) := by decide +kernel
theorem dX1_weightFor_32 : decode cX1_weightFor 32 = .ok (.iaload, 1) := by decide +kernel
theorem dX1_weightFor_33 : decode cX1_weightFor 33 = .ok (.sipush (-1793), 3) := by decide +kernel
theorem dX1_weightFor_36 : decode cX1_weightFor 36 = .ok (.iand, 1) := by decide +kernel
theorem dX1_weightFor_37 : decode cX1_weightFor 37 = .ok (.iload_n 2, 1) := by decide +kernel
theorem dX1_weightFor_38 : decode cX1_weightFor 38 = .ok (.if_icmp .ne 27, 3) := by decide +kernel
theorem dX1_weightFor_41 : decode cX1_weightFor 41 = .ok (.lload 4, 2) := by decide +kernel
theorem dX1_weightFor_43 : decode cX1_weightFor 43 = .ok (.aload_n 0, 1) := by decide +kernel
theorem dX1_weightFor_44 : decode cX1_weightFor 44 = .ok (.getfield 38, 3) := by decide +kernel
theorem dX1_weightFor_47 : decode cX1_weightFor 47 = .ok (.iload_n 3, 1) := by decide +kernel
theorem dX1_weightFor_48 : decode cX1_weightFor 48 = .ok (.aload_n 0, 1) := by decide +kernel
theorem dX1_weightFor_49 : decode cX1_weightFor 49 = .ok (.getfield 44, 3) := by decide +kernel
theorem dX1_weightFor_52 : decode cX1_weightFor 52 = .ok (.iload 6, 2) := by decide +kernel
theorem dX1_weightFor_54 : decode cX1_weightFor 54 = .ok (.iaload, 1) := by decide +kernel
theorem dX1_weightFor_55 : decode cX1_weightFor 55 = .ok (.invokestatic 132, 3) := by decide +kernel
theorem dX1_weightFor_58 : decode cX1_weightFor 58 = .ok (.invokestatic 153, 3) := by decide +kernel
theorem dX1_weightFor_61 : decode cX1_weightFor 61 = .ok (.laload, 1) := by decide +kernel
theorem dX1_weightFor_62 : decode cX1_weightFor 62 = .ok (.ladd, 1) := by decide +kernel
theorem dX1_weightFor_63 : decode cX1_weightFor 63 = .ok (.lstore 4, 2) := by decide +kernel
theorem dX1_weightFor_65 : decode cX1_weightFor 65 = .ok (.iinc 6 1, 3) := by decide +kernel
theorem dX1_weightFor_68 : decode cX1_weightFor 68 = .ok (.goto (-51), 3) := by decide +kernel
theorem dX1_weightFor_71 : decode cX1_weightFor 71 = .ok (.lload 4, 2) := by decide +kernel
theorem dX1_weightFor_73 : decode cX1_weightFor 73 = .ok (.lreturn, 1) := by decide +kernel
theorem dX1_isTheMost_0 : decode cX1_isTheMost 0 = .ok (.ldc2_w 205, 3) := by decide +kernel
theorem dX1_isTheMost_3 : decode cX1_isTheMost 3 = .ok (.lload_n 2, 1) := by decide +kernel
theorem dX1_isTheMost_4 : decode cX1_isTheMost 4 = .ok (.lmul, 1) := by decide +kernel
theorem dX1_isTheMost_5 : decode cX1_isTheMost 5 = .ok (.ldc2_w 207, 3) := by decide +kernel
theorem dX1_isTheMost_8 : decode cX1_isTheMost 8 = .ok (.aload_n 0, 1) := by decide +kernel
theorem dX1_isTheMost_9 : decode cX1_isTheMost 9 = .ok (.getfield 41, 3) := by decide +kernel
theorem dX1_isTheMost_12 : decode cX1_isTheMost 12 = .ok (.iload_n 1, 1) := by decide +kernel
theorem dX1_isTheMost_13 : decode cX1_isTheMost 13 = .ok (.laload, 1) := by decide +kernel
theorem dX1_isTheMost_14 : decode cX1_isTheMost 14 = .ok (.lmul, 1) := by decide +kernel
theorem dX1_isTheMost_15 : decode cX1_isTheMost 15 = .ok (.lcmp, 1) := by decide +kernel
theorem dX1_isTheMost_16 : decode cX1_isTheMost 16 = .ok (.ifCond .le 7, 3) := by decide +kernel
theorem dX1_isTheMost_19 : decode cX1_isTheMost 19 = .ok (.iconst 1, 1) := by decide +kernel
theorem dX1_isTheMost_20 : decode cX1_isTheMost 20 = .ok (.goto 4, 3) := by decide +kernel
theorem dX1_isTheMost_23 : decode cX1_isTheMost 23 = .ok (.iconst 0, 1) := by decide +kernel
theorem dX1_isTheMost_24 : decode cX1_isTheMost 24 = .ok (.ireturn, 1) := by decide +kernel
set_option maxRecDepth 20000 in
theorem ggX1_voteRefusal_X1_isNode : GoodIn wsX1_voteRefusal wsX1_isNode := goodIn_r _ [6, 7, 23, 24, 25, 26, 27, 28, 29, 30, 31, 32, 33, 34, 35, 36] (by decide +kernel) (by decide +kernel)
set_option maxRecDepth 20000 in
theorem gX1_voteRefusal_X1_isNode : GoodIn wsX1_voteRefusal (wsV RX1 70 RX1 yX1_isNode wsX1_isNode) := goodIn_app (goodIn_of _ (by decide +kernel)) ggX1_voteRefusal_X1_isNode
set_option maxRecDepth 20000 in
theorem ggX1_voteRefusal_X1_isOpen : GoodIn wsX1_voteRefusal wsX1_isOpen := goodIn_r _ [11, 12, 13, 14, 15, 5, 16, 23, 24, 25, 26, 27, 28, 29, 30, 31, 32, 33, 34, 35, 36] (by decide +kernel) (by decide +kernel)
set_option maxRecDepth 20000 in
theorem gX1_voteRefusal_X1_isOpen : GoodIn wsX1_voteRefusal (wsV RX1 209 RX1 yX1_isOpen wsX1_isOpen) := goodIn_app (goodIn_of _ (by decide +kernel)) ggX1_voteRefusal_X1_isOpen
set_option maxRecDepth 20000 in
theorem ggX1_voteRefusal_X1_isSayable : GoodIn wsX1_voteRefusal wsX1_isSayable := goodIn_r _ [19] (by decide +kernel) (by decide +kernel)
set_option maxRecDepth 20000 in
theorem gX1_voteRefusal_X1_isSayable : GoodIn wsX1_voteRefusal (va_wsS RX1 156 yX1_isSayable wsX1_isSayable) := goodIn_app (goodIn_of _ (by decide +kernel)) ggX1_voteRefusal_X1_isSayable
set_option maxRecDepth 20000 in
theorem ggX1_voteRefusal_X1_weightIndex : GoodIn wsX1_voteRefusal wsX1_weightIndex := goodIn_r _ [22] (by decide +kernel) (by decide +kernel)
set_option maxRecDepth 20000 in
theorem gX1_voteRefusal_X1_weightIndex : GoodIn wsX1_voteRefusal (va_wsS RX1 153 yX1_weightIndex wsX1_weightIndex) := goodIn_app (goodIn_of _ (by decide +kernel)) ggX1_voteRefusal_X1_weightIndex
theorem dX1_voteRefusal_0 : decode cX1_voteRefusal 0 = .ok (.aload_n 0, 1) := by decide +kernel
theorem dX1_voteRefusal_1 : decode cX1_voteRefusal 1 = .ok (.iload_n 1, 1) := by decide +kernel
theorem dX1_voteRefusal_2 : decode cX1_voteRefusal 2 = .ok (.invokevirtual 70, 3) := by decide +kernel
theorem dX1_voteRefusal_5 : decode cX1_voteRefusal 5 = .ok (.ifCond .ne 6, 3) := by decide +kernel
theorem dX1_voteRefusal_8 : decode cX1_voteRefusal 8 = .ok (.bipush (-101), 2) := by decide +kernel
theorem dX1_voteRefusal_10 : decode cX1_voteRefusal 10 = .ok (.ireturn, 1) := by decide +kernel
theorem dX1_voteRefusal_11 : decode cX1_voteRefusal 11 = .ok (.aload_n 0, 1) := by decide +kernel
theorem dX1_voteRefusal_12 : decode cX1_voteRefusal 12 = .ok (.iload_n 2, 1) := by decide +kernel
theorem dX1_voteRefusal_13 : decode cX1_voteRefusal 13 = .ok (.invokevirtual 209, 3) := by decide +kernel
theorem dX1_voteRefusal_16 : decode cX1_voteRefusal 16 = .ok (.ifCond .eq 14, 3) := by decide +kernel
theorem dX1_voteRefusal_19 : decode cX1_voteRefusal 19 = .ok (.iload_n 3, 1) := by decide +kernel
theorem dX1_voteRefusal_20 : decode cX1_voteRefusal 20 = .ok (.iload 4, 2) := by decide +kernel
theorem dX1_voteRefusal_22 : decode cX1_voteRefusal 22 = .ok (.iload 5, 2) := by decide +kernel
theorem dX1_voteRefusal_24 : decode cX1_voteRefusal 24 = .ok (.invokestatic 156, 3) := by decide +kernel
theorem dX1_voteRefusal_27 : decode cX1_voteRefusal 27 = .ok (.ifCond .ne 6, 3) := by decide +kernel
theorem dX1_voteRefusal_30 : decode cX1_voteRefusal 30 = .ok (.bipush (-102), 2) := by decide +kernel
theorem dX1_voteRefusal_32 : decode cX1_voteRefusal 32 = .ok (.ireturn, 1) := by decide +kernel
theorem dX1_voteRefusal_33 : decode cX1_voteRefusal 33 = .ok (.aload_n 0, 1) := by decide +kernel
theorem dX1_voteRefusal_34 : decode cX1_voteRefusal 34 = .ok (.getfield 38, 3) := by decide +kernel
theorem dX1_voteRefusal_37 : decode cX1_voteRefusal 37 = .ok (.iload_n 2, 1) := by decide +kernel
theorem dX1_voteRefusal_38 : decode cX1_voteRefusal 38 = .ok (.iload_n 1, 1) := by decide +kernel
theorem dX1_voteRefusal_39 : decode cX1_voteRefusal 39 = .ok (.invokestatic 153, 3) := by decide +kernel
theorem dX1_voteRefusal_42 : decode cX1_voteRefusal 42 = .ok (.laload, 1) := by decide +kernel
theorem dX1_voteRefusal_43 : decode cX1_voteRefusal 43 = .ok (.lconst 0, 1) := by decide +kernel
theorem dX1_voteRefusal_44 : decode cX1_voteRefusal 44 = .ok (.lcmp, 1) := by decide +kernel
theorem dX1_voteRefusal_45 : decode cX1_voteRefusal 45 = .ok (.ifCond .ne 8, 3) := by decide +kernel
theorem dX1_voteRefusal_48 : decode cX1_voteRefusal 48 = .ok (.bipush (-103), 2) := by decide +kernel
theorem dX1_voteRefusal_50 : decode cX1_voteRefusal 50 = .ok (.goto 4, 3) := by decide +kernel
theorem dX1_voteRefusal_53 : decode cX1_voteRefusal 53 = .ok (.iconst 0, 1) := by decide +kernel
theorem dX1_voteRefusal_54 : decode cX1_voteRefusal 54 = .ok (.ireturn, 1) := by decide +kernel
theorem dX1_numberOf_0 : decode cX1_numberOf 0 = .ok (.iconst 0, 1) := by decide +kernel
theorem dX1_numberOf_1 : decode cX1_numberOf 1 = .ok (.istore_n 2, 1) := by decide +kernel
theorem dX1_numberOf_2 : decode cX1_numberOf 2 = .ok (.iload_n 2, 1) := by decide +kernel
theorem dX1_numberOf_3 : decode cX1_numberOf 3 = .ok (.aload_n 0, 1) := by decide +kernel
theorem dX1_numberOf_4 : decode cX1_numberOf 4 = .ok (.getfield 48, 3) := by decide +kernel
theorem dX1_numberOf_7 : decode cX1_numberOf 7 = .ok (.if_icmp .ge 21, 3) := by decide +kernel
theorem dX1_numberOf_10 : decode cX1_numberOf 10 = .ok (.aload_n 0, 1) := by decide +kernel
theorem dX1_numberOf_11 : decode cX1_numberOf 11 = .ok (.getfield 44, 3) := by decide +kernel
theorem dX1_numberOf_14 : decode cX1_numberOf 14 = .ok (.iload_n 2, 1) := by decide +kernel
theorem dX1_numberOf_15 : decode cX1_numberOf 15 = .ok (.iaload, 1) := by decide +kernel
theorem dX1_numberOf_16 : decode cX1_numberOf 16 = .ok (.iload_n 1, 1) := by decide +kernel
theorem dX1_numberOf_17 : decode cX1_numberOf 17 = .ok (.if_icmp .ne 5, 3) := by decide +kernel
theorem dX1_numberOf_20 : decode cX1_numberOf 20 = .ok (.iload_n 2, 1) := by decide +kernel
theorem dX1_numberOf_21 : decode cX1_numberOf 21 = .ok (.ireturn, 1) := by decide +kernel
theorem dX1_numberOf_22 : decode cX1_numberOf 22 = .ok (.iinc 2 1, 3) := by decide +kernel
theorem dX1_numberOf_25 : decode cX1_numberOf 25 = .ok (.goto (-23), 3) := by decide +kernel
theorem dX1_numberOf_28 : decode cX1_numberOf 28 = .ok (.iconst (-1), 1) := by decide +kernel
theorem dX1_numberOf_29 : decode cX1_numberOf 29 = .ok (.ireturn, 1) := by decide +kernel
set_option maxRecDepth 20000 in
theorem ggX1_keep_X1_blockOf : GoodIn wsX1_keep wsX1_blockOf := goodIn_r _ [6] (by decide +kernel) (by decide +kernel)
set_option maxRecDepth 20000 in
theorem gX1_keep_X1_blockOf : GoodIn wsX1_keep (va_wsS RX1 144 yX1_blockOf wsX1_blockOf) := goodIn_app (goodIn_of _ (by decide +kernel)) ggX1_keep_X1_blockOf
set_option maxRecDepth 20000 in
theorem ggX1_keep_X1_heightOf : GoodIn wsX1_keep wsX1_heightOf := goodIn_r _ [9] (by decide +kernel) (by decide +kernel)
set_option maxRecDepth 20000 in
theorem gX1_keep_X1_heightOf : GoodIn wsX1_keep (va_wsS RX1 135 yX1_heightOf wsX1_heightOf) := goodIn_app (goodIn_of _ (by decide +kernel)) ggX1_keep_X1_heightOf
set_option maxRecDepth 20000 in
theorem ggX1_keep_X1_weightFor : GoodIn wsX1_keep wsX1_weightFor := goodIn_r _ [13, 2, 1, 14, 7, 8, 5, 9, 15, 16, 17, 18, 19, 20, 40, 41, 42, 43, 44, 45, 46, 47, 48, 49, 50, 51, 52, 53] (by decide +kernel) (by decide +kernel)
set_option maxRecDepth 20000 in
theorem gX1_keep_X1_weightFor : GoodIn wsX1_keep (wsV RX1 160 RX1 yX1_weightFor wsX1_weightFor) := goodIn_app (goodIn_of _ (by decide +kernel)) ggX1_keep_X1_weightFor
set_option maxRecDepth 20000 in
theorem ggX1_keep_X1_isTheMost : GoodIn wsX1_keep wsX1_isTheMost := goodIn_r _ [24, 25, 26, 27, 40, 41, 42, 43, 44, 45, 46, 47, 48, 49, 50, 51, 52, 53] (by decide +kernel) (by decide +kernel)
set_option maxRecDepth 20000 in
theorem gX1_keep_X1_isTheMost : GoodIn wsX1_keep (wsV RX1 212 RX1 yX1_isTheMost wsX1_isTheMost) := goodIn_app (goodIn_of _ (by decide +kernel)) ggX1_keep_X1_isTheMost
set_option maxRecDepth 20000 in
theorem ggX1_keep_X1_noteTheMost : GoodIn wsX1_keep wsX1_noteTheMost := goodIn_r _ [31, 32, 33, 3, 4, 5, 6, 34, 35, 36, 7, 8, 9, 37, 38, 39, 40, 41, 42, 43, 44, 45, 46, 47, 48, 49, 50, 51, 52, 53] (by decide +kernel) (by decide +kernel)
set_option maxRecDepth 20000 in
theorem gX1_keep_X1_noteTheMost : GoodIn wsX1_keep (wsV RX1 216 RX1 yX1_noteTheMost wsX1_noteTheMost) := goodIn_app (goodIn_of _ (by decide +kernel)) ggX1_keep_X1_noteTheMost
theorem dX1_keep_0 : decode cX1_keep 0 = .ok (.aload_n 0, 1) := by decide +kernel
theorem dX1_keep_1 : decode cX1_keep 1 = .ok (.getfield 44, 3) := by decide +kernel
theorem dX1_keep_4 : decode cX1_keep 4 = .ok (.aload_n 0, 1) := by decide +kernel
theorem dX1_keep_5 : decode cX1_keep 5 = .ok (.getfield 48, 3) := by decide +kernel
theorem dX1_keep_8 : decode cX1_keep 8 = .ok (.iload_n 1, 1) := by decide +kernel
theorem dX1_keep_9 : decode cX1_keep 9 = .ok (.iastore, 1) := by decide +kernel
theorem dX1_keep_10 : decode cX1_keep 10 = .ok (.aload_n 0, 1) := by decide +kernel
theorem dX1_keep_11 : decode cX1_keep 11 = .ok (.dup, 1) := by decide +kernel
end
section
theorem dX1_keep_12 : decode cX1_keep 12 = .ok (.getfield 48, 3) := by decide +kernel
theorem dX1_keep_15 : decode cX1_keep 15 = .ok (.iconst 1, 1) := by decide +kernel
theorem dX1_keep_16 : decode cX1_keep 16 = .ok (.iadd, 1) := by decide +kernel
theorem dX1_keep_17 : decode cX1_keep 17 = .ok (.putfield 48, 3) := by decide +kernel
theorem dX1_keep_20 : decode cX1_keep 20 = .ok (.iload_n 1, 1) := by decide +kernel
theorem dX1_keep_21 : decode cX1_keep 21 = .ok (.invokestatic 144, 3) := by decide +kernel
theorem dX1_keep_24 : decode cX1_keep 24 = .ok (.ifCond .le 24, 3) := by decide +kernel
theorem dX1_keep_27 : decode cX1_keep 27 = .ok (.aload_n 0, 1) := by decide +kernel
theorem dX1_keep_28 : decode cX1_keep 28 = .ok (.iload_n 1, 1) := by decide +kernel
theorem dX1_keep_29 : decode cX1_keep 29 = .ok (.invokestatic 135, 3) := by decide +kernel
theorem dX1_keep_32 : decode cX1_keep 32 = .ok (.aload_n 0, 1) := by decide +kernel
theorem dX1_keep_33 : decode cX1_keep 33 = .ok (.iload_n 1, 1) := by decide +kernel
theorem dX1_keep_34 : decode cX1_keep 34 = .ok (.invokevirtual 160, 3) := by decide +kernel
theorem dX1_keep_37 : decode cX1_keep 37 = .ok (.invokevirtual 212, 3) := by decide +kernel
theorem dX1_keep_40 : decode cX1_keep 40 = .ok (.ifCond .eq 8, 3) := by decide +kernel
theorem dX1_keep_43 : decode cX1_keep 43 = .ok (.aload_n 0, 1) := by decide +kernel
theorem dX1_keep_44 : decode cX1_keep 44 = .ok (.iload_n 1, 1) := by decide +kernel
theorem dX1_keep_45 : decode cX1_keep 45 = .ok (.invokevirtual 216, 3) := by decide +kernel
theorem dX1_keep_48 : decode cX1_keep 48 = .ok (.return_, 1) := by decide +kernel
set_option maxRecDepth 20000 in
theorem ggX1_noteTheMost_X1_blockOf : GoodIn wsX1_noteTheMost wsX1_blockOf := goodIn_r _ [6] (by decide +kernel) (by decide +kernel)
set_option maxRecDepth 20000 in
theorem gX1_noteTheMost_X1_blockOf : GoodIn wsX1_noteTheMost (va_wsS RX1 144 yX1_blockOf wsX1_blockOf) := goodIn_app (goodIn_of _ (by decide +kernel)) ggX1_noteTheMost_X1_blockOf
set_option maxRecDepth 20000 in
theorem ggX1_noteTheMost_X1_stepOf : GoodIn wsX1_noteTheMost wsX1_stepOf := goodIn_r _ [9] (by decide +kernel) (by decide +kernel)
set_option maxRecDepth 20000 in
theorem gX1_noteTheMost_X1_stepOf : GoodIn wsX1_noteTheMost (va_wsS RX1 141 yX1_stepOf wsX1_stepOf) := goodIn_app (goodIn_of _ (by decide +kernel)) ggX1_noteTheMost_X1_stepOf
set_option maxRecDepth 20000 in
theorem ggX1_noteTheMost_X1_heightOf : GoodIn wsX1_noteTheMost wsX1_heightOf := goodIn_r _ [12] (by decide +kernel) (by decide +kernel)
set_option maxRecDepth 20000 in
theorem gX1_noteTheMost_X1_heightOf : GoodIn wsX1_noteTheMost (va_wsS RX1 135 yX1_heightOf wsX1_heightOf) := goodIn_app (goodIn_of _ (by decide +kernel)) ggX1_noteTheMost_X1_heightOf
set_option maxRecDepth 20000 in
theorem ggX1_noteTheMost_X1_roundOf : GoodIn wsX1_noteTheMost wsX1_roundOf := goodIn_r _ [15] (by decide +kernel) (by decide +kernel)
set_option maxRecDepth 20000 in
theorem gX1_noteTheMost_X1_roundOf : GoodIn wsX1_noteTheMost (va_wsS RX1 138 yX1_roundOf wsX1_roundOf) := goodIn_app (goodIn_of _ (by decide +kernel)) ggX1_noteTheMost_X1_roundOf
theorem dX1_noteTheMost_0 : decode cX1_noteTheMost 0 = .ok (.iconst 1, 1) := by decide +kernel
theorem dX1_noteTheMost_1 : decode cX1_noteTheMost 1 = .ok (.iload_n 1, 1) := by decide +kernel
theorem dX1_noteTheMost_2 : decode cX1_noteTheMost 2 = .ok (.invokestatic 144, 3) := by decide +kernel
theorem dX1_noteTheMost_5 : decode cX1_noteTheMost 5 = .ok (.ishl, 1) := by decide +kernel
theorem dX1_noteTheMost_6 : decode cX1_noteTheMost 6 = .ok (.istore_n 2, 1) := by decide +kernel
theorem dX1_noteTheMost_7 : decode cX1_noteTheMost 7 = .ok (.iload_n 1, 1) := by decide +kernel
theorem dX1_noteTheMost_8 : decode cX1_noteTheMost 8 = .ok (.invokestatic 141, 3) := by decide +kernel
theorem dX1_noteTheMost_11 : decode cX1_noteTheMost 11 = .ok (.ifCond .ne 27, 3) := by decide +kernel
theorem dX1_noteTheMost_14 : decode cX1_noteTheMost 14 = .ok (.aload_n 0, 1) := by decide +kernel
theorem dX1_noteTheMost_15 : decode cX1_noteTheMost 15 = .ok (.getfield 51, 3) := by decide +kernel
theorem dX1_noteTheMost_18 : decode cX1_noteTheMost 18 = .ok (.iload_n 1, 1) := by decide +kernel
theorem dX1_noteTheMost_19 : decode cX1_noteTheMost 19 = .ok (.invokestatic 135, 3) := by decide +kernel
theorem dX1_noteTheMost_22 : decode cX1_noteTheMost 22 = .ok (.bipush 8, 2) := by decide +kernel
theorem dX1_noteTheMost_24 : decode cX1_noteTheMost 24 = .ok (.imul, 1) := by decide +kernel
theorem dX1_noteTheMost_25 : decode cX1_noteTheMost 25 = .ok (.iload_n 1, 1) := by decide +kernel
theorem dX1_noteTheMost_26 : decode cX1_noteTheMost 26 = .ok (.invokestatic 138, 3) := by decide +kernel
theorem dX1_noteTheMost_29 : decode cX1_noteTheMost 29 = .ok (.iadd, 1) := by decide +kernel
theorem dX1_noteTheMost_30 : decode cX1_noteTheMost 30 = .ok (.dup2, 1) := by decide +kernel
theorem dX1_noteTheMost_31 : decode cX1_noteTheMost 31 = .ok (.iaload, 1) := by decide +kernel
theorem dX1_noteTheMost_32 : decode cX1_noteTheMost 32 = .ok (.iload_n 2, 1) := by decide +kernel
theorem dX1_noteTheMost_33 : decode cX1_noteTheMost 33 = .ok (.ior, 1) := by decide +kernel
theorem dX1_noteTheMost_34 : decode cX1_noteTheMost 34 = .ok (.iastore, 1) := by decide +kernel
theorem dX1_noteTheMost_35 : decode cX1_noteTheMost 35 = .ok (.goto 16, 3) := by decide +kernel
theorem dX1_noteTheMost_38 : decode cX1_noteTheMost 38 = .ok (.aload_n 0, 1) := by decide +kernel
theorem dX1_noteTheMost_39 : decode cX1_noteTheMost 39 = .ok (.getfield 54, 3) := by decide +kernel
theorem dX1_noteTheMost_42 : decode cX1_noteTheMost 42 = .ok (.iload_n 1, 1) := by decide +kernel
theorem dX1_noteTheMost_43 : decode cX1_noteTheMost 43 = .ok (.invokestatic 135, 3) := by decide +kernel
theorem dX1_noteTheMost_46 : decode cX1_noteTheMost 46 = .ok (.dup2, 1) := by decide +kernel
theorem dX1_noteTheMost_47 : decode cX1_noteTheMost 47 = .ok (.iaload, 1) := by decide +kernel
theorem dX1_noteTheMost_48 : decode cX1_noteTheMost 48 = .ok (.iload_n 2, 1) := by decide +kernel
theorem dX1_noteTheMost_49 : decode cX1_noteTheMost 49 = .ok (.ior, 1) := by decide +kernel
theorem dX1_noteTheMost_50 : decode cX1_noteTheMost 50 = .ok (.iastore, 1) := by decide +kernel
theorem dX1_noteTheMost_51 : decode cX1_noteTheMost 51 = .ok (.return_, 1) := by decide +kernel
theorem dX1_hasBlock_0 : decode cX1_hasBlock 0 = .ok (.iload_n 0, 1) := by decide +kernel
theorem dX1_hasBlock_1 : decode cX1_hasBlock 1 = .ok (.iconst 1, 1) := by decide +kernel
theorem dX1_hasBlock_2 : decode cX1_hasBlock 2 = .ok (.iload_n 1, 1) := by decide +kernel
theorem dX1_hasBlock_3 : decode cX1_hasBlock 3 = .ok (.ishl, 1) := by decide +kernel
theorem dX1_hasBlock_4 : decode cX1_hasBlock 4 = .ok (.iand, 1) := by decide +kernel
theorem dX1_hasBlock_5 : decode cX1_hasBlock 5 = .ok (.ifCond .eq 7, 3) := by decide +kernel
theorem dX1_hasBlock_8 : decode cX1_hasBlock 8 = .ok (.iconst 1, 1) := by decide +kernel
theorem dX1_hasBlock_9 : decode cX1_hasBlock 9 = .ok (.goto 4, 3) := by decide +kernel
theorem dX1_hasBlock_12 : decode cX1_hasBlock 12 = .ok (.iconst 0, 1) := by decide +kernel
theorem dX1_hasBlock_13 : decode cX1_hasBlock 13 = .ok (.ireturn, 1) := by decide +kernel
set_option maxRecDepth 20000 in
theorem ggX1_isBacked_X1_hasBlock : GoodIn wsX1_isBacked wsX1_hasBlock := goodIn_r _ [5] (by decide +kernel) (by decide +kernel)
set_option maxRecDepth 20000 in
theorem gX1_isBacked_X1_hasBlock : GoodIn wsX1_isBacked (va_wsS RX1 164 yX1_hasBlock wsX1_hasBlock) := goodIn_app (goodIn_of _ (by decide +kernel)) ggX1_isBacked_X1_hasBlock
theorem dX1_isBacked_0 : decode cX1_isBacked 0 = .ok (.aload_n 0, 1) := by decide +kernel
theorem dX1_isBacked_1 : decode cX1_isBacked 1 = .ok (.getfield 51, 3) := by decide +kernel
theorem dX1_isBacked_4 : decode cX1_isBacked 4 = .ok (.iload_n 1, 1) := by decide +kernel
theorem dX1_isBacked_5 : decode cX1_isBacked 5 = .ok (.bipush 8, 2) := by decide +kernel
theorem dX1_isBacked_7 : decode cX1_isBacked 7 = .ok (.imul, 1) := by decide +kernel
theorem dX1_isBacked_8 : decode cX1_isBacked 8 = .ok (.iload_n 2, 1) := by decide +kernel
theorem dX1_isBacked_9 : decode cX1_isBacked 9 = .ok (.iadd, 1) := by decide +kernel
theorem dX1_isBacked_10 : decode cX1_isBacked 10 = .ok (.iaload, 1) := by decide +kernel
theorem dX1_isBacked_11 : decode cX1_isBacked 11 = .ok (.iload_n 3, 1) := by decide +kernel
theorem dX1_isBacked_12 : decode cX1_isBacked 12 = .ok (.invokestatic 164, 3) := by decide +kernel
theorem dX1_isBacked_15 : decode cX1_isBacked 15 = .ok (.ireturn, 1) := by decide +kernel
theorem dX1_isTwice_0 : decode cX1_isTwice 0 = .ok (.iload_n 0, 1) := by decide +kernel
theorem dX1_isTwice_1 : decode cX1_isTwice 1 = .ok (.iload_n 1, 1) := by decide +kernel
theorem dX1_isTwice_2 : decode cX1_isTwice 2 = .ok (.if_icmp .eq 16, 3) := by decide +kernel
theorem dX1_isTwice_5 : decode cX1_isTwice 5 = .ok (.iload_n 0, 1) := by decide +kernel
theorem dX1_isTwice_6 : decode cX1_isTwice 6 = .ok (.iconst 4, 1) := by decide +kernel
theorem dX1_isTwice_7 : decode cX1_isTwice 7 = .ok (.ishr, 1) := by decide +kernel
theorem dX1_isTwice_8 : decode cX1_isTwice 8 = .ok (.iload_n 1, 1) := by decide +kernel
theorem dX1_isTwice_9 : decode cX1_isTwice 9 = .ok (.iconst 4, 1) := by decide +kernel
theorem dX1_isTwice_10 : decode cX1_isTwice 10 = .ok (.ishr, 1) := by decide +kernel
theorem dX1_isTwice_11 : decode cX1_isTwice 11 = .ok (.if_icmp .ne 7, 3) := by decide +kernel
theorem dX1_isTwice_14 : decode cX1_isTwice 14 = .ok (.iconst 1, 1) := by decide +kernel
theorem dX1_isTwice_15 : decode cX1_isTwice 15 = .ok (.goto 4, 3) := by decide +kernel
theorem dX1_isTwice_18 : decode cX1_isTwice 18 = .ok (.iconst 0, 1) := by decide +kernel
theorem dX1_isTwice_19 : decode cX1_isTwice 19 = .ok (.ireturn, 1) := by decide +kernel
set_option maxRecDepth 20000 in
theorem ggX1_isLocking_X1_stepOf : GoodIn wsX1_isLocking wsX1_stepOf := goodIn_r _ [4] (by decide +kernel) (by decide +kernel)
set_option maxRecDepth 20000 in
theorem gX1_isLocking_X1_stepOf : GoodIn wsX1_isLocking (va_wsS RX1 141 yX1_stepOf wsX1_stepOf) := goodIn_app (goodIn_of _ (by decide +kernel)) ggX1_isLocking_X1_stepOf
set_option maxRecDepth 20000 in
theorem ggX1_isLocking_X1_blockOf : GoodIn wsX1_isLocking wsX1_blockOf := goodIn_r _ [7] (by decide +kernel) (by decide +kernel)
set_option maxRecDepth 20000 in
theorem gX1_isLocking_X1_blockOf : GoodIn wsX1_isLocking (va_wsS RX1 144 yX1_blockOf wsX1_blockOf) := goodIn_app (goodIn_of _ (by decide +kernel)) ggX1_isLocking_X1_blockOf
theorem dX1_isLocking_0 : decode cX1_isLocking 0 = .ok (.iload_n 0, 1) := by decide +kernel
theorem dX1_isLocking_1 : decode cX1_isLocking 1 = .ok (.invokestatic 141, 3) := by decide +kernel
theorem dX1_isLocking_4 : decode cX1_isLocking 4 = .ok (.iconst 1, 1) := by decide +kernel
theorem dX1_isLocking_5 : decode cX1_isLocking 5 = .ok (.if_icmp .ne 14, 3) := by decide +kernel
theorem dX1_isLocking_8 : decode cX1_isLocking 8 = .ok (.iload_n 0, 1) := by decide +kernel
theorem dX1_isLocking_9 : decode cX1_isLocking 9 = .ok (.invokestatic 144, 3) := by decide +kernel
theorem dX1_isLocking_12 : decode cX1_isLocking 12 = .ok (.ifCond .le 7, 3) := by decide +kernel
theorem dX1_isLocking_15 : decode cX1_isLocking 15 = .ok (.iconst 1, 1) := by decide +kernel
theorem dX1_isLocking_16 : decode cX1_isLocking 16 = .ok (.goto 4, 3) := by decide +kernel
theorem dX1_isLocking_19 : decode cX1_isLocking 19 = .ok (.iconst 0, 1) := by decide +kernel
theorem dX1_isLocking_20 : decode cX1_isLocking 20 = .ok (.ireturn, 1) := by decide +kernel
set_option maxRecDepth 20000 in
theorem ggX1_isLock_X1_isLocking : GoodIn wsX1_isLock wsX1_isLocking := goodIn_r _ [4, 5, 6, 3, 7, 8, 9, 10] (by decide +kernel) (by decide +kernel)
set_option maxRecDepth 20000 in
theorem gX1_isLock_X1_isLocking : GoodIn wsX1_isLock (va_wsS RX1 219 yX1_isLocking wsX1_isLocking) := goodIn_app (goodIn_of _ (by decide +kernel)) ggX1_isLock_X1_isLocking
set_option maxRecDepth 20000 in
theorem ggX1_isLock_X1_voterOf : GoodIn wsX1_isLock wsX1_voterOf := goodIn_r _ [13] (by decide +kernel) (by decide +kernel)
set_option maxRecDepth 20000 in
theorem gX1_isLock_X1_voterOf : GoodIn wsX1_isLock (va_wsS RX1 222 yX1_voterOf wsX1_voterOf) := goodIn_app (goodIn_of _ (by decide +kernel)) ggX1_isLock_X1_voterOf
set_option maxRecDepth 20000 in
theorem ggX1_isLock_X1_roundOf : GoodIn wsX1_isLock wsX1_roundOf := goodIn_r _ [16] (by decide +kernel) (by decide +kernel)
set_option maxRecDepth 20000 in
theorem gX1_isLock_X1_roundOf : GoodIn wsX1_isLock (va_wsS RX1 138 yX1_roundOf wsX1_roundOf) := goodIn_app (goodIn_of _ (by decide +kernel)) ggX1_isLock_X1_roundOf
set_option maxRecDepth 20000 in
theorem ggX1_isLock_X1_blockOf : GoodIn wsX1_isLock wsX1_blockOf := goodIn_r _ [10] (by decide +kernel) (by decide +kernel)
set_option maxRecDepth 20000 in
theorem gX1_isLock_X1_blockOf : GoodIn wsX1_isLock (va_wsS RX1 144 yX1_blockOf wsX1_blockOf) := goodIn_app (goodIn_of _ (by decide +kernel)) ggX1_isLock_X1_blockOf
set_option maxRecDepth 20000 in
theorem ggX1_isLock_X1_stepOf : GoodIn wsX1_isLock wsX1_stepOf := goodIn_r _ [7] (by decide +kernel) (by decide +kernel)
set_option maxRecDepth 20000 in
theorem gX1_isLock_X1_stepOf : GoodIn wsX1_isLock (va_wsS RX1 141 yX1_stepOf wsX1_stepOf) := goodIn_app (goodIn_of _ (by decide +kernel)) ggX1_isLock_X1_stepOf
set_option maxRecDepth 20000 in
theorem ggX1_isLock_X1_heightOf : GoodIn wsX1_isLock wsX1_heightOf := goodIn_r _ [19] (by decide +kernel) (by decide +kernel)
set_option maxRecDepth 20000 in
theorem gX1_isLock_X1_heightOf : GoodIn wsX1_isLock (va_wsS RX1 135 yX1_heightOf wsX1_heightOf) := goodIn_app (goodIn_of _ (by decide +kernel)) ggX1_isLock_X1_heightOf
set_option maxRecDepth 20000 in
theorem ggX1_isLock_X1_isUnlocked : GoodIn wsX1_isLock wsX1_isUnlocked := goodIn_r _ [23, 24, 25, 26, 3, 27, 28, 29, 30, 31, 32, 33, 34, 35, 36, 37, 38, 39, 40, 41, 42, 43, 44, 45] (by decide +kernel) (by decide +kernel)
set_option maxRecDepth 20000 in
theorem gX1_isLock_X1_isUnlocked : GoodIn wsX1_isLock (wsV RX1 225 RX1 yX1_isUnlocked wsX1_isUnlocked) := goodIn_app (goodIn_of _ (by decide +kernel)) ggX1_isLock_X1_isUnlocked
theorem dX1_isLock_0 : decode cX1_isLock 0 = .ok (.iload_n 1, 1) := by decide +kernel
theorem dX1_isLock_1 : decode cX1_isLock 1 = .ok (.invokestatic 219, 3) := by decide +kernel
theorem dX1_isLock_4 : decode cX1_isLock 4 = .ok (.ifCond .eq 25, 3) := by decide +kernel
theorem dX1_isLock_7 : decode cX1_isLock 7 = .ok (.iload_n 1, 1) := by decide +kernel
theorem dX1_isLock_8 : decode cX1_isLock 8 = .ok (.invokestatic 222, 3) := by decide +kernel
theorem dX1_isLock_11 : decode cX1_isLock 11 = .ok (.iload_n 2, 1) := by decide +kernel
theorem dX1_isLock_12 : decode cX1_isLock 12 = .ok (.invokestatic 222, 3) := by decide +kernel
theorem dX1_isLock_15 : decode cX1_isLock 15 = .ok (.if_icmp .ne 14, 3) := by decide +kernel
theorem dX1_isLock_18 : decode cX1_isLock 18 = .ok (.iload_n 1, 1) := by decide +kernel
theorem dX1_isLock_19 : decode cX1_isLock 19 = .ok (.invokestatic 138, 3) := by decide +kernel
theorem dX1_isLock_22 : decode cX1_isLock 22 = .ok (.iload_n 2, 1) := by decide +kernel
theorem dX1_isLock_23 : decode cX1_isLock 23 = .ok (.invokestatic 138, 3) := by decide +kernel
theorem dX1_isLock_26 : decode cX1_isLock 26 = .ok (.if_icmp .lt 5, 3) := by decide +kernel
theorem dX1_isLock_29 : decode cX1_isLock 29 = .ok (.iconst 0, 1) := by decide +kernel
theorem dX1_isLock_30 : decode cX1_isLock 30 = .ok (.ireturn, 1) := by decide +kernel
theorem dX1_isLock_31 : decode cX1_isLock 31 = .ok (.iload_n 2, 1) := by decide +kernel
theorem dX1_isLock_32 : decode cX1_isLock 32 = .ok (.invokestatic 144, 3) := by decide +kernel
theorem dX1_isLock_35 : decode cX1_isLock 35 = .ok (.istore_n 3, 1) := by decide +kernel
theorem dX1_isLock_36 : decode cX1_isLock 36 = .ok (.iload_n 2, 1) := by decide +kernel
theorem dX1_isLock_37 : decode cX1_isLock 37 = .ok (.invokestatic 141, 3) := by decide +kernel
theorem dX1_isLock_40 : decode cX1_isLock 40 = .ok (.ifCond .ne 15, 3) := by decide +kernel
theorem dX1_isLock_43 : decode cX1_isLock 43 = .ok (.iload_n 3, 1) := by decide +kernel
theorem dX1_isLock_44 : decode cX1_isLock 44 = .ok (.ifCond .eq 11, 3) := by decide +kernel
theorem dX1_isLock_47 : decode cX1_isLock 47 = .ok (.iload_n 3, 1) := by decide +kernel
theorem dX1_isLock_48 : decode cX1_isLock 48 = .ok (.iload_n 1, 1) := by decide +kernel
theorem dX1_isLock_49 : decode cX1_isLock 49 = .ok (.invokestatic 144, 3) := by decide +kernel
theorem dX1_isLock_52 : decode cX1_isLock 52 = .ok (.if_icmp .ne 5, 3) := by decide +kernel
theorem dX1_isLock_55 : decode cX1_isLock 55 = .ok (.iconst 0, 1) := by decide +kernel
theorem dX1_isLock_56 : decode cX1_isLock 56 = .ok (.ireturn, 1) := by decide +kernel
theorem dX1_isLock_57 : decode cX1_isLock 57 = .ok (.aload_n 0, 1) := by decide +kernel
theorem dX1_isLock_58 : decode cX1_isLock 58 = .ok (.iload_n 2, 1) := by decide +kernel
theorem dX1_isLock_59 : decode cX1_isLock 59 = .ok (.invokestatic 135, 3) := by decide +kernel
theorem dX1_isLock_62 : decode cX1_isLock 62 = .ok (.iload_n 3, 1) := by decide +kernel
theorem dX1_isLock_63 : decode cX1_isLock 63 = .ok (.iload_n 1, 1) := by decide +kernel
theorem dX1_isLock_64 : decode cX1_isLock 64 = .ok (.invokestatic 138, 3) := by decide +kernel
theorem dX1_isLock_67 : decode cX1_isLock 67 = .ok (.iload_n 2, 1) := by decide +kernel
theorem dX1_isLock_68 : decode cX1_isLock 68 = .ok (.invokestatic 138, 3) := by decide +kernel
theorem dX1_isLock_71 : decode cX1_isLock 71 = .ok (.invokevirtual 225, 3) := by decide +kernel
theorem dX1_isLock_74 : decode cX1_isLock 74 = .ok (.ifCond .ne 7, 3) := by decide +kernel
theorem dX1_isLock_77 : decode cX1_isLock 77 = .ok (.iconst 1, 1) := by decide +kernel
theorem dX1_isLock_78 : decode cX1_isLock 78 = .ok (.goto 4, 3) := by decide +kernel
theorem dX1_isLock_81 : decode cX1_isLock 81 = .ok (.iconst 0, 1) := by decide +kernel
theorem dX1_isLock_82 : decode cX1_isLock 82 = .ok (.ireturn, 1) := by decide +kernel
set_option maxRecDepth 20000 in
theorem ggX1_isUnlocked_X1_isBacked : GoodIn wsX1_isUnlocked wsX1_isBacked := goodIn_r _ [5, 6, 7, 8, 4, 9, 10, 11, 12, 13, 14, 15, 16, 17, 18, 19, 20, 21, 22, 23] (by decide +kernel) (by decide +kernel)
set_option maxRecDepth 20000 in
theorem gX1_isUnlocked_X1_isBacked : GoodIn wsX1_isUnlocked (wsV RX1 229 RX1 yX1_isBacked wsX1_isBacked) := goodIn_app (goodIn_of _ (by decide +kernel)) ggX1_isUnlocked_X1_isBacked
theorem dX1_isUnlocked_0 : decode cX1_isUnlocked 0 = .ok (.iload_n 3, 1) := by decide +kernel
theorem dX1_isUnlocked_1 : decode cX1_isUnlocked 1 = .ok (.istore 5, 2) := by decide +kernel
theorem dX1_isUnlocked_3 : decode cX1_isUnlocked 3 = .ok (.iload 5, 2) := by decide +kernel
theorem dX1_isUnlocked_5 : decode cX1_isUnlocked 5 = .ok (.iload 4, 2) := by decide +kernel
theorem dX1_isUnlocked_7 : decode cX1_isUnlocked 7 = .ok (.if_icmp .ge 22, 3) := by decide +kernel
theorem dX1_isUnlocked_10 : decode cX1_isUnlocked 10 = .ok (.aload_n 0, 1) := by decide +kernel
theorem dX1_isUnlocked_11 : decode cX1_isUnlocked 11 = .ok (.iload_n 1, 1) := by decide +kernel
theorem dX1_isUnlocked_12 : decode cX1_isUnlocked 12 = .ok (.iload 5, 2) := by decide +kernel
theorem dX1_isUnlocked_14 : decode cX1_isUnlocked 14 = .ok (.iload_n 2, 1) := by decide +kernel
theorem dX1_isUnlocked_15 : decode cX1_isUnlocked 15 = .ok (.invokevirtual 229, 3) := by decide +kernel
theorem dX1_isUnlocked_18 : decode cX1_isUnlocked 18 = .ok (.ifCond .eq 5, 3) := by decide +kernel
theorem dX1_isUnlocked_21 : decode cX1_isUnlocked 21 = .ok (.iconst 1, 1) := by decide +kernel
theorem dX1_isUnlocked_22 : decode cX1_isUnlocked 22 = .ok (.ireturn, 1) := by decide +kernel
theorem dX1_isUnlocked_23 : decode cX1_isUnlocked 23 = .ok (.iinc 5 1, 3) := by decide +kernel
theorem dX1_isUnlocked_26 : decode cX1_isUnlocked 26 = .ok (.goto (-23), 3) := by decide +kernel
theorem dX1_isUnlocked_29 : decode cX1_isUnlocked 29 = .ok (.iconst 0, 1) := by decide +kernel
theorem dX1_isUnlocked_30 : decode cX1_isUnlocked 30 = .ok (.ireturn, 1) := by decide +kernel
set_option maxRecDepth 20000 in
theorem ggX1_isBare_X1_isLocking : GoodIn wsX1_isBare wsX1_isLocking := goodIn_r _ [4, 5, 6, 3, 7, 8, 9, 10] (by decide +kernel) (by decide +kernel)
set_option maxRecDepth 20000 in
theorem gX1_isBare_X1_isLocking : GoodIn wsX1_isBare (va_wsS RX1 219 yX1_isLocking wsX1_isLocking) := goodIn_app (goodIn_of _ (by decide +kernel)) ggX1_isBare_X1_isLocking
set_option maxRecDepth 20000 in
theorem ggX1_isBare_X1_heightOf : GoodIn wsX1_isBare wsX1_heightOf := goodIn_r _ [13] (by decide +kernel) (by decide +kernel)
set_option maxRecDepth 20000 in
theorem gX1_isBare_X1_heightOf : GoodIn wsX1_isBare (va_wsS RX1 135 yX1_heightOf wsX1_heightOf) := goodIn_app (goodIn_of _ (by decide +kernel)) ggX1_isBare_X1_heightOf
set_option maxRecDepth 20000 in
theorem ggX1_isBare_X1_roundOf : GoodIn wsX1_isBare wsX1_roundOf := goodIn_r _ [16] (by decide +kernel) (by decide +kernel)
set_option maxRecDepth 20000 in
theorem gX1_isBare_X1_roundOf : GoodIn wsX1_isBare (va_wsS RX1 138 yX1_roundOf wsX1_roundOf) := goodIn_app (goodIn_of _ (by decide +kernel)) ggX1_isBare_X1_roundOf
set_option maxRecDepth 20000 in
theorem ggX1_isBare_X1_blockOf : GoodIn wsX1_isBare wsX1_blockOf := goodIn_r _ [10] (by decide +kernel) (by decide +kernel)
set_option maxRecDepth 20000 in
theorem gX1_isBare_X1_blockOf : GoodIn wsX1_isBare (va_wsS RX1 144 yX1_blockOf wsX1_blockOf) := goodIn_app (goodIn_of _ (by decide +kernel)) ggX1_isBare_X1_blockOf
set_option maxRecDepth 20000 in
theorem ggX1_isBare_X1_isBacked : GoodIn wsX1_isBare wsX1_isBacked := goodIn_r _ [20, 21, 22, 23, 3, 24, 25, 26, 27, 28, 29, 30, 31, 32, 33, 34, 35, 36, 37, 38] (by decide +kernel) (by decide +kernel)
set_option maxRecDepth 20000 in
theorem gX1_isBare_X1_isBacked : GoodIn wsX1_isBare (wsV RX1 229 RX1 yX1_isBacked wsX1_isBacked) := goodIn_app (goodIn_of _ (by decide +kernel)) ggX1_isBare_X1_isBacked
theorem dX1_isBare_0 : decode cX1_isBare 0 = .ok (.iload_n 1, 1) := by decide +kernel
theorem dX1_isBare_1 : decode cX1_isBare 1 = .ok (.invokestatic 219, 3) := by decide +kernel
theorem dX1_isBare_4 : decode cX1_isBare 4 = .ok (.ifCond .eq 26, 3) := by decide +kernel
theorem dX1_isBare_7 : decode cX1_isBare 7 = .ok (.aload_n 0, 1) := by decide +kernel
theorem dX1_isBare_8 : decode cX1_isBare 8 = .ok (.iload_n 1, 1) := by decide +kernel
theorem dX1_isBare_9 : decode cX1_isBare 9 = .ok (.invokestatic 135, 3) := by decide +kernel
theorem dX1_isBare_12 : decode cX1_isBare 12 = .ok (.iload_n 1, 1) := by decide +kernel
theorem dX1_isBare_13 : decode cX1_isBare 13 = .ok (.invokestatic 138, 3) := by decide +kernel
theorem dX1_isBare_16 : decode cX1_isBare 16 = .ok (.iload_n 1, 1) := by decide +kernel
theorem dX1_isBare_17 : decode cX1_isBare 17 = .ok (.invokestatic 144, 3) := by decide +kernel
theorem dX1_isBare_20 : decode cX1_isBare 20 = .ok (.invokevirtual 229, 3) := by decide +kernel
theorem dX1_isBare_23 : decode cX1_isBare 23 = .ok (.ifCond .ne 7, 3) := by decide +kernel
theorem dX1_isBare_26 : decode cX1_isBare 26 = .ok (.iconst 1, 1) := by decide +kernel
theorem dX1_isBare_27 : decode cX1_isBare 27 = .ok (.goto 4, 3) := by decide +kernel
theorem dX1_isBare_30 : decode cX1_isBare 30 = .ok (.iconst 0, 1) := by decide +kernel
theorem dX1_isBare_31 : decode cX1_isBare 31 = .ok (.ireturn, 1) := by decide +kernel
set_option maxRecDepth 20000 in
theorem ggX1_isPair_X1_isTwice : GoodIn wsX1_isPair wsX1_isTwice := goodIn_r _ [4] (by decide +kernel) (by decide +kernel)
set_option maxRecDepth 20000 in
theorem gX1_isPair_X1_isTwice : GoodIn wsX1_isPair (va_wsS RX1 232 yX1_isTwice wsX1_isTwice) := goodIn_app (goodIn_of _ (by decide +kernel)) ggX1_isPair_X1_isTwice
set_option maxRecDepth 20000 in
theorem ggX1_isPair_X1_isLock : GoodIn wsX1_isPair wsX1_isLock := goodIn_r _ [8, 9, 10, 3, 11, 12, 13, 14, 15, 16, 17, 18, 19, 20, 21, 22, 23, 24, 25, 26, 27, 28, 29, 30, 31, 32, 33, 34, 35, 36, 37, 38, 39, 40, 41, 42, 43, 44, 45, 46, 47, 48, 49, 50, 51, 52] (by decide +kernel) (by decide +kernel)
set_option maxRecDepth 20000 in
theorem gX1_isPair_X1_isLock : GoodIn wsX1_isPair (wsV RX1 235 RX1 yX1_isLock wsX1_isLock) := goodIn_app (goodIn_of _ (by decide +kernel)) ggX1_isPair_X1_isLock
theorem dX1_isPair_0 : decode cX1_isPair 0 = .ok (.iload_n 1, 1) := by decide +kernel
theorem dX1_isPair_1 : decode cX1_isPair 1 = .ok (.ifCond .ne 11, 3) := by decide +kernel
theorem dX1_isPair_4 : decode cX1_isPair 4 = .ok (.iload_n 2, 1) := by decide +kernel
theorem dX1_isPair_5 : decode cX1_isPair 5 = .ok (.iload_n 3, 1) := by decide +kernel
theorem dX1_isPair_6 : decode cX1_isPair 6 = .ok (.invokestatic 232, 3) := by decide +kernel
theorem dX1_isPair_9 : decode cX1_isPair 9 = .ok (.goto 9, 3) := by decide +kernel
theorem dX1_isPair_12 : decode cX1_isPair 12 = .ok (.aload_n 0, 1) := by decide +kernel
theorem dX1_isPair_13 : decode cX1_isPair 13 = .ok (.iload_n 2, 1) := by decide +kernel
theorem dX1_isPair_14 : decode cX1_isPair 14 = .ok (.iload_n 3, 1) := by decide +kernel
theorem dX1_isPair_15 : decode cX1_isPair 15 = .ok (.invokevirtual 235, 3) := by decide +kernel
theorem dX1_isPair_18 : decode cX1_isPair 18 = .ok (.ireturn, 1) := by decide +kernel
set_option maxRecDepth 20000 in
theorem ggX1_makesBreak_X1_isBare : GoodIn wsX1_makesBreak wsX1_isBare := goodIn_r _ [7, 8, 9, 6, 10, 11, 12, 13, 14, 15, 16, 17, 18, 19, 20, 21, 22, 23, 24, 25, 26, 27, 28, 29, 30, 49, 50, 51, 52, 53, 54, 55, 56, 57, 58, 59, 60, 61, 62] (by decide +kernel) (by decide +kernel)
set_option maxRecDepth 20000 in
theorem gX1_makesBreak_X1_isBare : GoodIn wsX1_makesBreak (wsV RX1 238 RX1 yX1_isBare wsX1_isBare) := goodIn_app (goodIn_of _ (by decide +kernel)) ggX1_makesBreak_X1_isBare
set_option maxRecDepth 20000 in
theorem ggX1_makesBreak_X1_voterOf : GoodIn wsX1_makesBreak wsX1_voterOf := goodIn_r _ [33] (by decide +kernel) (by decide +kernel)
set_option maxRecDepth 20000 in
theorem gX1_makesBreak_X1_voterOf : GoodIn wsX1_makesBreak (va_wsS RX1 222 yX1_voterOf wsX1_voterOf) := goodIn_app (goodIn_of _ (by decide +kernel)) ggX1_makesBreak_X1_voterOf
set_option maxRecDepth 20000 in
theorem ggX1_makesBreak_X1_isClash : GoodIn wsX1_makesBreak wsX1_isClash := goodIn_r _ [37, 38, 39, 6, 40, 41, 42, 43, 44, 8, 9, 10, 11, 12, 13, 14, 15, 16, 31, 32, 33, 20, 21, 22, 17, 18, 19, 45, 46, 47, 48, 23, 24, 25, 26, 27, 28, 29, 30, 49, 50, 51, 52, 53, 54, 55, 56, 57, 58, 59, 60, 61, 62] (by decide +kernel) (by decide +kernel)
set_option maxRecDepth 20000 in
theorem gX1_makesBreak_X1_isClash : GoodIn wsX1_makesBreak (wsV RX1 241 RX1 yX1_isClash wsX1_isClash) := goodIn_app (goodIn_of _ (by decide +kernel)) ggX1_makesBreak_X1_isClash
theorem dX1_makesBreak_0 : decode cX1_makesBreak 0 = .ok (.aload_n 0, 1) := by decide +kernel
theorem dX1_makesBreak_1 : decode cX1_makesBreak 1 = .ok (.iload_n 1, 1) := by decide +kernel
theorem dX1_makesBreak_2 : decode cX1_makesBreak 2 = .ok (.invokevirtual 238, 3) := by decide +kernel
theorem dX1_makesBreak_5 : decode cX1_makesBreak 5 = .ok (.ifCond .eq 5, 3) := by decide +kernel
theorem dX1_makesBreak_8 : decode cX1_makesBreak 8 = .ok (.iconst 1, 1) := by decide +kernel
theorem dX1_makesBreak_9 : decode cX1_makesBreak 9 = .ok (.ireturn, 1) := by decide +kernel
theorem dX1_makesBreak_10 : decode cX1_makesBreak 10 = .ok (.iload_n 1, 1) := by decide +kernel
theorem dX1_makesBreak_11 : decode cX1_makesBreak 11 = .ok (.invokestatic 222, 3) := by decide +kernel
theorem dX1_makesBreak_14 : decode cX1_makesBreak 14 = .ok (.istore_n 2, 1) := by decide +kernel
theorem dX1_makesBreak_15 : decode cX1_makesBreak 15 = .ok (.iconst 0, 1) := by decide +kernel
theorem dX1_makesBreak_16 : decode cX1_makesBreak 16 = .ok (.istore_n 3, 1) := by decide +kernel
theorem dX1_makesBreak_17 : decode cX1_makesBreak 17 = .ok (.iload_n 3, 1) := by decide +kernel
theorem dX1_makesBreak_18 : decode cX1_makesBreak 18 = .ok (.aload_n 0, 1) := by decide +kernel
theorem dX1_makesBreak_19 : decode cX1_makesBreak 19 = .ok (.getfield 48, 3) := by decide +kernel
theorem dX1_makesBreak_22 : decode cX1_makesBreak 22 = .ok (.if_icmp .ge 38, 3) := by decide +kernel
theorem dX1_makesBreak_25 : decode cX1_makesBreak 25 = .ok (.aload_n 0, 1) := by decide +kernel
theorem dX1_makesBreak_26 : decode cX1_makesBreak 26 = .ok (.getfield 44, 3) := by decide +kernel
theorem dX1_makesBreak_29 : decode cX1_makesBreak 29 = .ok (.iload_n 3, 1) := by decide +kernel
theorem dX1_makesBreak_30 : decode cX1_makesBreak 30 = .ok (.iaload, 1) := by decide +kernel
theorem dX1_makesBreak_31 : decode cX1_makesBreak 31 = .ok (.bipush 8, 2) := by decide +kernel
theorem dX1_makesBreak_33 : decode cX1_makesBreak 33 = .ok (.ishr, 1) := by decide +kernel
theorem dX1_makesBreak_34 : decode cX1_makesBreak 34 = .ok (.iload_n 2, 1) := by decide +kernel
theorem dX1_makesBreak_35 : decode cX1_makesBreak 35 = .ok (.if_icmp .ne 19, 3) := by decide +kernel
theorem dX1_makesBreak_38 : decode cX1_makesBreak 38 = .ok (.aload_n 0, 1) := by decide +kernel
theorem dX1_makesBreak_39 : decode cX1_makesBreak 39 = .ok (.iload_n 1, 1) := by decide +kernel
theorem dX1_makesBreak_40 : decode cX1_makesBreak 40 = .ok (.aload_n 0, 1) := by decide +kernel
theorem dX1_makesBreak_41 : decode cX1_makesBreak 41 = .ok (.getfield 44, 3) := by decide +kernel
theorem dX1_makesBreak_44 : decode cX1_makesBreak 44 = .ok (.iload_n 3, 1) := by decide +kernel
theorem dX1_makesBreak_45 : decode cX1_makesBreak 45 = .ok (.iaload, 1) := by decide +kernel
theorem dX1_makesBreak_46 : decode cX1_makesBreak 46 = .ok (.invokevirtual 241, 3) := by decide +kernel
theorem dX1_makesBreak_49 : decode cX1_makesBreak 49 = .ok (.ifCond .eq 5, 3) := by decide +kernel
theorem dX1_makesBreak_52 : decode cX1_makesBreak 52 = .ok (.iconst 1, 1) := by decide +kernel
theorem dX1_makesBreak_53 : decode cX1_makesBreak 53 = .ok (.ireturn, 1) := by decide +kernel
theorem dX1_makesBreak_54 : decode cX1_makesBreak 54 = .ok (.iinc 3 1, 3) := by decide +kernel
theorem dX1_makesBreak_57 : decode cX1_makesBreak 57 = .ok (.goto (-40), 3) := by decide +kernel
theorem dX1_makesBreak_60 : decode cX1_makesBreak 60 = .ok (.iconst 0, 1) := by decide +kernel
theorem dX1_makesBreak_61 : decode cX1_makesBreak 61 = .ok (.ireturn, 1) := by decide +kernel
set_option maxRecDepth 20000 in
theorem ggX1_isClash_X1_isTwice : GoodIn wsX1_isClash wsX1_isTwice := goodIn_r _ [4] (by decide +kernel) (by decide +kernel)
set_option maxRecDepth 20000 in
theorem gX1_isClash_X1_isTwice : GoodIn wsX1_isClash (va_wsS RX1 232 yX1_isTwice wsX1_isTwice) := goodIn_app (goodIn_of _ (by decide +kernel)) ggX1_isClash_X1_isTwice
set_option maxRecDepth 20000 in
theorem ggX1_isClash_X1_isLock : GoodIn wsX1_isClash wsX1_isLock := goodIn_r _ [8, 9, 10, 3, 11, 12, 13, 14, 15, 16, 17, 18, 19, 20, 21, 22, 23, 24, 25, 26, 27, 28, 29, 30, 31, 32, 33, 34, 35, 36, 37, 38, 39, 40, 41, 42, 43, 44, 45, 46, 47, 48, 49, 50, 51, 52] (by decide +kernel) (by decide +kernel)
set_option maxRecDepth 20000 in
theorem gX1_isClash_X1_isLock : GoodIn wsX1_isClash (wsV RX1 235 RX1 yX1_isLock wsX1_isLock) := goodIn_app (goodIn_of _ (by decide +kernel)) ggX1_isClash_X1_isLock
theorem dX1_isClash_0 : decode cX1_isClash 0 = .ok (.iload_n 1, 1) := by decide +kernel
theorem dX1_isClash_1 : decode cX1_isClash 1 = .ok (.iload_n 2, 1) := by decide +kernel
theorem dX1_isClash_2 : decode cX1_isClash 2 = .ok (.invokestatic 232, 3) := by decide +kernel
theorem dX1_isClash_5 : decode cX1_isClash 5 = .ok (.ifCond .ne 21, 3) := by decide +kernel
theorem dX1_isClash_8 : decode cX1_isClash 8 = .ok (.aload_n 0, 1) := by decide +kernel
theorem dX1_isClash_9 : decode cX1_isClash 9 = .ok (.iload_n 1, 1) := by decide +kernel
theorem dX1_isClash_10 : decode cX1_isClash 10 = .ok (.iload_n 2, 1) := by decide +kernel
theorem dX1_isClash_11 : decode cX1_isClash 11 = .ok (.invokevirtual 235, 3) := by decide +kernel
theorem dX1_isClash_14 : decode cX1_isClash 14 = .ok (.ifCond .ne 12, 3) := by decide +kernel
theorem dX1_isClash_17 : decode cX1_isClash 17 = .ok (.aload_n 0, 1) := by decide +kernel
theorem dX1_isClash_18 : decode cX1_isClash 18 = .ok (.iload_n 2, 1) := by decide +kernel
theorem dX1_isClash_19 : decode cX1_isClash 19 = .ok (.iload_n 1, 1) := by decide +kernel
theorem dX1_isClash_20 : decode cX1_isClash 20 = .ok (.invokevirtual 235, 3) := by decide +kernel
theorem dX1_isClash_23 : decode cX1_isClash 23 = .ok (.ifCond .eq 7, 3) := by decide +kernel
theorem dX1_isClash_26 : decode cX1_isClash 26 = .ok (.iconst 1, 1) := by decide +kernel
theorem dX1_isClash_27 : decode cX1_isClash 27 = .ok (.goto 4, 3) := by decide +kernel
theorem dX1_isClash_30 : decode cX1_isClash 30 = .ok (.iconst 0, 1) := by decide +kernel
theorem dX1_isClash_31 : decode cX1_isClash 31 = .ok (.ireturn, 1) := by decide +kernel
set_option maxRecDepth 20000 in
theorem ggX1_countBreaksFrom_X1_isBare : GoodIn wsX1_countBreaksFrom wsX1_isBare := goodIn_r _ [7, 8, 9, 6, 10, 11, 12, 13, 14, 15, 16, 17, 18, 19, 20, 21, 22, 23, 24, 25, 26, 27, 28, 29, 30, 52, 53, 54, 55, 56, 57, 58, 59, 60, 61, 62, 63, 64, 65] (by decide +kernel) (by decide +kernel)
set_option maxRecDepth 20000 in
theorem gX1_countBreaksFrom_X1_isBare : GoodIn wsX1_countBreaksFrom (wsV RX1 238 RX1 yX1_isBare wsX1_isBare) := goodIn_app (goodIn_of _ (by decide +kernel)) ggX1_countBreaksFrom_X1_isBare
set_option maxRecDepth 20000 in
theorem ggX1_countBreaksFrom_X1_isLocking : GoodIn wsX1_countBreaksFrom wsX1_isLocking := goodIn_r _ [10, 11, 12, 6, 13, 14, 15, 16] (by decide +kernel) (by decide +kernel)
set_option maxRecDepth 20000 in
theorem gX1_countBreaksFrom_X1_isLocking : GoodIn wsX1_countBreaksFrom (va_wsS RX1 219 yX1_isLocking wsX1_isLocking) := goodIn_app (goodIn_of _ (by decide +kernel)) ggX1_countBreaksFrom_X1_isLocking
set_option maxRecDepth 20000 in
theorem ggX1_countBreaksFrom_X1_voterOf : GoodIn wsX1_countBreaksFrom wsX1_voterOf := goodIn_r _ [33] (by decide +kernel) (by decide +kernel)
set_option maxRecDepth 20000 in
theorem gX1_countBreaksFrom_X1_voterOf : GoodIn wsX1_countBreaksFrom (va_wsS RX1 222 yX1_voterOf wsX1_voterOf) := goodIn_app (goodIn_of _ (by decide +kernel)) ggX1_countBreaksFrom_X1_voterOf
set_option maxRecDepth 20000 in
theorem ggX1_countBreaksFrom_X1_firstPartner : GoodIn wsX1_countBreaksFrom wsX1_firstPartner := goodIn_r _ [36] (by decide +kernel) (by decide +kernel)
set_option maxRecDepth 20000 in
theorem gX1_countBreaksFrom_X1_firstPartner : GoodIn wsX1_countBreaksFrom (va_wsS RX1 244 yX1_firstPartner wsX1_firstPartner) := goodIn_app (goodIn_of _ (by decide +kernel)) ggX1_countBreaksFrom_X1_firstPartner
set_option maxRecDepth 20000 in
theorem ggX1_countBreaksFrom_X1_isPair : GoodIn wsX1_countBreaksFrom wsX1_isPair := goodIn_r _ [40, 41, 42, 6, 43, 44, 45, 46, 47, 8, 9, 10, 11, 12, 13, 14, 15, 16, 31, 32, 33, 20, 21, 22, 17, 18, 19, 48, 49, 50, 51, 23, 24, 25, 26, 27, 28, 29, 30, 52, 53, 54, 55, 56, 57, 58, 59, 60, 61, 62, 63, 64, 65] (by decide +kernel) (by decide +kernel)
set_option maxRecDepth 20000 in
theorem gX1_countBreaksFrom_X1_isPair : GoodIn wsX1_countBreaksFrom (wsV RX1 247 RX1 yX1_isPair wsX1_isPair) := goodIn_app (goodIn_of _ (by decide +kernel)) ggX1_countBreaksFrom_X1_isPair
theorem dX1_countBreaksFrom_0 : decode cX1_countBreaksFrom 0 = .ok (.aload_n 0, 1) := by decide +kernel
theorem dX1_countBreaksFrom_1 : decode cX1_countBreaksFrom 1 = .ok (.getfield 44, 3) := by decide +kernel
theorem dX1_countBreaksFrom_4 : decode cX1_countBreaksFrom 4 = .ok (.iload_n 2, 1) := by decide +kernel
theorem dX1_countBreaksFrom_5 : decode cX1_countBreaksFrom 5 = .ok (.iaload, 1) := by decide +kernel
theorem dX1_countBreaksFrom_6 : decode cX1_countBreaksFrom 6 = .ok (.istore_n 3, 1) := by decide +kernel
theorem dX1_countBreaksFrom_7 : decode cX1_countBreaksFrom 7 = .ok (.iload_n 1, 1) := by decide +kernel
theorem dX1_countBreaksFrom_8 : decode cX1_countBreaksFrom 8 = .ok (.iconst 2, 1) := by decide +kernel
theorem dX1_countBreaksFrom_9 : decode cX1_countBreaksFrom 9 = .ok (.if_icmp .ne 17, 3) := by decide +kernel
theorem dX1_countBreaksFrom_12 : decode cX1_countBreaksFrom 12 = .ok (.aload_n 0, 1) := by decide +kernel
theorem dX1_countBreaksFrom_13 : decode cX1_countBreaksFrom 13 = .ok (.iload_n 3, 1) := by decide +kernel
theorem dX1_countBreaksFrom_14 : decode cX1_countBreaksFrom 14 = .ok (.invokevirtual 238, 3) := by decide +kernel
theorem dX1_countBreaksFrom_17 : decode cX1_countBreaksFrom 17 = .ok (.ifCond .eq 7, 3) := by decide +kernel
theorem dX1_countBreaksFrom_20 : decode cX1_countBreaksFrom 20 = .ok (.iconst 1, 1) := by decide +kernel
theorem dX1_countBreaksFrom_21 : decode cX1_countBreaksFrom 21 = .ok (.goto 4, 3) := by decide +kernel
theorem dX1_countBreaksFrom_24 : decode cX1_countBreaksFrom 24 = .ok (.iconst 0, 1) := by decide +kernel
theorem dX1_countBreaksFrom_25 : decode cX1_countBreaksFrom 25 = .ok (.ireturn, 1) := by decide +kernel
theorem dX1_countBreaksFrom_26 : decode cX1_countBreaksFrom 26 = .ok (.iload_n 1, 1) := by decide +kernel
theorem dX1_countBreaksFrom_27 : decode cX1_countBreaksFrom 27 = .ok (.iconst 1, 1) := by decide +kernel
theorem dX1_countBreaksFrom_28 : decode cX1_countBreaksFrom 28 = .ok (.if_icmp .ne 12, 3) := by decide +kernel
theorem dX1_countBreaksFrom_31 : decode cX1_countBreaksFrom 31 = .ok (.iload_n 3, 1) := by decide +kernel
theorem dX1_countBreaksFrom_32 : decode cX1_countBreaksFrom 32 = .ok (.invokestatic 219, 3) := by decide +kernel
theorem dX1_countBreaksFrom_35 : decode cX1_countBreaksFrom 35 = .ok (.ifCond .ne 5, 3) := by decide +kernel
theorem dX1_countBreaksFrom_38 : decode cX1_countBreaksFrom 38 = .ok (.iconst 0, 1) := by decide +kernel
theorem dX1_countBreaksFrom_39 : decode cX1_countBreaksFrom 39 = .ok (.ireturn, 1) := by decide +kernel
theorem dX1_countBreaksFrom_40 : decode cX1_countBreaksFrom 40 = .ok (.iload_n 3, 1) := by decide +kernel
theorem dX1_countBreaksFrom_41 : decode cX1_countBreaksFrom 41 = .ok (.invokestatic 222, 3) := by decide +kernel
theorem dX1_countBreaksFrom_44 : decode cX1_countBreaksFrom 44 = .ok (.istore 4, 2) := by decide +kernel
theorem dX1_countBreaksFrom_46 : decode cX1_countBreaksFrom 46 = .ok (.iconst 0, 1) := by decide +kernel
theorem dX1_countBreaksFrom_47 : decode cX1_countBreaksFrom 47 = .ok (.istore 5, 2) := by decide +kernel
theorem dX1_countBreaksFrom_49 : decode cX1_countBreaksFrom 49 = .ok (.iload_n 1, 1) := by decide +kernel
theorem dX1_countBreaksFrom_50 : decode cX1_countBreaksFrom 50 = .ok (.iload_n 2, 1) := by decide +kernel
theorem dX1_countBreaksFrom_51 : decode cX1_countBreaksFrom 51 = .ok (.invokestatic 244, 3) := by decide +kernel
theorem dX1_countBreaksFrom_54 : decode cX1_countBreaksFrom 54 = .ok (.istore 6, 2) := by decide +kernel
theorem dX1_countBreaksFrom_56 : decode cX1_countBreaksFrom 56 = .ok (.iload 6, 2) := by decide +kernel
theorem dX1_countBreaksFrom_58 : decode cX1_countBreaksFrom 58 = .ok (.aload_n 0, 1) := by decide +kernel
theorem dX1_countBreaksFrom_59 : decode cX1_countBreaksFrom 59 = .ok (.getfield 48, 3) := by decide +kernel
theorem dX1_countBreaksFrom_62 : decode cX1_countBreaksFrom 62 = .ok (.if_icmp .ge 43, 3) := by decide +kernel
theorem dX1_countBreaksFrom_65 : decode cX1_countBreaksFrom 65 = .ok (.aload_n 0, 1) := by decide +kernel
theorem dX1_countBreaksFrom_66 : decode cX1_countBreaksFrom 66 = .ok (.getfield 44, 3) := by decide +kernel
theorem dX1_countBreaksFrom_69 : decode cX1_countBreaksFrom 69 = .ok (.iload 6, 2) := by decide +kernel
theorem dX1_countBreaksFrom_71 : decode cX1_countBreaksFrom 71 = .ok (.iaload, 1) := by decide +kernel
theorem dX1_countBreaksFrom_72 : decode cX1_countBreaksFrom 72 = .ok (.bipush 8, 2) := by decide +kernel
theorem dX1_countBreaksFrom_74 : decode cX1_countBreaksFrom 74 = .ok (.ishr, 1) := by decide +kernel
theorem dX1_countBreaksFrom_75 : decode cX1_countBreaksFrom 75 = .ok (.iload 4, 2) := by decide +kernel
theorem dX1_countBreaksFrom_77 : decode cX1_countBreaksFrom 77 = .ok (.if_icmp .ne 22, 3) := by decide +kernel
theorem dX1_countBreaksFrom_80 : decode cX1_countBreaksFrom 80 = .ok (.aload_n 0, 1) := by decide +kernel
theorem dX1_countBreaksFrom_81 : decode cX1_countBreaksFrom 81 = .ok (.iload_n 1, 1) := by decide +kernel
theorem dX1_countBreaksFrom_82 : decode cX1_countBreaksFrom 82 = .ok (.iload_n 3, 1) := by decide +kernel
theorem dX1_countBreaksFrom_83 : decode cX1_countBreaksFrom 83 = .ok (.aload_n 0, 1) := by decide +kernel
theorem dX1_countBreaksFrom_84 : decode cX1_countBreaksFrom 84 = .ok (.getfield 44, 3) := by decide +kernel
theorem dX1_countBreaksFrom_87 : decode cX1_countBreaksFrom 87 = .ok (.iload 6, 2) := by decide +kernel
theorem dX1_countBreaksFrom_89 : decode cX1_countBreaksFrom 89 = .ok (.iaload, 1) := by decide +kernel
theorem dX1_countBreaksFrom_90 : decode cX1_countBreaksFrom 90 = .ok (.invokevirtual 247, 3) := by decide +kernel
theorem dX1_countBreaksFrom_93 : decode cX1_countBreaksFrom 93 = .ok (.ifCond .eq 6, 3) := by decide +kernel
theorem dX1_countBreaksFrom_96 : decode cX1_countBreaksFrom 96 = .ok (.iinc 5 1, 3) := by decide +kernel
theorem dX1_countBreaksFrom_99 : decode cX1_countBreaksFrom 99 = .ok (.iinc 6 1, 3) := by decide +kernel
theorem dX1_countBreaksFrom_102 : decode cX1_countBreaksFrom 102 = .ok (.goto (-46), 3) := by decide +kernel
theorem dX1_countBreaksFrom_105 : decode cX1_countBreaksFrom 105 = .ok (.iload 5, 2) := by decide +kernel
theorem dX1_countBreaksFrom_107 : decode cX1_countBreaksFrom 107 = .ok (.ireturn, 1) := by decide +kernel
set_option maxRecDepth 20000 in
theorem ggX1_partner_X1_firstPartner : GoodIn wsX1_partner wsX1_firstPartner := goodIn_r _ [6] (by decide +kernel) (by decide +kernel)
set_option maxRecDepth 20000 in
theorem gX1_partner_X1_firstPartner : GoodIn wsX1_partner (va_wsS RX1 244 yX1_firstPartner wsX1_firstPartner) := goodIn_app (goodIn_of _ (by decide +kernel)) ggX1_partner_X1_firstPartner
set_option maxRecDepth 20000 in
theorem ggX1_partner_X1_isPair : GoodIn wsX1_partner wsX1_isPair := goodIn_r _ [10, 11, 12, 5, 13, 14, 15, 16, 17, 18, 19, 20, 21, 22, 23, 24, 25, 26, 27, 28, 29, 30, 31, 32, 33, 34, 35, 36, 37, 38, 39, 40, 41, 42, 43, 44, 45, 46, 47, 48, 49, 50, 51, 52, 53, 54, 55, 56, 57, 58, 59, 60, 61] (by decide +kernel) (by decide +kernel)
set_option maxRecDepth 20000 in
theorem gX1_partner_X1_isPair : GoodIn wsX1_partner (wsV RX1 247 RX1 yX1_isPair wsX1_isPair) := goodIn_app (goodIn_of _ (by decide +kernel)) ggX1_partner_X1_isPair
theorem dX1_partner_0 : decode cX1_partner 0 = .ok (.iload_n 1, 1) := by decide +kernel
theorem dX1_partner_1 : decode cX1_partner 1 = .ok (.iconst 2, 1) := by decide +kernel
theorem dX1_partner_2 : decode cX1_partner 2 = .ok (.if_icmp .ne 5, 3) := by decide +kernel
theorem dX1_partner_5 : decode cX1_partner 5 = .ok (.iconst (-1), 1) := by decide +kernel
theorem dX1_partner_6 : decode cX1_partner 6 = .ok (.ireturn, 1) := by decide +kernel
theorem dX1_partner_7 : decode cX1_partner 7 = .ok (.iload_n 3, 1) := by decide +kernel
theorem dX1_partner_8 : decode cX1_partner 8 = .ok (.istore 4, 2) := by decide +kernel
theorem dX1_partner_10 : decode cX1_partner 10 = .ok (.iload_n 1, 1) := by decide +kernel
theorem dX1_partner_11 : decode cX1_partner 11 = .ok (.iload_n 2, 1) := by decide +kernel
theorem dX1_partner_12 : decode cX1_partner 12 = .ok (.invokestatic 244, 3) := by decide +kernel
theorem dX1_partner_15 : decode cX1_partner 15 = .ok (.istore 5, 2) := by decide +kernel
theorem dX1_partner_17 : decode cX1_partner 17 = .ok (.iload 5, 2) := by decide +kernel
theorem dX1_partner_19 : decode cX1_partner 19 = .ok (.aload_n 0, 1) := by decide +kernel
theorem dX1_partner_20 : decode cX1_partner 20 = .ok (.getfield 48, 3) := by decide +kernel
theorem dX1_partner_23 : decode cX1_partner 23 = .ok (.if_icmp .ge 41, 3) := by decide +kernel
theorem dX1_partner_26 : decode cX1_partner 26 = .ok (.aload_n 0, 1) := by decide +kernel
theorem dX1_partner_27 : decode cX1_partner 27 = .ok (.iload_n 1, 1) := by decide +kernel
theorem dX1_partner_28 : decode cX1_partner 28 = .ok (.aload_n 0, 1) := by decide +kernel
theorem dX1_partner_29 : decode cX1_partner 29 = .ok (.getfield 44, 3) := by decide +kernel
theorem dX1_partner_32 : decode cX1_partner 32 = .ok (.iload_n 2, 1) := by decide +kernel
theorem dX1_partner_33 : decode cX1_partner 33 = .ok (.iaload, 1) := by decide +kernel
theorem dX1_partner_34 : decode cX1_partner 34 = .ok (.aload_n 0, 1) := by decide +kernel
theorem dX1_partner_35 : decode cX1_partner 35 = .ok (.getfield 44, 3) := by decide +kernel
theorem dX1_partner_38 : decode cX1_partner 38 = .ok (.iload 5, 2) := by decide +kernel
theorem dX1_partner_40 : decode cX1_partner 40 = .ok (.iaload, 1) := by decide +kernel
theorem dX1_partner_41 : decode cX1_partner 41 = .ok (.invokevirtual 247, 3) := by decide +kernel
theorem dX1_partner_44 : decode cX1_partner 44 = .ok (.ifCond .eq 14, 3) := by decide +kernel
theorem dX1_partner_47 : decode cX1_partner 47 = .ok (.iload 4, 2) := by decide +kernel
theorem dX1_partner_49 : decode cX1_partner 49 = .ok (.ifCond .ne 6, 3) := by decide +kernel
theorem dX1_partner_52 : decode cX1_partner 52 = .ok (.iload 5, 2) := by decide +kernel
theorem dX1_partner_54 : decode cX1_partner 54 = .ok (.ireturn, 1) := by decide +kernel
theorem dX1_partner_55 : decode cX1_partner 55 = .ok (.iinc 4 (-1), 3) := by decide +kernel
theorem dX1_partner_58 : decode cX1_partner 58 = .ok (.iinc 5 1, 3) := by decide +kernel
theorem dX1_partner_61 : decode cX1_partner 61 = .ok (.goto (-44), 3) := by decide +kernel
theorem dX1_partner_64 : decode cX1_partner 64 = .ok (.iconst (-1), 1) := by decide +kernel
theorem dX1_partner_65 : decode cX1_partner 65 = .ok (.ireturn, 1) := by decide +kernel
theorem dX1_firstPartner_0 : decode cX1_firstPartner 0 = .ok (.iload_n 0, 1) := by decide +kernel
theorem dX1_firstPartner_1 : decode cX1_firstPartner 1 = .ok (.ifCond .ne 9, 3) := by decide +kernel
theorem dX1_firstPartner_4 : decode cX1_firstPartner 4 = .ok (.iload_n 1, 1) := by decide +kernel
theorem dX1_firstPartner_5 : decode cX1_firstPartner 5 = .ok (.iconst 1, 1) := by decide +kernel
theorem dX1_firstPartner_6 : decode cX1_firstPartner 6 = .ok (.iadd, 1) := by decide +kernel
theorem dX1_firstPartner_7 : decode cX1_firstPartner 7 = .ok (.goto 4, 3) := by decide +kernel
theorem dX1_firstPartner_10 : decode cX1_firstPartner 10 = .ok (.iconst 0, 1) := by decide +kernel
theorem dX1_firstPartner_11 : decode cX1_firstPartner 11 = .ok (.ireturn, 1) := by decide +kernel
set_option maxRecDepth 20000 in
theorem ggX1_accuseRefusal_X1_isVote : GoodIn wsX1_accuseRefusal wsX1_isVote := goodIn_r _ [8, 9, 104, 105, 106, 107, 108, 109, 110, 111, 112, 113, 114, 115, 116, 117] (by decide +kernel) (by decide +kernel)
set_option maxRecDepth 20000 in
theorem gX1_accuseRefusal_X1_isVote : GoodIn wsX1_accuseRefusal (wsV RX1 129 RX1 yX1_isVote wsX1_isVote) := goodIn_app (goodIn_of _ (by decide +kernel)) ggX1_accuseRefusal_X1_isVote
set_option maxRecDepth 20000 in
theorem ggX1_accuseRefusal_X1_isNodeOrNone : GoodIn wsX1_accuseRefusal wsX1_isNodeOrNone := goodIn_r _ [13, 14, 15, 16, 7, 17, 18, 104, 105, 106, 107, 108, 109, 110, 111, 112, 113, 114, 115, 116, 117] (by decide +kernel) (by decide +kernel)
set_option maxRecDepth 20000 in
theorem gX1_accuseRefusal_X1_isNodeOrNone : GoodIn wsX1_accuseRefusal (wsV RX1 147 RX1 yX1_isNodeOrNone wsX1_isNodeOrNone) := goodIn_app (goodIn_of _ (by decide +kernel)) ggX1_accuseRefusal_X1_isNodeOrNone
set_option maxRecDepth 20000 in
theorem ggX1_accuseRefusal_X1_isKind : GoodIn wsX1_accuseRefusal wsX1_isKind := goodIn_r _ [21] (by decide +kernel) (by decide +kernel)
set_option maxRecDepth 20000 in
theorem gX1_accuseRefusal_X1_isKind : GoodIn wsX1_accuseRefusal (va_wsS RX1 168 yX1_isKind wsX1_isKind) := goodIn_app (goodIn_of _ (by decide +kernel)) ggX1_accuseRefusal_X1_isKind
set_option maxRecDepth 20000 in
theorem ggX1_accuseRefusal_X1_isBare : GoodIn wsX1_accuseRefusal wsX1_isBare := goodIn_r _ [25, 26, 27, 7, 28, 29, 30, 31, 32, 33, 34, 35, 36, 37, 38, 39, 40, 41, 42, 43, 44, 45, 46, 47, 48, 104, 105, 106, 107, 108, 109, 110, 111, 112, 113, 114, 115, 116, 117] (by decide +kernel) (by decide +kernel)
set_option maxRecDepth 20000 in
theorem gX1_accuseRefusal_X1_isBare : GoodIn wsX1_accuseRefusal (wsV RX1 238 RX1 yX1_isBare wsX1_isBare) := goodIn_app (goodIn_of _ (by decide +kernel)) ggX1_accuseRefusal_X1_isBare
set_option maxRecDepth 20000 in
theorem ggX1_accuseRefusal_X1_isPair : GoodIn wsX1_accuseRefusal wsX1_isPair := goodIn_r _ [52, 53, 54, 7, 55, 56, 57, 58, 59, 26, 27, 28, 29, 30, 31, 32, 33, 34, 60, 61, 62, 38, 39, 40, 35, 36, 37, 63, 64, 65, 66, 41, 42, 43, 44, 45, 46, 47, 48, 104, 105, 106, 107, 108, 109, 110, 111, 112, 113, 114, 115, 116, 117] (by decide +kernel) (by decide +kernel)
set_option maxRecDepth 20000 in
theorem gX1_accuseRefusal_X1_isPair : GoodIn wsX1_accuseRefusal (wsV RX1 247 RX1 yX1_isPair wsX1_isPair) := goodIn_app (goodIn_of _ (by decide +kernel)) ggX1_accuseRefusal_X1_isPair
set_option maxRecDepth 20000 in
theorem ggX1_accuseRefusal_X1_heightOf : GoodIn wsX1_accuseRefusal wsX1_heightOf := goodIn_r _ [37] (by decide +kernel) (by decide +kernel)
set_option maxRecDepth 20000 in
theorem gX1_accuseRefusal_X1_heightOf : GoodIn wsX1_accuseRefusal (va_wsS RX1 135 yX1_heightOf wsX1_heightOf) := goodIn_app (goodIn_of _ (by decide +kernel)) ggX1_accuseRefusal_X1_heightOf
set_option maxRecDepth 20000 in
theorem ggX1_accuseRefusal_X1_isOpen : GoodIn wsX1_accuseRefusal wsX1_isOpen := goodIn_r _ [70, 2, 71, 72, 73, 7, 74, 104, 105, 106, 107, 108, 109, 110, 111, 112, 113, 114, 115, 116, 117] (by decide +kernel) (by decide +kernel)
set_option maxRecDepth 20000 in
theorem gX1_accuseRefusal_X1_isOpen : GoodIn wsX1_accuseRefusal (wsV RX1 209 RX1 yX1_isOpen wsX1_isOpen) := goodIn_app (goodIn_of _ (by decide +kernel)) ggX1_accuseRefusal_X1_isOpen
set_option maxRecDepth 20000 in
theorem ggX1_accuseRefusal_X1_voterOf : GoodIn wsX1_accuseRefusal wsX1_voterOf := goodIn_r _ [62] (by decide +kernel) (by decide +kernel)
set_option maxRecDepth 20000 in
theorem gX1_accuseRefusal_X1_voterOf : GoodIn wsX1_accuseRefusal (va_wsS RX1 222 yX1_voterOf wsX1_voterOf) := goodIn_app (goodIn_of _ (by decide +kernel)) ggX1_accuseRefusal_X1_voterOf
set_option maxRecDepth 20000 in
theorem ggX1_accuseRefusal_X1_wasTaken : GoodIn wsX1_accuseRefusal wsX1_wasTaken := goodIn_r _ [78, 79, 80, 1, 81, 82, 83, 84, 85, 86, 87, 88, 89, 90, 91, 92, 93, 94, 95, 96, 97, 98, 99, 100, 101, 102, 103, 60, 61, 7, 62, 104, 105, 106, 107, 108, 109, 110, 111, 112, 113, 114, 115, 116, 117, 118, 119, 120, 121, 122, 123, 124, 125, 126, 127] (by decide +kernel) (by decide +kernel)
set_option maxRecDepth 20000 in
theorem gX1_accuseRefusal_X1_wasTaken : GoodIn wsX1_accuseRefusal (wsV RX1 250 RX1 yX1_wasTaken wsX1_wasTaken) := goodIn_app (goodIn_of _ (by decide +kernel)) ggX1_accuseRefusal_X1_wasTaken
theorem dX1_accuseRefusal_0 : decode cX1_accuseRefusal 0 = .ok (.aload_n 0, 1) := by decide +kernel
theorem dX1_accuseRefusal_1 : decode cX1_accuseRefusal 1 = .ok (.iload_n 2, 1) := by decide +kernel
theorem dX1_accuseRefusal_2 : decode cX1_accuseRefusal 2 = .ok (.invokevirtual 129, 3) := by decide +kernel
theorem dX1_accuseRefusal_5 : decode cX1_accuseRefusal 5 = .ok (.ifCond .eq 25, 3) := by decide +kernel
theorem dX1_accuseRefusal_8 : decode cX1_accuseRefusal 8 = .ok (.iload_n 1, 1) := by decide +kernel
theorem dX1_accuseRefusal_9 : decode cX1_accuseRefusal 9 = .ok (.iconst 2, 1) := by decide +kernel
theorem dX1_accuseRefusal_10 : decode cX1_accuseRefusal 10 = .ok (.if_icmp .eq 11, 3) := by decide +kernel
theorem dX1_accuseRefusal_13 : decode cX1_accuseRefusal 13 = .ok (.aload_n 0, 1) := by decide +kernel
theorem dX1_accuseRefusal_14 : decode cX1_accuseRefusal 14 = .ok (.iload_n 3, 1) := by decide +kernel
theorem dX1_accuseRefusal_15 : decode cX1_accuseRefusal 15 = .ok (.invokevirtual 129, 3) := by decide +kernel
theorem dX1_accuseRefusal_18 : decode cX1_accuseRefusal 18 = .ok (.ifCond .eq 12, 3) := by decide +kernel
theorem dX1_accuseRefusal_21 : decode cX1_accuseRefusal 21 = .ok (.aload_n 0, 1) := by decide +kernel
theorem dX1_accuseRefusal_22 : decode cX1_accuseRefusal 22 = .ok (.iload 4, 2) := by decide +kernel
theorem dX1_accuseRefusal_24 : decode cX1_accuseRefusal 24 = .ok (.invokevirtual 147, 3) := by decide +kernel
theorem dX1_accuseRefusal_27 : decode cX1_accuseRefusal 27 = .ok (.ifCond .ne 6, 3) := by decide +kernel
theorem dX1_accuseRefusal_30 : decode cX1_accuseRefusal 30 = .ok (.bipush (-101), 2) := by decide +kernel
theorem dX1_accuseRefusal_32 : decode cX1_accuseRefusal 32 = .ok (.ireturn, 1) := by decide +kernel
theorem dX1_accuseRefusal_33 : decode cX1_accuseRefusal 33 = .ok (.iload_n 1, 1) := by decide +kernel
theorem dX1_accuseRefusal_34 : decode cX1_accuseRefusal 34 = .ok (.invokestatic 168, 3) := by decide +kernel
theorem dX1_accuseRefusal_37 : decode cX1_accuseRefusal 37 = .ok (.ifCond .ne 6, 3) := by decide +kernel
theorem dX1_accuseRefusal_40 : decode cX1_accuseRefusal 40 = .ok (.bipush (-102), 2) := by decide +kernel
theorem dX1_accuseRefusal_42 : decode cX1_accuseRefusal 42 = .ok (.ireturn, 1) := by decide +kernel
theorem dX1_accuseRefusal_43 : decode cX1_accuseRefusal 43 = .ok (.aload_n 0, 1) := by decide +kernel
theorem dX1_accuseRefusal_44 : decode cX1_accuseRefusal 44 = .ok (.getfield 44, 3) := by decide +kernel
theorem dX1_accuseRefusal_47 : decode cX1_accuseRefusal 47 = .ok (.iload_n 2, 1) := by decide +kernel
theorem dX1_accuseRefusal_48 : decode cX1_accuseRefusal 48 = .ok (.iaload, 1) := by decide +kernel
theorem dX1_accuseRefusal_49 : decode cX1_accuseRefusal 49 = .ok (.istore 5, 2) := by decide +kernel
theorem dX1_accuseRefusal_51 : decode cX1_accuseRefusal 51 = .ok (.iload_n 1, 1) := by decide +kernel
theorem dX1_accuseRefusal_52 : decode cX1_accuseRefusal 52 = .ok (.iconst 2, 1) := by decide +kernel
theorem dX1_accuseRefusal_53 : decode cX1_accuseRefusal 53 = .ok (.if_icmp .ne 15, 3) := by decide +kernel
theorem dX1_accuseRefusal_56 : decode cX1_accuseRefusal 56 = .ok (.aload_n 0, 1) := by decide +kernel
theorem dX1_accuseRefusal_57 : decode cX1_accuseRefusal 57 = .ok (.iload 5, 2) := by decide +kernel
theorem dX1_accuseRefusal_59 : decode cX1_accuseRefusal 59 = .ok (.invokevirtual 238, 3) := by decide +kernel
theorem dX1_accuseRefusal_62 : decode cX1_accuseRefusal 62 = .ok (.ifCond .eq 22, 3) := by decide +kernel
theorem dX1_accuseRefusal_65 : decode cX1_accuseRefusal 65 = .ok (.goto 22, 3) := by decide +kernel
theorem dX1_accuseRefusal_68 : decode cX1_accuseRefusal 68 = .ok (.aload_n 0, 1) := by decide +kernel
theorem dX1_accuseRefusal_69 : decode cX1_accuseRefusal 69 = .ok (.iload_n 1, 1) := by decide +kernel
theorem dX1_accuseRefusal_70 : decode cX1_accuseRefusal 70 = .ok (.iload 5, 2) := by decide +kernel
theorem dX1_accuseRefusal_72 : decode cX1_accuseRefusal 72 = .ok (.aload_n 0, 1) := by decide +kernel
theorem dX1_accuseRefusal_73 : decode cX1_accuseRefusal 73 = .ok (.getfield 44, 3) := by decide +kernel
theorem dX1_accuseRefusal_76 : decode cX1_accuseRefusal 76 = .ok (.iload_n 3, 1) := by decide +kernel
theorem dX1_accuseRefusal_77 : decode cX1_accuseRefusal 77 = .ok (.iaload, 1) := by decide +kernel
theorem dX1_accuseRefusal_78 : decode cX1_accuseRefusal 78 = .ok (.invokevirtual 247, 3) := by decide +kernel
theorem dX1_accuseRefusal_81 : decode cX1_accuseRefusal 81 = .ok (.ifCond .ne 6, 3) := by decide +kernel
theorem dX1_accuseRefusal_84 : decode cX1_accuseRefusal 84 = .ok (.bipush (-105), 2) := by decide +kernel
theorem dX1_accuseRefusal_86 : decode cX1_accuseRefusal 86 = .ok (.ireturn, 1) := by decide +kernel
theorem dX1_accuseRefusal_87 : decode cX1_accuseRefusal 87 = .ok (.iload_n 1, 1) := by decide +kernel
theorem dX1_accuseRefusal_88 : decode cX1_accuseRefusal 88 = .ok (.ifCond .eq 18, 3) := by decide +kernel
theorem dX1_accuseRefusal_91 : decode cX1_accuseRefusal 91 = .ok (.aload_n 0, 1) := by decide +kernel
theorem dX1_accuseRefusal_92 : decode cX1_accuseRefusal 92 = .ok (.iload 5, 2) := by decide +kernel
theorem dX1_accuseRefusal_94 : decode cX1_accuseRefusal 94 = .ok (.invokestatic 135, 3) := by decide +kernel
theorem dX1_accuseRefusal_97 : decode cX1_accuseRefusal 97 = .ok (.invokevirtual 209, 3) := by decide +kernel
theorem dX1_accuseRefusal_100 : decode cX1_accuseRefusal 100 = .ok (.ifCond .eq 6, 3) := by decide +kernel
theorem dX1_accuseRefusal_103 : decode cX1_accuseRefusal 103 = .ok (.bipush (-106), 2) := by decide +kernel
theorem dX1_accuseRefusal_105 : decode cX1_accuseRefusal 105 = .ok (.ireturn, 1) := by decide +kernel
theorem dX1_accuseRefusal_106 : decode cX1_accuseRefusal 106 = .ok (.aload_n 0, 1) := by decide +kernel
theorem dX1_accuseRefusal_107 : decode cX1_accuseRefusal 107 = .ok (.getfield 35, 3) := by decide +kernel
theorem dX1_accuseRefusal_110 : decode cX1_accuseRefusal 110 = .ok (.iload 5, 2) := by decide +kernel
theorem dX1_accuseRefusal_112 : decode cX1_accuseRefusal 112 = .ok (.invokestatic 135, 3) := by decide +kernel
theorem dX1_accuseRefusal_115 : decode cX1_accuseRefusal 115 = .ok (.isub, 1) := by decide +kernel
theorem dX1_accuseRefusal_116 : decode cX1_accuseRefusal 116 = .ok (.i2l, 1) := by decide +kernel
theorem dX1_accuseRefusal_117 : decode cX1_accuseRefusal 117 = .ok (.aload_n 0, 1) := by decide +kernel
theorem dX1_accuseRefusal_118 : decode cX1_accuseRefusal 118 = .ok (.getfield 17, 3) := by decide +kernel
theorem dX1_accuseRefusal_121 : decode cX1_accuseRefusal 121 = .ok (.iconst 3, 1) := by decide +kernel
theorem dX1_accuseRefusal_122 : decode cX1_accuseRefusal 122 = .ok (.laload, 1) := by decide +kernel
theorem dX1_accuseRefusal_123 : decode cX1_accuseRefusal 123 = .ok (.lcmp, 1) := by decide +kernel
theorem dX1_accuseRefusal_124 : decode cX1_accuseRefusal 124 = .ok (.ifCond .le 6, 3) := by decide +kernel
theorem dX1_accuseRefusal_127 : decode cX1_accuseRefusal 127 = .ok (.bipush (-107), 2) := by decide +kernel
theorem dX1_accuseRefusal_129 : decode cX1_accuseRefusal 129 = .ok (.ireturn, 1) := by decide +kernel
theorem dX1_accuseRefusal_130 : decode cX1_accuseRefusal 130 = .ok (.aload_n 0, 1) := by decide +kernel
theorem dX1_accuseRefusal_131 : decode cX1_accuseRefusal 131 = .ok (.iload_n 1, 1) := by decide +kernel
theorem dX1_accuseRefusal_132 : decode cX1_accuseRefusal 132 = .ok (.iload 5, 2) := by decide +kernel
theorem dX1_accuseRefusal_134 : decode cX1_accuseRefusal 134 = .ok (.invokestatic 222, 3) := by decide +kernel
theorem dX1_accuseRefusal_137 : decode cX1_accuseRefusal 137 = .ok (.invokevirtual 250, 3) := by decide +kernel
theorem dX1_accuseRefusal_140 : decode cX1_accuseRefusal 140 = .ok (.ifCond .eq 8, 3) := by decide +kernel
theorem dX1_accuseRefusal_143 : decode cX1_accuseRefusal 143 = .ok (.bipush (-108), 2) := by decide +kernel
theorem dX1_accuseRefusal_145 : decode cX1_accuseRefusal 145 = .ok (.goto 4, 3) := by decide +kernel
theorem dX1_accuseRefusal_148 : decode cX1_accuseRefusal 148 = .ok (.iconst 0, 1) := by decide +kernel
theorem dX1_accuseRefusal_149 : decode cX1_accuseRefusal 149 = .ok (.ireturn, 1) := by decide +kernel
set_option maxRecDepth 20000 in
theorem ggX1_wasTaken_Jx4a65c_size_8abf5 : GoodIn wsX1_wasTaken wsJx4a65c_size_8abf5 := goodIn_r _ [8, 9, 52, 53, 54] (by decide +kernel) (by decide +kernel)
set_option maxRecDepth 20000 in
theorem gX1_wasTaken_Jx4a65c_size_8abf5 : GoodIn wsX1_wasTaken (wsV RX1 122 RJx4a65c yJx4a65c_size_8abf5 wsJx4a65c_size_8abf5) := goodIn_app (goodIn_of _ (by decide +kernel)) ggX1_wasTaken_Jx4a65c_size_8abf5
set_option maxRecDepth 20000 in
theorem ggX1_wasTaken_Jx4a65c_get_915e3 : GoodIn wsX1_wasTaken wsJx4a65c_get_915e3 := goodIn_r _ [13, 9, 14, 15, 16, 17, 18, 19, 20, 21, 22, 23, 24, 7, 25, 26, 52, 53, 54] (by decide +kernel) (by decide +kernel)
set_option maxRecDepth 20000 in
theorem gX1_wasTaken_Jx4a65c_get_915e3 : GoodIn wsX1_wasTaken (wsV RX1 178 RJx4a65c yJx4a65c_get_915e3 wsJx4a65c_get_915e3) := goodIn_app (goodIn_of _ (by decide +kernel)) ggX1_wasTaken_Jx4a65c_get_915e3
set_option maxRecDepth 20000 in
theorem ggX1_wasTaken_X1_voterOf : GoodIn wsX1_wasTaken wsX1_voterOf := goodIn_r _ [30] (by decide +kernel) (by decide +kernel)
set_option maxRecDepth 20000 in
theorem gX1_wasTaken_X1_voterOf : GoodIn wsX1_wasTaken (va_wsS RX1 222 yX1_voterOf wsX1_voterOf) := goodIn_app (goodIn_of _ (by decide +kernel)) ggX1_wasTaken_X1_voterOf
theorem dX1_wasTaken_0 : decode cX1_wasTaken 0 = .ok (.iconst 0, 1) := by decide +kernel
theorem dX1_wasTaken_1 : decode cX1_wasTaken 1 = .ok (.istore_n 3, 1) := by decide +kernel
theorem dX1_wasTaken_2 : decode cX1_wasTaken 2 = .ok (.iload_n 3, 1) := by decide +kernel
theorem dX1_wasTaken_3 : decode cX1_wasTaken 3 = .ok (.aload_n 0, 1) := by decide +kernel
theorem dX1_wasTaken_4 : decode cX1_wasTaken 4 = .ok (.getfield 60, 3) := by decide +kernel
theorem dX1_wasTaken_7 : decode cX1_wasTaken 7 = .ok (.invokevirtual 122, 3) := by decide +kernel
theorem dX1_wasTaken_10 : decode cX1_wasTaken 10 = .ok (.if_icmp .ge 50, 3) := by decide +kernel
theorem dX1_wasTaken_13 : decode cX1_wasTaken 13 = .ok (.aload_n 0, 1) := by decide +kernel
theorem dX1_wasTaken_14 : decode cX1_wasTaken 14 = .ok (.getfield 60, 3) := by decide +kernel
theorem dX1_wasTaken_17 : decode cX1_wasTaken 17 = .ok (.iload_n 3, 1) := by decide +kernel
theorem dX1_wasTaken_18 : decode cX1_wasTaken 18 = .ok (.invokevirtual 178, 3) := by decide +kernel
theorem dX1_wasTaken_21 : decode cX1_wasTaken 21 = .ok (.checkcast 182, 3) := by decide +kernel
theorem dX1_wasTaken_24 : decode cX1_wasTaken 24 = .ok (.astore 4, 2) := by decide +kernel
theorem dX1_wasTaken_26 : decode cX1_wasTaken 26 = .ok (.aload 4, 2) := by decide +kernel
end
section
theorem dX1_wasTaken_28 : decode cX1_wasTaken 28 = .ok (.getfield 184, 3) := by decide +kernel
theorem dX1_wasTaken_31 : decode cX1_wasTaken 31 = .ok (.iload_n 1, 1) := by decide +kernel
theorem dX1_wasTaken_32 : decode cX1_wasTaken 32 = .ok (.if_icmp .ne 22, 3) := by decide +kernel
theorem dX1_wasTaken_35 : decode cX1_wasTaken 35 = .ok (.aload_n 0, 1) := by decide +kernel
theorem dX1_wasTaken_36 : decode cX1_wasTaken 36 = .ok (.getfield 44, 3) := by decide +kernel
theorem dX1_wasTaken_39 : decode cX1_wasTaken 39 = .ok (.aload 4, 2) := by decide +kernel
theorem dX1_wasTaken_41 : decode cX1_wasTaken 41 = .ok (.getfield 187, 3) := by decide +kernel
theorem dX1_wasTaken_44 : decode cX1_wasTaken 44 = .ok (.iaload, 1) := by decide +kernel
theorem dX1_wasTaken_45 : decode cX1_wasTaken 45 = .ok (.invokestatic 222, 3) := by decide +kernel
theorem dX1_wasTaken_48 : decode cX1_wasTaken 48 = .ok (.iload_n 2, 1) := by decide +kernel
theorem dX1_wasTaken_49 : decode cX1_wasTaken 49 = .ok (.if_icmp .ne 5, 3) := by decide +kernel
theorem dX1_wasTaken_52 : decode cX1_wasTaken 52 = .ok (.iconst 1, 1) := by decide +kernel
theorem dX1_wasTaken_53 : decode cX1_wasTaken 53 = .ok (.ireturn, 1) := by decide +kernel
theorem dX1_wasTaken_54 : decode cX1_wasTaken 54 = .ok (.iinc 3 1, 3) := by decide +kernel
theorem dX1_wasTaken_57 : decode cX1_wasTaken 57 = .ok (.goto (-55), 3) := by decide +kernel
theorem dX1_wasTaken_60 : decode cX1_wasTaken 60 = .ok (.iconst 0, 1) := by decide +kernel
theorem dX1_wasTaken_61 : decode cX1_wasTaken 61 = .ok (.ireturn, 1) := by decide +kernel
set_option maxRecDepth 20000 in
theorem ggX1_countTakenOf_Jx4a65c_size_8abf5 : GoodIn wsX1_countTakenOf wsJx4a65c_size_8abf5 := goodIn_r _ [8, 9, 52, 53, 54] (by decide +kernel) (by decide +kernel)
set_option maxRecDepth 20000 in
theorem gX1_countTakenOf_Jx4a65c_size_8abf5 : GoodIn wsX1_countTakenOf (wsV RX1 122 RJx4a65c yJx4a65c_size_8abf5 wsJx4a65c_size_8abf5) := goodIn_app (goodIn_of _ (by decide +kernel)) ggX1_countTakenOf_Jx4a65c_size_8abf5
set_option maxRecDepth 20000 in
theorem ggX1_countTakenOf_Jx4a65c_get_915e3 : GoodIn wsX1_countTakenOf wsJx4a65c_get_915e3 := goodIn_r _ [13, 9, 14, 15, 16, 17, 18, 19, 20, 21, 22, 23, 24, 7, 25, 26, 52, 53, 54] (by decide +kernel) (by decide +kernel)
set_option maxRecDepth 20000 in
theorem gX1_countTakenOf_Jx4a65c_get_915e3 : GoodIn wsX1_countTakenOf (wsV RX1 178 RJx4a65c yJx4a65c_get_915e3 wsJx4a65c_get_915e3) := goodIn_app (goodIn_of _ (by decide +kernel)) ggX1_countTakenOf_Jx4a65c_get_915e3
set_option maxRecDepth 20000 in
theorem ggX1_countTakenOf_X1_nodeOf : GoodIn wsX1_countTakenOf wsX1_nodeOf := goodIn_r _ [30] (by decide +kernel) (by decide +kernel)
set_option maxRecDepth 20000 in
theorem gX1_countTakenOf_X1_nodeOf : GoodIn wsX1_countTakenOf (va_wsS RX1 132 yX1_nodeOf wsX1_nodeOf) := goodIn_app (goodIn_of _ (by decide +kernel)) ggX1_countTakenOf_X1_nodeOf
theorem dX1_countTakenOf_0 : decode cX1_countTakenOf 0 = .ok (.iconst 0, 1) := by decide +kernel
theorem dX1_countTakenOf_1 : decode cX1_countTakenOf 1 = .ok (.istore_n 2, 1) := by decide +kernel
theorem dX1_countTakenOf_2 : decode cX1_countTakenOf 2 = .ok (.iconst 0, 1) := by decide +kernel
theorem dX1_countTakenOf_3 : decode cX1_countTakenOf 3 = .ok (.istore_n 3, 1) := by decide +kernel
theorem dX1_countTakenOf_4 : decode cX1_countTakenOf 4 = .ok (.iload_n 3, 1) := by decide +kernel
theorem dX1_countTakenOf_5 : decode cX1_countTakenOf 5 = .ok (.aload_n 0, 1) := by decide +kernel
theorem dX1_countTakenOf_6 : decode cX1_countTakenOf 6 = .ok (.getfield 60, 3) := by decide +kernel
theorem dX1_countTakenOf_9 : decode cX1_countTakenOf 9 = .ok (.invokevirtual 122, 3) := by decide +kernel
theorem dX1_countTakenOf_12 : decode cX1_countTakenOf 12 = .ok (.if_icmp .ge 38, 3) := by decide +kernel
theorem dX1_countTakenOf_15 : decode cX1_countTakenOf 15 = .ok (.aload_n 0, 1) := by decide +kernel
theorem dX1_countTakenOf_16 : decode cX1_countTakenOf 16 = .ok (.getfield 44, 3) := by decide +kernel
theorem dX1_countTakenOf_19 : decode cX1_countTakenOf 19 = .ok (.aload_n 0, 1) := by decide +kernel
theorem dX1_countTakenOf_20 : decode cX1_countTakenOf 20 = .ok (.getfield 60, 3) := by decide +kernel
theorem dX1_countTakenOf_23 : decode cX1_countTakenOf 23 = .ok (.iload_n 3, 1) := by decide +kernel
theorem dX1_countTakenOf_24 : decode cX1_countTakenOf 24 = .ok (.invokevirtual 178, 3) := by decide +kernel
theorem dX1_countTakenOf_27 : decode cX1_countTakenOf 27 = .ok (.checkcast 182, 3) := by decide +kernel
theorem dX1_countTakenOf_30 : decode cX1_countTakenOf 30 = .ok (.getfield 187, 3) := by decide +kernel
theorem dX1_countTakenOf_33 : decode cX1_countTakenOf 33 = .ok (.iaload, 1) := by decide +kernel
theorem dX1_countTakenOf_34 : decode cX1_countTakenOf 34 = .ok (.invokestatic 132, 3) := by decide +kernel
theorem dX1_countTakenOf_37 : decode cX1_countTakenOf 37 = .ok (.iload_n 1, 1) := by decide +kernel
theorem dX1_countTakenOf_38 : decode cX1_countTakenOf 38 = .ok (.if_icmp .ne 6, 3) := by decide +kernel
theorem dX1_countTakenOf_41 : decode cX1_countTakenOf 41 = .ok (.iinc 2 1, 3) := by decide +kernel
theorem dX1_countTakenOf_44 : decode cX1_countTakenOf 44 = .ok (.iinc 3 1, 3) := by decide +kernel
theorem dX1_countTakenOf_47 : decode cX1_countTakenOf 47 = .ok (.goto (-43), 3) := by decide +kernel
theorem dX1_countTakenOf_50 : decode cX1_countTakenOf 50 = .ok (.iload_n 2, 1) := by decide +kernel
theorem dX1_countTakenOf_51 : decode cX1_countTakenOf 51 = .ok (.ireturn, 1) := by decide +kernel
set_option maxRecDepth 20000 in
theorem ggX1_take_X1_nodeOf : GoodIn wsX1_take wsX1_nodeOf := goodIn_r _ [17] (by decide +kernel) (by decide +kernel)
set_option maxRecDepth 20000 in
theorem gX1_take_X1_nodeOf : GoodIn wsX1_take (va_wsS RX1 132 yX1_nodeOf wsX1_nodeOf) := goodIn_app (goodIn_of _ (by decide +kernel)) ggX1_take_X1_nodeOf
set_option maxRecDepth 20000 in
theorem ggX1_take_X0_init : GoodIn wsX1_take wsX0_init := goodIn_r _ [19, 20, 21, 22, 23, 24, 25, 26, 27, 28, 29, 100, 101, 102, 103, 104, 105, 106] (by decide +kernel) (by decide +kernel)
set_option maxRecDepth 20000 in
theorem gX1_take_X0_init_n255 : GoodIn wsX1_take (wsX0_init) := ggX1_take_X0_init
set_option maxRecDepth 20000 in
theorem ggX1_take_Jx4a65c_add_9ea2d : GoodIn wsX1_take wsJx4a65c_add_9ea2d := goodIn_r _ [34, 35, 36, 37, 38, 39, 40, 41, 33, 42, 43, 44, 45, 46, 47, 48, 49, 50, 51, 52, 53, 54, 55, 56, 57, 58, 59, 60, 61, 62, 63, 64, 65, 66, 67, 68, 69, 70, 71, 72, 73, 74, 75, 76, 77, 78, 79, 80, 81, 82, 83, 84, 85, 107, 108, 109] (by decide +kernel) (by decide +kernel)
set_option maxRecDepth 20000 in
theorem gX1_take_Jx4a65c_add_9ea2d : GoodIn wsX1_take (wsV RX1 258 RJx4a65c yJx4a65c_add_9ea2d wsJx4a65c_add_9ea2d) := goodIn_app (goodIn_of _ (by decide +kernel)) ggX1_take_Jx4a65c_add_9ea2d
theorem dX1_take_0 : decode cX1_take 0 = .ok (.aload_n 0, 1) := by decide +kernel
theorem dX1_take_1 : decode cX1_take 1 = .ok (.getfield 44, 3) := by decide +kernel
theorem dX1_take_4 : decode cX1_take 4 = .ok (.iload_n 2, 1) := by decide +kernel
theorem dX1_take_5 : decode cX1_take 5 = .ok (.iaload, 1) := by decide +kernel
theorem dX1_take_6 : decode cX1_take 6 = .ok (.invokestatic 132, 3) := by decide +kernel
theorem dX1_take_9 : decode cX1_take 9 = .ok (.istore 5, 2) := by decide +kernel
theorem dX1_take_11 : decode cX1_take 11 = .ok (.aload_n 0, 1) := by decide +kernel
theorem dX1_take_12 : decode cX1_take 12 = .ok (.getfield 21, 3) := by decide +kernel
theorem dX1_take_15 : decode cX1_take 15 = .ok (.iload 5, 2) := by decide +kernel
theorem dX1_take_17 : decode cX1_take 17 = .ok (.laload, 1) := by decide +kernel
theorem dX1_take_18 : decode cX1_take 18 = .ok (.aload_n 0, 1) := by decide +kernel
theorem dX1_take_19 : decode cX1_take 19 = .ok (.getfield 17, 3) := by decide +kernel
theorem dX1_take_22 : decode cX1_take 22 = .ok (.iload_n 1, 1) := by decide +kernel
theorem dX1_take_23 : decode cX1_take 23 = .ok (.laload, 1) := by decide +kernel
theorem dX1_take_24 : decode cX1_take 24 = .ok (.lmul, 1) := by decide +kernel
theorem dX1_take_25 : decode cX1_take 25 = .ok (.ldc2_w 253, 3) := by decide +kernel
theorem dX1_take_28 : decode cX1_take 28 = .ok (.ldiv, 1) := by decide +kernel
theorem dX1_take_29 : decode cX1_take 29 = .ok (.lstore 6, 2) := by decide +kernel
theorem dX1_take_31 : decode cX1_take 31 = .ok (.iload 4, 2) := by decide +kernel
theorem dX1_take_33 : decode cX1_take 33 = .ok (.iconst (-1), 1) := by decide +kernel
theorem dX1_take_34 : decode cX1_take 34 = .ok (.if_icmp .ne 7, 3) := by decide +kernel
theorem dX1_take_37 : decode cX1_take 37 = .ok (.lconst 0, 1) := by decide +kernel
theorem dX1_take_38 : decode cX1_take 38 = .ok (.goto 9, 3) := by decide +kernel
theorem dX1_take_41 : decode cX1_take 41 = .ok (.lload 6, 2) := by decide +kernel
theorem dX1_take_43 : decode cX1_take 43 = .ok (.ldc2_w 15, 3) := by decide +kernel
theorem dX1_take_46 : decode cX1_take 46 = .ok (.ldiv, 1) := by decide +kernel
theorem dX1_take_47 : decode cX1_take 47 = .ok (.lstore 8, 2) := by decide +kernel
theorem dX1_take_49 : decode cX1_take 49 = .ok (.aload_n 0, 1) := by decide +kernel
theorem dX1_take_50 : decode cX1_take 50 = .ok (.getfield 21, 3) := by decide +kernel
theorem dX1_take_53 : decode cX1_take 53 = .ok (.iload 5, 2) := by decide +kernel
theorem dX1_take_55 : decode cX1_take 55 = .ok (.dup2, 1) := by decide +kernel
theorem dX1_take_56 : decode cX1_take 56 = .ok (.laload, 1) := by decide +kernel
theorem dX1_take_57 : decode cX1_take 57 = .ok (.lload 6, 2) := by decide +kernel
theorem dX1_take_59 : decode cX1_take 59 = .ok (.lsub, 1) := by decide +kernel
theorem dX1_take_60 : decode cX1_take 60 = .ok (.lastore, 1) := by decide +kernel
theorem dX1_take_61 : decode cX1_take 61 = .ok (.aload_n 0, 1) := by decide +kernel
theorem dX1_take_62 : decode cX1_take 62 = .ok (.dup, 1) := by decide +kernel
theorem dX1_take_63 : decode cX1_take 63 = .ok (.getfield 64, 3) := by decide +kernel
theorem dX1_take_66 : decode cX1_take 66 = .ok (.lload 6, 2) := by decide +kernel
theorem dX1_take_68 : decode cX1_take 68 = .ok (.lload 8, 2) := by decide +kernel
theorem dX1_take_70 : decode cX1_take 70 = .ok (.lsub, 1) := by decide +kernel
theorem dX1_take_71 : decode cX1_take 71 = .ok (.ladd, 1) := by decide +kernel
theorem dX1_take_72 : decode cX1_take 72 = .ok (.putfield 64, 3) := by decide +kernel
theorem dX1_take_75 : decode cX1_take 75 = .ok (.iload 4, 2) := by decide +kernel
theorem dX1_take_77 : decode cX1_take 77 = .ok (.iconst (-1), 1) := by decide +kernel
theorem dX1_take_78 : decode cX1_take 78 = .ok (.if_icmp .eq 15, 3) := by decide +kernel
theorem dX1_take_81 : decode cX1_take 81 = .ok (.aload_n 0, 1) := by decide +kernel
theorem dX1_take_82 : decode cX1_take 82 = .ok (.getfield 24, 3) := by decide +kernel
theorem dX1_take_85 : decode cX1_take 85 = .ok (.iload 4, 2) := by decide +kernel
theorem dX1_take_87 : decode cX1_take 87 = .ok (.dup2, 1) := by decide +kernel
theorem dX1_take_88 : decode cX1_take 88 = .ok (.laload, 1) := by decide +kernel
theorem dX1_take_89 : decode cX1_take 89 = .ok (.lload 8, 2) := by decide +kernel
theorem dX1_take_91 : decode cX1_take 91 = .ok (.ladd, 1) := by decide +kernel
theorem dX1_take_92 : decode cX1_take 92 = .ok (.lastore, 1) := by decide +kernel
theorem dX1_take_93 : decode cX1_take 93 = .ok (.aload_n 0, 1) := by decide +kernel
theorem dX1_take_94 : decode cX1_take 94 = .ok (.getfield 21, 3) := by decide +kernel
theorem dX1_take_97 : decode cX1_take 97 = .ok (.iload 5, 2) := by decide +kernel
theorem dX1_take_99 : decode cX1_take 99 = .ok (.laload, 1) := by decide +kernel
theorem dX1_take_100 : decode cX1_take 100 = .ok (.aload_n 0, 1) := by decide +kernel
theorem dX1_take_101 : decode cX1_take 101 = .ok (.getfield 17, 3) := by decide +kernel
theorem dX1_take_104 : decode cX1_take 104 = .ok (.iconst 4, 1) := by decide +kernel
theorem dX1_take_105 : decode cX1_take 105 = .ok (.laload, 1) := by decide +kernel
theorem dX1_take_106 : decode cX1_take 106 = .ok (.lcmp, 1) := by decide +kernel
theorem dX1_take_107 : decode cX1_take 107 = .ok (.ifCond .ge 11, 3) := by decide +kernel
theorem dX1_take_110 : decode cX1_take 110 = .ok (.aload_n 0, 1) := by decide +kernel
theorem dX1_take_111 : decode cX1_take 111 = .ok (.getfield 27, 3) := by decide +kernel
theorem dX1_take_114 : decode cX1_take 114 = .ok (.iload 5, 2) := by decide +kernel
theorem dX1_take_116 : decode cX1_take 116 = .ok (.iconst 1, 1) := by decide +kernel
theorem dX1_take_117 : decode cX1_take 117 = .ok (.bastore, 1) := by decide +kernel
theorem dX1_take_118 : decode cX1_take 118 = .ok (.aload_n 0, 1) := by decide +kernel
theorem dX1_take_119 : decode cX1_take 119 = .ok (.getfield 60, 3) := by decide +kernel
theorem dX1_take_122 : decode cX1_take 122 = .ok (.new 182, 3) := by decide +kernel
theorem dX1_take_125 : decode cX1_take 125 = .ok (.dup, 1) := by decide +kernel
theorem dX1_take_126 : decode cX1_take 126 = .ok (.iload_n 1, 1) := by decide +kernel
theorem dX1_take_127 : decode cX1_take 127 = .ok (.iload_n 2, 1) := by decide +kernel
theorem dX1_take_128 : decode cX1_take 128 = .ok (.iload_n 3, 1) := by decide +kernel
theorem dX1_take_129 : decode cX1_take 129 = .ok (.iload 4, 2) := by decide +kernel
theorem dX1_take_131 : decode cX1_take 131 = .ok (.aload_n 0, 1) := by decide +kernel
theorem dX1_take_132 : decode cX1_take 132 = .ok (.getfield 35, 3) := by decide +kernel
theorem dX1_take_135 : decode cX1_take 135 = .ok (.lload 6, 2) := by decide +kernel
theorem dX1_take_137 : decode cX1_take 137 = .ok (.lload 8, 2) := by decide +kernel
theorem dX1_take_139 : decode cX1_take 139 = .ok (.invokespecial 255, 3) := by decide +kernel
theorem dX1_take_142 : decode cX1_take 142 = .ok (.invokevirtual 258, 3) := by decide +kernel
theorem dX1_take_145 : decode cX1_take 145 = .ok (.pop, 1) := by decide +kernel
theorem dX1_take_146 : decode cX1_take 146 = .ok (.lload 6, 2) := by decide +kernel
theorem dX1_take_148 : decode cX1_take 148 = .ok (.lreturn, 1) := by decide +kernel
theorem dX2_init_0 : decode cX2_init 0 = .ok (.aload_n 0, 1) := by decide +kernel
theorem dX2_init_1 : decode cX2_init 1 = .ok (.invokespecial 1, 3) := by decide +kernel
theorem dX2_init_4 : decode cX2_init 4 = .ok (.aload_n 0, 1) := by decide +kernel
theorem dX2_init_5 : decode cX2_init 5 = .ok (.bipush 8, 2) := by decide +kernel
theorem dX2_init_7 : decode cX2_init 7 = .ok (.newarray .long, 2) := by decide +kernel
theorem dX2_init_9 : decode cX2_init 9 = .ok (.putfield 7, 3) := by decide +kernel
theorem dX2_init_12 : decode cX2_init 12 = .ok (.aload_n 0, 1) := by decide +kernel
theorem dX2_init_13 : decode cX2_init 13 = .ok (.bipush 8, 2) := by decide +kernel
theorem dX2_init_15 : decode cX2_init 15 = .ok (.newarray .long, 2) := by decide +kernel
theorem dX2_init_17 : decode cX2_init 17 = .ok (.putfield 13, 3) := by decide +kernel
theorem dX2_init_20 : decode cX2_init 20 = .ok (.aload_n 0, 1) := by decide +kernel
theorem dX2_init_21 : decode cX2_init 21 = .ok (.bipush 8, 2) := by decide +kernel
theorem dX2_init_23 : decode cX2_init 23 = .ok (.newarray .boolean, 2) := by decide +kernel
theorem dX2_init_25 : decode cX2_init 25 = .ok (.putfield 16, 3) := by decide +kernel
theorem dX2_init_28 : decode cX2_init 28 = .ok (.aload_n 0, 1) := by decide +kernel
theorem dX2_init_29 : decode cX2_init 29 = .ok (.sipush 328, 3) := by decide +kernel
theorem dX2_init_32 : decode cX2_init 32 = .ok (.newarray .long, 2) := by decide +kernel
theorem dX2_init_34 : decode cX2_init 34 = .ok (.putfield 20, 3) := by decide +kernel
theorem dX2_init_37 : decode cX2_init 37 = .ok (.aload_n 0, 1) := by decide +kernel
theorem dX2_init_38 : decode cX2_init 38 = .ok (.bipush 41, 2) := by decide +kernel
theorem dX2_init_40 : decode cX2_init 40 = .ok (.newarray .long, 2) := by decide +kernel
theorem dX2_init_42 : decode cX2_init 42 = .ok (.putfield 23, 3) := by decide +kernel
theorem dX2_init_45 : decode cX2_init 45 = .ok (.aload_n 0, 1) := by decide +kernel
theorem dX2_init_46 : decode cX2_init 46 = .ok (.sipush 300, 3) := by decide +kernel
theorem dX2_init_49 : decode cX2_init 49 = .ok (.newarray .int, 2) := by decide +kernel
theorem dX2_init_51 : decode cX2_init 51 = .ok (.putfield 26, 3) := by decide +kernel
theorem dX2_init_54 : decode cX2_init 54 = .ok (.aload_n 0, 1) := by decide +kernel
theorem dX2_init_55 : decode cX2_init 55 = .ok (.sipush 300, 3) := by decide +kernel
theorem dX2_init_58 : decode cX2_init 58 = .ok (.newarray .int, 2) := by decide +kernel
theorem dX2_init_60 : decode cX2_init 60 = .ok (.putfield 30, 3) := by decide +kernel
theorem dX2_init_63 : decode cX2_init 63 = .ok (.aload_n 0, 1) := by decide +kernel
theorem dX2_init_64 : decode cX2_init 64 = .ok (.sipush 300, 3) := by decide +kernel
theorem dX2_init_67 : decode cX2_init 67 = .ok (.newarray .int, 2) := by decide +kernel
theorem dX2_init_69 : decode cX2_init 69 = .ok (.putfield 33, 3) := by decide +kernel
theorem dX2_init_72 : decode cX2_init 72 = .ok (.aload_n 0, 1) := by decide +kernel
theorem dX2_init_73 : decode cX2_init 73 = .ok (.sipush 300, 3) := by decide +kernel
theorem dX2_init_76 : decode cX2_init 76 = .ok (.newarray .int, 2) := by decide +kernel
theorem dX2_init_78 : decode cX2_init 78 = .ok (.putfield 36, 3) := by decide +kernel
theorem dX2_init_81 : decode cX2_init 81 = .ok (.aload_n 0, 1) := by decide +kernel
theorem dX2_init_82 : decode cX2_init 82 = .ok (.sipush 300, 3) := by decide +kernel
theorem dX2_init_85 : decode cX2_init 85 = .ok (.newarray .int, 2) := by decide +kernel
theorem dX2_init_87 : decode cX2_init 87 = .ok (.putfield 39, 3) := by decide +kernel
theorem dX2_init_90 : decode cX2_init 90 = .ok (.aload_n 0, 1) := by decide +kernel
theorem dX2_init_91 : decode cX2_init 91 = .ok (.sipush 6560, 3) := by decide +kernel
theorem dX2_init_94 : decode cX2_init 94 = .ok (.newarray .int, 2) := by decide +kernel
theorem dX2_init_96 : decode cX2_init 96 = .ok (.putfield 42, 3) := by decide +kernel
theorem dX2_init_99 : decode cX2_init 99 = .ok (.aload_n 0, 1) := by decide +kernel
theorem dX2_init_100 : decode cX2_init 100 = .ok (.iconst 3, 1) := by decide +kernel
theorem dX2_init_101 : decode cX2_init 101 = .ok (.newarray .int, 2) := by decide +kernel
theorem dX2_init_103 : decode cX2_init 103 = .ok (.putfield 45, 3) := by decide +kernel
theorem dX2_init_106 : decode cX2_init 106 = .ok (.aload_n 0, 1) := by decide +kernel
theorem dX2_init_107 : decode cX2_init 107 = .ok (.bipush 10, 2) := by decide +kernel
theorem dX2_init_109 : decode cX2_init 109 = .ok (.putfield 48, 3) := by decide +kernel
theorem dX2_init_112 : decode cX2_init 112 = .ok (.aload_n 0, 1) := by decide +kernel
theorem dX2_init_113 : decode cX2_init 113 = .ok (.sipush 960, 3) := by decide +kernel
theorem dX2_init_116 : decode cX2_init 116 = .ok (.newarray .int, 2) := by decide +kernel
theorem dX2_init_118 : decode cX2_init 118 = .ok (.putfield 52, 3) := by decide +kernel
theorem dX2_init_121 : decode cX2_init 121 = .ok (.aload_n 0, 1) := by decide +kernel
theorem dX2_init_122 : decode cX2_init 122 = .ok (.sipush 960, 3) := by decide +kernel
theorem dX2_init_125 : decode cX2_init 125 = .ok (.newarray .int, 2) := by decide +kernel
theorem dX2_init_127 : decode cX2_init 127 = .ok (.putfield 55, 3) := by decide +kernel
theorem dX2_init_130 : decode cX2_init 130 = .ok (.aload_n 0, 1) := by decide +kernel
theorem dX2_init_131 : decode cX2_init 131 = .ok (.sipush 960, 3) := by decide +kernel
theorem dX2_init_134 : decode cX2_init 134 = .ok (.newarray .int, 2) := by decide +kernel
theorem dX2_init_136 : decode cX2_init 136 = .ok (.putfield 58, 3) := by decide +kernel
theorem dX2_init_139 : decode cX2_init 139 = .ok (.aload_n 0, 1) := by decide +kernel
theorem dX2_init_140 : decode cX2_init 140 = .ok (.sipush 960, 3) := by decide +kernel
theorem dX2_init_143 : decode cX2_init 143 = .ok (.newarray .int, 2) := by decide +kernel
theorem dX2_init_145 : decode cX2_init 145 = .ok (.putfield 61, 3) := by decide +kernel
theorem dX2_init_148 : decode cX2_init 148 = .ok (.aload_n 0, 1) := by decide +kernel
theorem dX2_init_149 : decode cX2_init 149 = .ok (.sipush 960, 3) := by decide +kernel
theorem dX2_init_152 : decode cX2_init 152 = .ok (.newarray .int, 2) := by decide +kernel
theorem dX2_init_154 : decode cX2_init 154 = .ok (.putfield 64, 3) := by decide +kernel
theorem dX2_init_157 : decode cX2_init 157 = .ok (.aload_n 0, 1) := by decide +kernel
theorem dX2_init_158 : decode cX2_init 158 = .ok (.sipush 960, 3) := by decide +kernel
theorem dX2_init_161 : decode cX2_init 161 = .ok (.newarray .long, 2) := by decide +kernel
theorem dX2_init_163 : decode cX2_init 163 = .ok (.putfield 67, 3) := by decide +kernel
theorem dX2_init_166 : decode cX2_init 166 = .ok (.aload_n 0, 1) := by decide +kernel
theorem dX2_init_167 : decode cX2_init 167 = .ok (.sipush 960, 3) := by decide +kernel
theorem dX2_init_170 : decode cX2_init 170 = .ok (.newarray .long, 2) := by decide +kernel
theorem dX2_init_172 : decode cX2_init 172 = .ok (.putfield 70, 3) := by decide +kernel
theorem dX2_init_175 : decode cX2_init 175 = .ok (.aload_n 0, 1) := by decide +kernel
theorem dX2_init_176 : decode cX2_init 176 = .ok (.sipush 984, 3) := by decide +kernel
theorem dX2_init_179 : decode cX2_init 179 = .ok (.newarray .boolean, 2) := by decide +kernel
theorem dX2_init_181 : decode cX2_init 181 = .ok (.putfield 73, 3) := by decide +kernel
theorem dX2_init_184 : decode cX2_init 184 = .ok (.aload_n 0, 1) := by decide +kernel
theorem dX2_init_185 : decode cX2_init 185 = .ok (.getfield 45, 3) := by decide +kernel
theorem dX2_init_188 : decode cX2_init 188 = .ok (.iconst 0, 1) := by decide +kernel
theorem dX2_init_189 : decode cX2_init 189 = .ok (.bipush 50, 2) := by decide +kernel
theorem dX2_init_191 : decode cX2_init 191 = .ok (.iastore, 1) := by decide +kernel
theorem dX2_init_192 : decode cX2_init 192 = .ok (.aload_n 0, 1) := by decide +kernel
theorem dX2_init_193 : decode cX2_init 193 = .ok (.getfield 45, 3) := by decide +kernel
theorem dX2_init_196 : decode cX2_init 196 = .ok (.iconst 1, 1) := by decide +kernel
theorem dX2_init_197 : decode cX2_init 197 = .ok (.bipush 100, 2) := by decide +kernel
theorem dX2_init_199 : decode cX2_init 199 = .ok (.iastore, 1) := by decide +kernel
theorem dX2_init_200 : decode cX2_init 200 = .ok (.aload_n 0, 1) := by decide +kernel
theorem dX2_init_201 : decode cX2_init 201 = .ok (.getfield 45, 3) := by decide +kernel
theorem dX2_init_204 : decode cX2_init 204 = .ok (.iconst 2, 1) := by decide +kernel
theorem dX2_init_205 : decode cX2_init 205 = .ok (.sipush 200, 3) := by decide +kernel
theorem dX2_init_208 : decode cX2_init 208 = .ok (.iastore, 1) := by decide +kernel
theorem dX2_init_209 : decode cX2_init 209 = .ok (.return_, 1) := by decide +kernel
theorem dX2_in_0 : decode cX2_in 0 = .ok (.lload_n 0, 1) := by decide +kernel
theorem dX2_in_1 : decode cX2_in 1 = .ok (.lload_n 2, 1) := by decide +kernel
theorem dX2_in_2 : decode cX2_in 2 = .ok (.lcmp, 1) := by decide +kernel
theorem dX2_in_3 : decode cX2_in 3 = .ok (.ifCond .lt 14, 3) := by decide +kernel
theorem dX2_in_6 : decode cX2_in 6 = .ok (.lload_n 0, 1) := by decide +kernel
theorem dX2_in_7 : decode cX2_in 7 = .ok (.lload 4, 2) := by decide +kernel
theorem dX2_in_9 : decode cX2_in 9 = .ok (.lcmp, 1) := by decide +kernel
theorem dX2_in_10 : decode cX2_in 10 = .ok (.ifCond .gt 7, 3) := by decide +kernel
theorem dX2_in_13 : decode cX2_in 13 = .ok (.iconst 1, 1) := by decide +kernel
theorem dX2_in_14 : decode cX2_in 14 = .ok (.goto 4, 3) := by decide +kernel
theorem dX2_in_17 : decode cX2_in 17 = .ok (.iconst 0, 1) := by decide +kernel
theorem dX2_in_18 : decode cX2_in 18 = .ok (.ireturn, 1) := by decide +kernel
theorem dX2_isNode_0 : decode cX2_isNode 0 = .ok (.iload_n 1, 1) := by decide +kernel
theorem dX2_isNode_1 : decode cX2_isNode 1 = .ok (.ifCond .lt 15, 3) := by decide +kernel
theorem dX2_isNode_4 : decode cX2_isNode 4 = .ok (.iload_n 1, 1) := by decide +kernel
theorem dX2_isNode_5 : decode cX2_isNode 5 = .ok (.aload_n 0, 1) := by decide +kernel
theorem dX2_isNode_6 : decode cX2_isNode 6 = .ok (.getfield 76, 3) := by decide +kernel
theorem dX2_isNode_9 : decode cX2_isNode 9 = .ok (.if_icmp .ge 7, 3) := by decide +kernel
theorem dX2_isNode_12 : decode cX2_isNode 12 = .ok (.iconst 1, 1) := by decide +kernel
theorem dX2_isNode_13 : decode cX2_isNode 13 = .ok (.goto 4, 3) := by decide +kernel
theorem dX2_isNode_16 : decode cX2_isNode 16 = .ok (.iconst 0, 1) := by decide +kernel
theorem dX2_isNode_17 : decode cX2_isNode 17 = .ok (.ireturn, 1) := by decide +kernel
theorem dX2_isVote_0 : decode cX2_isVote 0 = .ok (.iload_n 1, 1) := by decide +kernel
theorem dX2_isVote_1 : decode cX2_isVote 1 = .ok (.ifCond .lt 15, 3) := by decide +kernel
theorem dX2_isVote_4 : decode cX2_isVote 4 = .ok (.iload_n 1, 1) := by decide +kernel
theorem dX2_isVote_5 : decode cX2_isVote 5 = .ok (.aload_n 0, 1) := by decide +kernel
theorem dX2_isVote_6 : decode cX2_isVote 6 = .ok (.getfield 79, 3) := by decide +kernel
theorem dX2_isVote_9 : decode cX2_isVote 9 = .ok (.if_icmp .ge 7, 3) := by decide +kernel
theorem dX2_isVote_12 : decode cX2_isVote 12 = .ok (.iconst 1, 1) := by decide +kernel
theorem dX2_isVote_13 : decode cX2_isVote 13 = .ok (.goto 4, 3) := by decide +kernel
theorem dX2_isVote_16 : decode cX2_isVote 16 = .ok (.iconst 0, 1) := by decide +kernel
theorem dX2_isVote_17 : decode cX2_isVote 17 = .ok (.ireturn, 1) := by decide +kernel
theorem dX2_isHeight_0 : decode cX2_isHeight 0 = .ok (.iload_n 1, 1) := by decide +kernel
theorem dX2_isHeight_1 : decode cX2_isHeight 1 = .ok (.iconst 1, 1) := by decide +kernel
theorem dX2_isHeight_2 : decode cX2_isHeight 2 = .ok (.if_icmp .lt 15, 3) := by decide +kernel
theorem dX2_isHeight_5 : decode cX2_isHeight 5 = .ok (.iload_n 1, 1) := by decide +kernel
theorem dX2_isHeight_6 : decode cX2_isHeight 6 = .ok (.aload_n 0, 1) := by decide +kernel
theorem dX2_isHeight_7 : decode cX2_isHeight 7 = .ok (.getfield 82, 3) := by decide +kernel
theorem dX2_isHeight_10 : decode cX2_isHeight 10 = .ok (.if_icmp .gt 7, 3) := by decide +kernel
theorem dX2_isHeight_13 : decode cX2_isHeight 13 = .ok (.iconst 1, 1) := by decide +kernel
theorem dX2_isHeight_14 : decode cX2_isHeight 14 = .ok (.goto 4, 3) := by decide +kernel
theorem dX2_isHeight_17 : decode cX2_isHeight 17 = .ok (.iconst 0, 1) := by decide +kernel
theorem dX2_isHeight_18 : decode cX2_isHeight 18 = .ok (.ireturn, 1) := by decide +kernel
theorem dX2_place_0 : decode cX2_place 0 = .ok (.bipush 8, 2) := by decide +kernel
theorem dX2_place_2 : decode cX2_place 2 = .ok (.iload_n 0, 1) := by decide +kernel
theorem dX2_place_3 : decode cX2_place 3 = .ok (.imul, 1) := by decide +kernel
theorem dX2_place_4 : decode cX2_place 4 = .ok (.iload_n 1, 1) := by decide +kernel
theorem dX2_place_5 : decode cX2_place 5 = .ok (.iadd, 1) := by decide +kernel
theorem dX2_place_6 : decode cX2_place 6 = .ok (.iconst 2, 1) := by decide +kernel
theorem dX2_place_7 : decode cX2_place 7 = .ok (.imul, 1) := by decide +kernel
theorem dX2_place_8 : decode cX2_place 8 = .ok (.iload_n 2, 1) := by decide +kernel
theorem dX2_place_9 : decode cX2_place 9 = .ok (.iadd, 1) := by decide +kernel
theorem dX2_place_10 : decode cX2_place 10 = .ok (.bipush 10, 2) := by decide +kernel
theorem dX2_place_12 : decode cX2_place 12 = .ok (.imul, 1) := by decide +kernel
theorem dX2_place_13 : decode cX2_place 13 = .ok (.iload_n 3, 1) := by decide +kernel
theorem dX2_place_14 : decode cX2_place 14 = .ok (.iadd, 1) := by decide +kernel
theorem dX2_place_15 : decode cX2_place 15 = .ok (.ireturn, 1) := by decide +kernel
theorem dX2_weightOf_0 : decode cX2_weightOf 0 = .ok (.lconst 0, 1) := by decide +kernel
theorem dX2_weightOf_1 : decode cX2_weightOf 1 = .ok (.lstore_n 3, 1) := by decide +kernel
theorem dX2_weightOf_2 : decode cX2_weightOf 2 = .ok (.iconst 0, 1) := by decide +kernel
theorem dX2_weightOf_3 : decode cX2_weightOf 3 = .ok (.istore 5, 2) := by decide +kernel
theorem dX2_weightOf_5 : decode cX2_weightOf 5 = .ok (.iload 5, 2) := by decide +kernel
theorem dX2_weightOf_7 : decode cX2_weightOf 7 = .ok (.bipush 8, 2) := by decide +kernel
theorem dX2_weightOf_9 : decode cX2_weightOf 9 = .ok (.if_icmp .ge 38, 3) := by decide +kernel
theorem dX2_weightOf_12 : decode cX2_weightOf 12 = .ok (.lload_n 3, 1) := by decide +kernel
theorem dX2_weightOf_13 : decode cX2_weightOf 13 = .ok (.iload_n 2, 1) := by decide +kernel
theorem dX2_weightOf_14 : decode cX2_weightOf 14 = .ok (.iload 5, 2) := by decide +kernel
theorem dX2_weightOf_16 : decode cX2_weightOf 16 = .ok (.ishr, 1) := by decide +kernel
theorem dX2_weightOf_17 : decode cX2_weightOf 17 = .ok (.iconst 1, 1) := by decide +kernel
theorem dX2_weightOf_18 : decode cX2_weightOf 18 = .ok (.iand, 1) := by decide +kernel
theorem dX2_weightOf_19 : decode cX2_weightOf 19 = .ok (.iconst 1, 1) := by decide +kernel
theorem dX2_weightOf_20 : decode cX2_weightOf 20 = .ok (.if_icmp .ne 18, 3) := by decide +kernel
theorem dX2_weightOf_23 : decode cX2_weightOf 23 = .ok (.aload_n 0, 1) := by decide +kernel
theorem dX2_weightOf_24 : decode cX2_weightOf 24 = .ok (.getfield 20, 3) := by decide +kernel
theorem dX2_weightOf_27 : decode cX2_weightOf 27 = .ok (.bipush 8, 2) := by decide +kernel
theorem dX2_weightOf_29 : decode cX2_weightOf 29 = .ok (.iload_n 1, 1) := by decide +kernel
theorem dX2_weightOf_30 : decode cX2_weightOf 30 = .ok (.imul, 1) := by decide +kernel
theorem dX2_weightOf_31 : decode cX2_weightOf 31 = .ok (.iload 5, 2) := by decide +kernel
theorem dX2_weightOf_33 : decode cX2_weightOf 33 = .ok (.iadd, 1) := by decide +kernel
theorem dX2_weightOf_34 : decode cX2_weightOf 34 = .ok (.laload, 1) := by decide +kernel
theorem dX2_weightOf_35 : decode cX2_weightOf 35 = .ok (.goto 4, 3) := by decide +kernel
theorem dX2_weightOf_38 : decode cX2_weightOf 38 = .ok (.lconst 0, 1) := by decide +kernel
theorem dX2_weightOf_39 : decode cX2_weightOf 39 = .ok (.ladd, 1) := by decide +kernel
theorem dX2_weightOf_40 : decode cX2_weightOf 40 = .ok (.lstore_n 3, 1) := by decide +kernel
theorem dX2_weightOf_41 : decode cX2_weightOf 41 = .ok (.iinc 5 1, 3) := by decide +kernel
theorem dX2_weightOf_44 : decode cX2_weightOf 44 = .ok (.goto (-39), 3) := by decide +kernel
theorem dX2_weightOf_47 : decode cX2_weightOf 47 = .ok (.lload_n 3, 1) := by decide +kernel
theorem dX2_weightOf_48 : decode cX2_weightOf 48 = .ok (.lreturn, 1) := by decide +kernel
set_option maxRecDepth 20000 in
theorem ggX2_haveMost_X2_weightOf : GoodIn wsX2_haveMost wsX2_weightOf := goodIn_r _ [8, 9, 10, 11, 12, 13, 14, 15, 16, 17, 18, 19, 20, 21, 22, 23, 24, 25, 26, 27, 28, 29, 30, 31, 32, 33, 34, 35, 36] (by decide +kernel) (by decide +kernel)
set_option maxRecDepth 20000 in
theorem gX2_haveMost_X2_weightOf : GoodIn wsX2_haveMost (wsV RX2 87 RX2 yX2_weightOf wsX2_weightOf) := goodIn_app (goodIn_of _ (by decide +kernel)) ggX2_haveMost_X2_weightOf
theorem dX2_haveMost_0 : decode cX2_haveMost 0 = .ok (.ldc2_w 85, 3) := by decide +kernel
theorem dX2_haveMost_3 : decode cX2_haveMost 3 = .ok (.aload_n 0, 1) := by decide +kernel
theorem dX2_haveMost_4 : decode cX2_haveMost 4 = .ok (.iload_n 1, 1) := by decide +kernel
theorem dX2_haveMost_5 : decode cX2_haveMost 5 = .ok (.iload_n 2, 1) := by decide +kernel
theorem dX2_haveMost_6 : decode cX2_haveMost 6 = .ok (.invokevirtual 87, 3) := by decide +kernel
theorem dX2_haveMost_9 : decode cX2_haveMost 9 = .ok (.lmul, 1) := by decide +kernel
theorem dX2_haveMost_10 : decode cX2_haveMost 10 = .ok (.ldc2_w 91, 3) := by decide +kernel
theorem dX2_haveMost_13 : decode cX2_haveMost 13 = .ok (.aload_n 0, 1) := by decide +kernel
theorem dX2_haveMost_14 : decode cX2_haveMost 14 = .ok (.getfield 23, 3) := by decide +kernel
theorem dX2_haveMost_17 : decode cX2_haveMost 17 = .ok (.iload_n 1, 1) := by decide +kernel
theorem dX2_haveMost_18 : decode cX2_haveMost 18 = .ok (.laload, 1) := by decide +kernel
theorem dX2_haveMost_19 : decode cX2_haveMost 19 = .ok (.lmul, 1) := by decide +kernel
theorem dX2_haveMost_20 : decode cX2_haveMost 20 = .ok (.lcmp, 1) := by decide +kernel
theorem dX2_haveMost_21 : decode cX2_haveMost 21 = .ok (.ifCond .le 7, 3) := by decide +kernel
theorem dX2_haveMost_24 : decode cX2_haveMost 24 = .ok (.iconst 1, 1) := by decide +kernel
theorem dX2_haveMost_25 : decode cX2_haveMost 25 = .ok (.goto 4, 3) := by decide +kernel
theorem dX2_haveMost_28 : decode cX2_haveMost 28 = .ok (.iconst 0, 1) := by decide +kernel
theorem dX2_haveMost_29 : decode cX2_haveMost 29 = .ok (.ireturn, 1) := by decide +kernel
set_option maxRecDepth 20000 in
theorem ggX2_isBacked_X2_place : GoodIn wsX2_isBacked wsX2_place := goodIn_r _ [5] (by decide +kernel) (by decide +kernel)
set_option maxRecDepth 20000 in
theorem gX2_isBacked_X2_place : GoodIn wsX2_isBacked (va_wsS RX2 93 yX2_place wsX2_place) := goodIn_app (goodIn_of _ (by decide +kernel)) ggX2_isBacked_X2_place
set_option maxRecDepth 20000 in
theorem ggX2_isBacked_X2_haveMost : GoodIn wsX2_isBacked wsX2_haveMost := goodIn_r _ [9, 10, 11, 12, 13, 14, 15, 4, 16, 17, 18, 19, 20, 21, 22, 23, 24, 25, 26, 27, 28, 29, 30, 31, 32, 33, 34, 35, 36, 37, 38, 39, 40, 41, 42, 43, 44] (by decide +kernel) (by decide +kernel)
set_option maxRecDepth 20000 in
theorem gX2_isBacked_X2_haveMost : GoodIn wsX2_isBacked (wsV RX2 97 RX2 yX2_haveMost wsX2_haveMost) := goodIn_app (goodIn_of _ (by decide +kernel)) ggX2_isBacked_X2_haveMost
theorem dX2_isBacked_0 : decode cX2_isBacked 0 = .ok (.aload_n 0, 1) := by decide +kernel
theorem dX2_isBacked_1 : decode cX2_isBacked 1 = .ok (.iload_n 1, 1) := by decide +kernel
theorem dX2_isBacked_2 : decode cX2_isBacked 2 = .ok (.aload_n 0, 1) := by decide +kernel
theorem dX2_isBacked_3 : decode cX2_isBacked 3 = .ok (.getfield 42, 3) := by decide +kernel
theorem dX2_isBacked_6 : decode cX2_isBacked 6 = .ok (.iload_n 1, 1) := by decide +kernel
theorem dX2_isBacked_7 : decode cX2_isBacked 7 = .ok (.iload_n 2, 1) := by decide +kernel
theorem dX2_isBacked_8 : decode cX2_isBacked 8 = .ok (.iconst 0, 1) := by decide +kernel
theorem dX2_isBacked_9 : decode cX2_isBacked 9 = .ok (.iload_n 3, 1) := by decide +kernel
theorem dX2_isBacked_10 : decode cX2_isBacked 10 = .ok (.invokestatic 93, 3) := by decide +kernel
theorem dX2_isBacked_13 : decode cX2_isBacked 13 = .ok (.iaload, 1) := by decide +kernel
theorem dX2_isBacked_14 : decode cX2_isBacked 14 = .ok (.invokevirtual 97, 3) := by decide +kernel
theorem dX2_isBacked_17 : decode cX2_isBacked 17 = .ok (.ireturn, 1) := by decide +kernel
set_option maxRecDepth 20000 in
theorem ggX2_isCertain_X2_place : GoodIn wsX2_isCertain wsX2_place := goodIn_r _ [5] (by decide +kernel) (by decide +kernel)
set_option maxRecDepth 20000 in
theorem gX2_isCertain_X2_place : GoodIn wsX2_isCertain (va_wsS RX2 93 yX2_place wsX2_place) := goodIn_app (goodIn_of _ (by decide +kernel)) ggX2_isCertain_X2_place
set_option maxRecDepth 20000 in
theorem ggX2_isCertain_X2_haveMost : GoodIn wsX2_isCertain wsX2_haveMost := goodIn_r _ [9, 10, 11, 12, 13, 14, 15, 4, 16, 17, 18, 19, 20, 21, 22, 23, 24, 25, 26, 27, 28, 29, 30, 31, 32, 33, 34, 35, 36, 37, 38, 39, 40, 41, 42, 43, 44] (by decide +kernel) (by decide +kernel)
set_option maxRecDepth 20000 in
theorem gX2_isCertain_X2_haveMost : GoodIn wsX2_isCertain (wsV RX2 97 RX2 yX2_haveMost wsX2_haveMost) := goodIn_app (goodIn_of _ (by decide +kernel)) ggX2_isCertain_X2_haveMost
theorem dX2_isCertain_0 : decode cX2_isCertain 0 = .ok (.iconst 0, 1) := by decide +kernel
theorem dX2_isCertain_1 : decode cX2_isCertain 1 = .ok (.istore_n 3, 1) := by decide +kernel
theorem dX2_isCertain_2 : decode cX2_isCertain 2 = .ok (.iconst 0, 1) := by decide +kernel
theorem dX2_isCertain_3 : decode cX2_isCertain 3 = .ok (.istore 4, 2) := by decide +kernel
theorem dX2_isCertain_5 : decode cX2_isCertain 5 = .ok (.iload 4, 2) := by decide +kernel
theorem dX2_isCertain_7 : decode cX2_isCertain 7 = .ok (.bipush 8, 2) := by decide +kernel
theorem dX2_isCertain_9 : decode cX2_isCertain 9 = .ok (.if_icmp .ge 40, 3) := by decide +kernel
theorem dX2_isCertain_12 : decode cX2_isCertain 12 = .ok (.iload_n 3, 1) := by decide +kernel
theorem dX2_isCertain_13 : decode cX2_isCertain 13 = .ok (.ifCond .ne 24, 3) := by decide +kernel
theorem dX2_isCertain_16 : decode cX2_isCertain 16 = .ok (.aload_n 0, 1) := by decide +kernel
theorem dX2_isCertain_17 : decode cX2_isCertain 17 = .ok (.iload_n 1, 1) := by decide +kernel
theorem dX2_isCertain_18 : decode cX2_isCertain 18 = .ok (.aload_n 0, 1) := by decide +kernel
theorem dX2_isCertain_19 : decode cX2_isCertain 19 = .ok (.getfield 42, 3) := by decide +kernel
theorem dX2_isCertain_22 : decode cX2_isCertain 22 = .ok (.iload_n 1, 1) := by decide +kernel
theorem dX2_isCertain_23 : decode cX2_isCertain 23 = .ok (.iload 4, 2) := by decide +kernel
theorem dX2_isCertain_25 : decode cX2_isCertain 25 = .ok (.iconst 1, 1) := by decide +kernel
theorem dX2_isCertain_26 : decode cX2_isCertain 26 = .ok (.iload_n 2, 1) := by decide +kernel
theorem dX2_isCertain_27 : decode cX2_isCertain 27 = .ok (.invokestatic 93, 3) := by decide +kernel
theorem dX2_isCertain_30 : decode cX2_isCertain 30 = .ok (.iaload, 1) := by decide +kernel
theorem dX2_isCertain_31 : decode cX2_isCertain 31 = .ok (.invokevirtual 97, 3) := by decide +kernel
theorem dX2_isCertain_34 : decode cX2_isCertain 34 = .ok (.ifCond .eq 7, 3) := by decide +kernel
theorem dX2_isCertain_37 : decode cX2_isCertain 37 = .ok (.iconst 1, 1) := by decide +kernel
theorem dX2_isCertain_38 : decode cX2_isCertain 38 = .ok (.goto 4, 3) := by decide +kernel
theorem dX2_isCertain_41 : decode cX2_isCertain 41 = .ok (.iconst 0, 1) := by decide +kernel
theorem dX2_isCertain_42 : decode cX2_isCertain 42 = .ok (.istore_n 3, 1) := by decide +kernel
theorem dX2_isCertain_43 : decode cX2_isCertain 43 = .ok (.iinc 4 1, 3) := by decide +kernel
theorem dX2_isCertain_46 : decode cX2_isCertain 46 = .ok (.goto (-41), 3) := by decide +kernel
theorem dX2_isCertain_49 : decode cX2_isCertain 49 = .ok (.iload_n 3, 1) := by decide +kernel
theorem dX2_isCertain_50 : decode cX2_isCertain 50 = .ok (.ireturn, 1) := by decide +kernel
theorem dX2_isTwice_0 : decode cX2_isTwice 0 = .ok (.aload_n 0, 1) := by decide +kernel
theorem dX2_isTwice_1 : decode cX2_isTwice 1 = .ok (.getfield 26, 3) := by decide +kernel
theorem dX2_isTwice_4 : decode cX2_isTwice 4 = .ok (.iload_n 1, 1) := by decide +kernel
theorem dX2_isTwice_5 : decode cX2_isTwice 5 = .ok (.iaload, 1) := by decide +kernel
theorem dX2_isTwice_6 : decode cX2_isTwice 6 = .ok (.aload_n 0, 1) := by decide +kernel
theorem dX2_isTwice_7 : decode cX2_isTwice 7 = .ok (.getfield 26, 3) := by decide +kernel
theorem dX2_isTwice_10 : decode cX2_isTwice 10 = .ok (.iload_n 2, 1) := by decide +kernel
theorem dX2_isTwice_11 : decode cX2_isTwice 11 = .ok (.iaload, 1) := by decide +kernel
theorem dX2_isTwice_12 : decode cX2_isTwice 12 = .ok (.if_icmp .ne 67, 3) := by decide +kernel
theorem dX2_isTwice_15 : decode cX2_isTwice 15 = .ok (.aload_n 0, 1) := by decide +kernel
theorem dX2_isTwice_16 : decode cX2_isTwice 16 = .ok (.getfield 30, 3) := by decide +kernel
theorem dX2_isTwice_19 : decode cX2_isTwice 19 = .ok (.iload_n 1, 1) := by decide +kernel
theorem dX2_isTwice_20 : decode cX2_isTwice 20 = .ok (.iaload, 1) := by decide +kernel
theorem dX2_isTwice_21 : decode cX2_isTwice 21 = .ok (.aload_n 0, 1) := by decide +kernel
theorem dX2_isTwice_22 : decode cX2_isTwice 22 = .ok (.getfield 30, 3) := by decide +kernel
theorem dX2_isTwice_25 : decode cX2_isTwice 25 = .ok (.iload_n 2, 1) := by decide +kernel
theorem dX2_isTwice_26 : decode cX2_isTwice 26 = .ok (.iaload, 1) := by decide +kernel
theorem dX2_isTwice_27 : decode cX2_isTwice 27 = .ok (.if_icmp .ne 52, 3) := by decide +kernel
theorem dX2_isTwice_30 : decode cX2_isTwice 30 = .ok (.aload_n 0, 1) := by decide +kernel
theorem dX2_isTwice_31 : decode cX2_isTwice 31 = .ok (.getfield 33, 3) := by decide +kernel
theorem dX2_isTwice_34 : decode cX2_isTwice 34 = .ok (.iload_n 1, 1) := by decide +kernel
theorem dX2_isTwice_35 : decode cX2_isTwice 35 = .ok (.iaload, 1) := by decide +kernel
theorem dX2_isTwice_36 : decode cX2_isTwice 36 = .ok (.aload_n 0, 1) := by decide +kernel
theorem dX2_isTwice_37 : decode cX2_isTwice 37 = .ok (.getfield 33, 3) := by decide +kernel
theorem dX2_isTwice_40 : decode cX2_isTwice 40 = .ok (.iload_n 2, 1) := by decide +kernel
theorem dX2_isTwice_41 : decode cX2_isTwice 41 = .ok (.iaload, 1) := by decide +kernel
theorem dX2_isTwice_42 : decode cX2_isTwice 42 = .ok (.if_icmp .ne 37, 3) := by decide +kernel
theorem dX2_isTwice_45 : decode cX2_isTwice 45 = .ok (.aload_n 0, 1) := by decide +kernel
theorem dX2_isTwice_46 : decode cX2_isTwice 46 = .ok (.getfield 36, 3) := by decide +kernel
theorem dX2_isTwice_49 : decode cX2_isTwice 49 = .ok (.iload_n 1, 1) := by decide +kernel
theorem dX2_isTwice_50 : decode cX2_isTwice 50 = .ok (.iaload, 1) := by decide +kernel
theorem dX2_isTwice_51 : decode cX2_isTwice 51 = .ok (.aload_n 0, 1) := by decide +kernel
theorem dX2_isTwice_52 : decode cX2_isTwice 52 = .ok (.getfield 36, 3) := by decide +kernel
theorem dX2_isTwice_55 : decode cX2_isTwice 55 = .ok (.iload_n 2, 1) := by decide +kernel
theorem dX2_isTwice_56 : decode cX2_isTwice 56 = .ok (.iaload, 1) := by decide +kernel
theorem dX2_isTwice_57 : decode cX2_isTwice 57 = .ok (.if_icmp .ne 22, 3) := by decide +kernel
theorem dX2_isTwice_60 : decode cX2_isTwice 60 = .ok (.aload_n 0, 1) := by decide +kernel
theorem dX2_isTwice_61 : decode cX2_isTwice 61 = .ok (.getfield 39, 3) := by decide +kernel
theorem dX2_isTwice_64 : decode cX2_isTwice 64 = .ok (.iload_n 1, 1) := by decide +kernel
theorem dX2_isTwice_65 : decode cX2_isTwice 65 = .ok (.iaload, 1) := by decide +kernel
theorem dX2_isTwice_66 : decode cX2_isTwice 66 = .ok (.aload_n 0, 1) := by decide +kernel
theorem dX2_isTwice_67 : decode cX2_isTwice 67 = .ok (.getfield 39, 3) := by decide +kernel
theorem dX2_isTwice_70 : decode cX2_isTwice 70 = .ok (.iload_n 2, 1) := by decide +kernel
theorem dX2_isTwice_71 : decode cX2_isTwice 71 = .ok (.iaload, 1) := by decide +kernel
theorem dX2_isTwice_72 : decode cX2_isTwice 72 = .ok (.if_icmp .eq 7, 3) := by decide +kernel
theorem dX2_isTwice_75 : decode cX2_isTwice 75 = .ok (.iconst 1, 1) := by decide +kernel
theorem dX2_isTwice_76 : decode cX2_isTwice 76 = .ok (.goto 4, 3) := by decide +kernel
theorem dX2_isTwice_79 : decode cX2_isTwice 79 = .ok (.iconst 0, 1) := by decide +kernel
theorem dX2_isTwice_80 : decode cX2_isTwice 80 = .ok (.ireturn, 1) := by decide +kernel
set_option maxRecDepth 20000 in
theorem ggX2_isLock_X2_isBacked : GoodIn wsX2_isLock wsX2_isBacked := goodIn_r _ [10, 11, 12, 13, 9, 14, 15, 16, 17, 18, 19, 20, 21, 22, 23, 24, 25, 26, 27, 28, 29, 30, 31, 32, 33, 34, 35, 36, 37, 38, 39, 40, 41, 42, 43, 44, 45, 46, 47, 48, 49, 50, 51, 52, 53] (by decide +kernel) (by decide +kernel)
set_option maxRecDepth 20000 in
theorem gX2_isLock_X2_isBacked : GoodIn wsX2_isLock (wsV RX2 101 RX2 yX2_isBacked wsX2_isBacked) := goodIn_app (goodIn_of _ (by decide +kernel)) ggX2_isLock_X2_isBacked
theorem dX2_isLock_0 : decode cX2_isLock 0 = .ok (.aload_n 0, 1) := by decide +kernel
theorem dX2_isLock_1 : decode cX2_isLock 1 = .ok (.getfield 26, 3) := by decide +kernel
theorem dX2_isLock_4 : decode cX2_isLock 4 = .ok (.iload_n 1, 1) := by decide +kernel
theorem dX2_isLock_5 : decode cX2_isLock 5 = .ok (.iaload, 1) := by decide +kernel
theorem dX2_isLock_6 : decode cX2_isLock 6 = .ok (.aload_n 0, 1) := by decide +kernel
theorem dX2_isLock_7 : decode cX2_isLock 7 = .ok (.getfield 26, 3) := by decide +kernel
theorem dX2_isLock_10 : decode cX2_isLock 10 = .ok (.iload_n 2, 1) := by decide +kernel
theorem dX2_isLock_11 : decode cX2_isLock 11 = .ok (.iaload, 1) := by decide +kernel
theorem dX2_isLock_12 : decode cX2_isLock 12 = .ok (.if_icmp .ne 85, 3) := by decide +kernel
theorem dX2_isLock_15 : decode cX2_isLock 15 = .ok (.aload_n 0, 1) := by decide +kernel
theorem dX2_isLock_16 : decode cX2_isLock 16 = .ok (.getfield 30, 3) := by decide +kernel
theorem dX2_isLock_19 : decode cX2_isLock 19 = .ok (.iload_n 1, 1) := by decide +kernel
theorem dX2_isLock_20 : decode cX2_isLock 20 = .ok (.iaload, 1) := by decide +kernel
theorem dX2_isLock_21 : decode cX2_isLock 21 = .ok (.aload_n 0, 1) := by decide +kernel
theorem dX2_isLock_22 : decode cX2_isLock 22 = .ok (.getfield 30, 3) := by decide +kernel
theorem dX2_isLock_25 : decode cX2_isLock 25 = .ok (.iload_n 2, 1) := by decide +kernel
theorem dX2_isLock_26 : decode cX2_isLock 26 = .ok (.iaload, 1) := by decide +kernel
theorem dX2_isLock_27 : decode cX2_isLock 27 = .ok (.if_icmp .ne 70, 3) := by decide +kernel
theorem dX2_isLock_30 : decode cX2_isLock 30 = .ok (.aload_n 0, 1) := by decide +kernel
theorem dX2_isLock_31 : decode cX2_isLock 31 = .ok (.getfield 36, 3) := by decide +kernel
theorem dX2_isLock_34 : decode cX2_isLock 34 = .ok (.iload_n 1, 1) := by decide +kernel
theorem dX2_isLock_35 : decode cX2_isLock 35 = .ok (.iaload, 1) := by decide +kernel
theorem dX2_isLock_36 : decode cX2_isLock 36 = .ok (.iconst 1, 1) := by decide +kernel
theorem dX2_isLock_37 : decode cX2_isLock 37 = .ok (.if_icmp .ne 60, 3) := by decide +kernel
theorem dX2_isLock_40 : decode cX2_isLock 40 = .ok (.aload_n 0, 1) := by decide +kernel
theorem dX2_isLock_41 : decode cX2_isLock 41 = .ok (.getfield 36, 3) := by decide +kernel
theorem dX2_isLock_44 : decode cX2_isLock 44 = .ok (.iload_n 2, 1) := by decide +kernel
theorem dX2_isLock_45 : decode cX2_isLock 45 = .ok (.iaload, 1) := by decide +kernel
theorem dX2_isLock_46 : decode cX2_isLock 46 = .ok (.ifCond .ne 51, 3) := by decide +kernel
theorem dX2_isLock_49 : decode cX2_isLock 49 = .ok (.aload_n 0, 1) := by decide +kernel
theorem dX2_isLock_50 : decode cX2_isLock 50 = .ok (.getfield 33, 3) := by decide +kernel
theorem dX2_isLock_53 : decode cX2_isLock 53 = .ok (.iload_n 1, 1) := by decide +kernel
theorem dX2_isLock_54 : decode cX2_isLock 54 = .ok (.iaload, 1) := by decide +kernel
theorem dX2_isLock_55 : decode cX2_isLock 55 = .ok (.aload_n 0, 1) := by decide +kernel
theorem dX2_isLock_56 : decode cX2_isLock 56 = .ok (.getfield 33, 3) := by decide +kernel
theorem dX2_isLock_59 : decode cX2_isLock 59 = .ok (.iload_n 2, 1) := by decide +kernel
theorem dX2_isLock_60 : decode cX2_isLock 60 = .ok (.iaload, 1) := by decide +kernel
theorem dX2_isLock_61 : decode cX2_isLock 61 = .ok (.if_icmp .ge 36, 3) := by decide +kernel
theorem dX2_isLock_64 : decode cX2_isLock 64 = .ok (.aload_n 0, 1) := by decide +kernel
theorem dX2_isLock_65 : decode cX2_isLock 65 = .ok (.getfield 39, 3) := by decide +kernel
theorem dX2_isLock_68 : decode cX2_isLock 68 = .ok (.iload_n 1, 1) := by decide +kernel
theorem dX2_isLock_69 : decode cX2_isLock 69 = .ok (.iaload, 1) := by decide +kernel
theorem dX2_isLock_70 : decode cX2_isLock 70 = .ok (.ifCond .eq 27, 3) := by decide +kernel
theorem dX2_isLock_73 : decode cX2_isLock 73 = .ok (.aload_n 0, 1) := by decide +kernel
theorem dX2_isLock_74 : decode cX2_isLock 74 = .ok (.getfield 39, 3) := by decide +kernel
theorem dX2_isLock_77 : decode cX2_isLock 77 = .ok (.iload_n 2, 1) := by decide +kernel
theorem dX2_isLock_78 : decode cX2_isLock 78 = .ok (.iaload, 1) := by decide +kernel
theorem dX2_isLock_79 : decode cX2_isLock 79 = .ok (.ifCond .eq 18, 3) := by decide +kernel
theorem dX2_isLock_82 : decode cX2_isLock 82 = .ok (.aload_n 0, 1) := by decide +kernel
theorem dX2_isLock_83 : decode cX2_isLock 83 = .ok (.getfield 39, 3) := by decide +kernel
theorem dX2_isLock_86 : decode cX2_isLock 86 = .ok (.iload_n 1, 1) := by decide +kernel
theorem dX2_isLock_87 : decode cX2_isLock 87 = .ok (.iaload, 1) := by decide +kernel
theorem dX2_isLock_88 : decode cX2_isLock 88 = .ok (.aload_n 0, 1) := by decide +kernel
theorem dX2_isLock_89 : decode cX2_isLock 89 = .ok (.getfield 39, 3) := by decide +kernel
theorem dX2_isLock_92 : decode cX2_isLock 92 = .ok (.iload_n 2, 1) := by decide +kernel
theorem dX2_isLock_93 : decode cX2_isLock 93 = .ok (.iaload, 1) := by decide +kernel
theorem dX2_isLock_94 : decode cX2_isLock 94 = .ok (.if_icmp .ne 5, 3) := by decide +kernel
theorem dX2_isLock_97 : decode cX2_isLock 97 = .ok (.iconst 0, 1) := by decide +kernel
theorem dX2_isLock_98 : decode cX2_isLock 98 = .ok (.ireturn, 1) := by decide +kernel
theorem dX2_isLock_99 : decode cX2_isLock 99 = .ok (.iconst 0, 1) := by decide +kernel
theorem dX2_isLock_100 : decode cX2_isLock 100 = .ok (.istore_n 3, 1) := by decide +kernel
theorem dX2_isLock_101 : decode cX2_isLock 101 = .ok (.aload_n 0, 1) := by decide +kernel
theorem dX2_isLock_102 : decode cX2_isLock 102 = .ok (.getfield 33, 3) := by decide +kernel
theorem dX2_isLock_105 : decode cX2_isLock 105 = .ok (.iload_n 1, 1) := by decide +kernel
theorem dX2_isLock_106 : decode cX2_isLock 106 = .ok (.iaload, 1) := by decide +kernel
theorem dX2_isLock_107 : decode cX2_isLock 107 = .ok (.istore 4, 2) := by decide +kernel
theorem dX2_isLock_109 : decode cX2_isLock 109 = .ok (.iload 4, 2) := by decide +kernel
theorem dX2_isLock_111 : decode cX2_isLock 111 = .ok (.aload_n 0, 1) := by decide +kernel
theorem dX2_isLock_112 : decode cX2_isLock 112 = .ok (.getfield 33, 3) := by decide +kernel
theorem dX2_isLock_115 : decode cX2_isLock 115 = .ok (.iload_n 2, 1) := by decide +kernel
theorem dX2_isLock_116 : decode cX2_isLock 116 = .ok (.iaload, 1) := by decide +kernel
theorem dX2_isLock_117 : decode cX2_isLock 117 = .ok (.if_icmp .ge 40, 3) := by decide +kernel
theorem dX2_isLock_120 : decode cX2_isLock 120 = .ok (.iload_n 3, 1) := by decide +kernel
theorem dX2_isLock_121 : decode cX2_isLock 121 = .ok (.ifCond .ne 24, 3) := by decide +kernel
theorem dX2_isLock_124 : decode cX2_isLock 124 = .ok (.aload_n 0, 1) := by decide +kernel
theorem dX2_isLock_125 : decode cX2_isLock 125 = .ok (.aload_n 0, 1) := by decide +kernel
theorem dX2_isLock_126 : decode cX2_isLock 126 = .ok (.getfield 30, 3) := by decide +kernel
theorem dX2_isLock_129 : decode cX2_isLock 129 = .ok (.iload_n 1, 1) := by decide +kernel
theorem dX2_isLock_130 : decode cX2_isLock 130 = .ok (.iaload, 1) := by decide +kernel
theorem dX2_isLock_131 : decode cX2_isLock 131 = .ok (.iload 4, 2) := by decide +kernel
theorem dX2_isLock_133 : decode cX2_isLock 133 = .ok (.aload_n 0, 1) := by decide +kernel
theorem dX2_isLock_134 : decode cX2_isLock 134 = .ok (.getfield 39, 3) := by decide +kernel
theorem dX2_isLock_137 : decode cX2_isLock 137 = .ok (.iload_n 2, 1) := by decide +kernel
theorem dX2_isLock_138 : decode cX2_isLock 138 = .ok (.iaload, 1) := by decide +kernel
theorem dX2_isLock_139 : decode cX2_isLock 139 = .ok (.invokevirtual 101, 3) := by decide +kernel
theorem dX2_isLock_142 : decode cX2_isLock 142 = .ok (.ifCond .eq 7, 3) := by decide +kernel
theorem dX2_isLock_145 : decode cX2_isLock 145 = .ok (.iconst 1, 1) := by decide +kernel
theorem dX2_isLock_146 : decode cX2_isLock 146 = .ok (.goto 4, 3) := by decide +kernel
theorem dX2_isLock_149 : decode cX2_isLock 149 = .ok (.iconst 0, 1) := by decide +kernel
theorem dX2_isLock_150 : decode cX2_isLock 150 = .ok (.istore_n 3, 1) := by decide +kernel
theorem dX2_isLock_151 : decode cX2_isLock 151 = .ok (.iinc 4 1, 3) := by decide +kernel
theorem dX2_isLock_154 : decode cX2_isLock 154 = .ok (.goto (-45), 3) := by decide +kernel
theorem dX2_isLock_157 : decode cX2_isLock 157 = .ok (.iload_n 3, 1) := by decide +kernel
theorem dX2_isLock_158 : decode cX2_isLock 158 = .ok (.ifCond .ne 7, 3) := by decide +kernel
theorem dX2_isLock_161 : decode cX2_isLock 161 = .ok (.iconst 1, 1) := by decide +kernel
theorem dX2_isLock_162 : decode cX2_isLock 162 = .ok (.goto 4, 3) := by decide +kernel
theorem dX2_isLock_165 : decode cX2_isLock 165 = .ok (.iconst 0, 1) := by decide +kernel
theorem dX2_isLock_166 : decode cX2_isLock 166 = .ok (.ireturn, 1) := by decide +kernel
set_option maxRecDepth 20000 in
theorem ggX2_isBare_X2_isBacked : GoodIn wsX2_isBare wsX2_isBacked := goodIn_r _ [9, 10, 11, 12, 8, 13, 14, 15, 16, 17, 18, 19, 20, 21, 22, 23, 24, 25, 26, 27, 28, 29, 30, 31, 32, 33, 34, 35, 36, 37, 38, 39, 40, 41, 42, 43, 44, 45, 46, 47, 48, 49, 50, 51, 52] (by decide +kernel) (by decide +kernel)
set_option maxRecDepth 20000 in
theorem gX2_isBare_X2_isBacked : GoodIn wsX2_isBare (wsV RX2 101 RX2 yX2_isBacked wsX2_isBacked) := goodIn_app (goodIn_of _ (by decide +kernel)) ggX2_isBare_X2_isBacked
theorem dX2_isBare_0 : decode cX2_isBare 0 = .ok (.aload_n 0, 1) := by decide +kernel
theorem dX2_isBare_1 : decode cX2_isBare 1 = .ok (.getfield 36, 3) := by decide +kernel
theorem dX2_isBare_4 : decode cX2_isBare 4 = .ok (.iload_n 1, 1) := by decide +kernel
theorem dX2_isBare_5 : decode cX2_isBare 5 = .ok (.iaload, 1) := by decide +kernel
theorem dX2_isBare_6 : decode cX2_isBare 6 = .ok (.iconst 1, 1) := by decide +kernel
theorem dX2_isBare_7 : decode cX2_isBare 7 = .ok (.if_icmp .ne 41, 3) := by decide +kernel
theorem dX2_isBare_10 : decode cX2_isBare 10 = .ok (.aload_n 0, 1) := by decide +kernel
theorem dX2_isBare_11 : decode cX2_isBare 11 = .ok (.getfield 39, 3) := by decide +kernel
theorem dX2_isBare_14 : decode cX2_isBare 14 = .ok (.iload_n 1, 1) := by decide +kernel
theorem dX2_isBare_15 : decode cX2_isBare 15 = .ok (.iaload, 1) := by decide +kernel
theorem dX2_isBare_16 : decode cX2_isBare 16 = .ok (.ifCond .le 32, 3) := by decide +kernel
theorem dX2_isBare_19 : decode cX2_isBare 19 = .ok (.aload_n 0, 1) := by decide +kernel
theorem dX2_isBare_20 : decode cX2_isBare 20 = .ok (.aload_n 0, 1) := by decide +kernel
theorem dX2_isBare_21 : decode cX2_isBare 21 = .ok (.getfield 30, 3) := by decide +kernel
theorem dX2_isBare_24 : decode cX2_isBare 24 = .ok (.iload_n 1, 1) := by decide +kernel
theorem dX2_isBare_25 : decode cX2_isBare 25 = .ok (.iaload, 1) := by decide +kernel
theorem dX2_isBare_26 : decode cX2_isBare 26 = .ok (.aload_n 0, 1) := by decide +kernel
theorem dX2_isBare_27 : decode cX2_isBare 27 = .ok (.getfield 33, 3) := by decide +kernel
theorem dX2_isBare_30 : decode cX2_isBare 30 = .ok (.iload_n 1, 1) := by decide +kernel
theorem dX2_isBare_31 : decode cX2_isBare 31 = .ok (.iaload, 1) := by decide +kernel
theorem dX2_isBare_32 : decode cX2_isBare 32 = .ok (.aload_n 0, 1) := by decide +kernel
theorem dX2_isBare_33 : decode cX2_isBare 33 = .ok (.getfield 39, 3) := by decide +kernel
theorem dX2_isBare_36 : decode cX2_isBare 36 = .ok (.iload_n 1, 1) := by decide +kernel
theorem dX2_isBare_37 : decode cX2_isBare 37 = .ok (.iaload, 1) := by decide +kernel
theorem dX2_isBare_38 : decode cX2_isBare 38 = .ok (.invokevirtual 101, 3) := by decide +kernel
theorem dX2_isBare_41 : decode cX2_isBare 41 = .ok (.ifCond .ne 7, 3) := by decide +kernel
theorem dX2_isBare_44 : decode cX2_isBare 44 = .ok (.iconst 1, 1) := by decide +kernel
theorem dX2_isBare_45 : decode cX2_isBare 45 = .ok (.goto 4, 3) := by decide +kernel
theorem dX2_isBare_48 : decode cX2_isBare 48 = .ok (.iconst 0, 1) := by decide +kernel
theorem dX2_isBare_49 : decode cX2_isBare 49 = .ok (.ireturn, 1) := by decide +kernel
set_option maxRecDepth 20000 in
theorem ggX2_isBreak_X2_isTwice : GoodIn wsX2_isBreak wsX2_isTwice := goodIn_r _ [5, 6, 7, 8, 9, 10, 39, 40, 41, 42, 43, 44, 45, 46, 47, 48, 49, 50, 51, 52, 53, 54, 55, 56, 57, 58, 59, 60, 61, 62, 63, 64, 65] (by decide +kernel) (by decide +kernel)
set_option maxRecDepth 20000 in
theorem gX2_isBreak_X2_isTwice : GoodIn wsX2_isBreak (wsV RX2 105 RX2 yX2_isTwice wsX2_isTwice) := goodIn_app (goodIn_of _ (by decide +kernel)) ggX2_isBreak_X2_isTwice
set_option maxRecDepth 20000 in
theorem ggX2_isBreak_X2_isLock : GoodIn wsX2_isBreak wsX2_isLock := goodIn_r _ [14, 6, 7, 9, 8, 10, 15, 16, 17, 4, 18, 19, 20, 21, 22, 23, 24, 25, 26, 27, 28, 29, 30, 31, 32, 33, 34, 39, 40, 41, 42, 43, 44, 45, 46, 47, 48, 49, 50, 51, 52, 53, 54, 55, 56, 57, 58, 59, 60, 61, 62, 63, 64, 65] (by decide +kernel) (by decide +kernel)
set_option maxRecDepth 20000 in
theorem gX2_isBreak_X2_isLock : GoodIn wsX2_isBreak (wsV RX2 108 RX2 yX2_isLock wsX2_isLock) := goodIn_app (goodIn_of _ (by decide +kernel)) ggX2_isBreak_X2_isLock
set_option maxRecDepth 20000 in
theorem ggX2_isBreak_X2_isBare : GoodIn wsX2_isBreak wsX2_isBare := goodIn_r _ [38, 9, 10, 7, 8, 15, 16, 17, 4, 18, 19, 20, 21, 22, 23, 24, 25, 26, 27, 28, 29, 30, 31, 32, 33, 34, 39, 40, 41, 42, 43, 44, 45, 46, 47, 48, 49, 50, 51, 52, 53, 54, 55, 56, 57, 58, 59, 60, 61, 62, 63, 64, 65] (by decide +kernel) (by decide +kernel)
set_option maxRecDepth 20000 in
theorem gX2_isBreak_X2_isBare : GoodIn wsX2_isBreak (wsV RX2 111 RX2 yX2_isBare wsX2_isBare) := goodIn_app (goodIn_of _ (by decide +kernel)) ggX2_isBreak_X2_isBare
theorem dX2_isBreak_0 : decode cX2_isBreak 0 = .ok (.iload_n 1, 1) := by decide +kernel
theorem dX2_isBreak_1 : decode cX2_isBreak 1 = .ok (.ifCond .ne 10, 3) := by decide +kernel
end
section
theorem dX2_isBreak_4 : decode cX2_isBreak 4 = .ok (.aload_n 0, 1) := by decide +kernel
theorem dX2_isBreak_5 : decode cX2_isBreak 5 = .ok (.iload_n 2, 1) := by decide +kernel
theorem dX2_isBreak_6 : decode cX2_isBreak 6 = .ok (.iload_n 3, 1) := by decide +kernel
theorem dX2_isBreak_7 : decode cX2_isBreak 7 = .ok (.invokevirtual 105, 3) := by decide +kernel
theorem dX2_isBreak_10 : decode cX2_isBreak 10 = .ok (.ireturn, 1) := by decide +kernel
theorem dX2_isBreak_11 : decode cX2_isBreak 11 = .ok (.iload_n 1, 1) := by decide +kernel
theorem dX2_isBreak_12 : decode cX2_isBreak 12 = .ok (.iconst 1, 1) := by decide +kernel
theorem dX2_isBreak_13 : decode cX2_isBreak 13 = .ok (.if_icmp .ne 12, 3) := by decide +kernel
theorem dX2_isBreak_16 : decode cX2_isBreak 16 = .ok (.aload_n 0, 1) := by decide +kernel
theorem dX2_isBreak_17 : decode cX2_isBreak 17 = .ok (.iload_n 2, 1) := by decide +kernel
theorem dX2_isBreak_18 : decode cX2_isBreak 18 = .ok (.iload_n 3, 1) := by decide +kernel
theorem dX2_isBreak_19 : decode cX2_isBreak 19 = .ok (.invokevirtual 108, 3) := by decide +kernel
theorem dX2_isBreak_22 : decode cX2_isBreak 22 = .ok (.goto 21, 3) := by decide +kernel
theorem dX2_isBreak_25 : decode cX2_isBreak 25 = .ok (.iload_n 2, 1) := by decide +kernel
theorem dX2_isBreak_26 : decode cX2_isBreak 26 = .ok (.iload_n 3, 1) := by decide +kernel
theorem dX2_isBreak_27 : decode cX2_isBreak 27 = .ok (.if_icmp .ne 15, 3) := by decide +kernel
theorem dX2_isBreak_30 : decode cX2_isBreak 30 = .ok (.aload_n 0, 1) := by decide +kernel
theorem dX2_isBreak_31 : decode cX2_isBreak 31 = .ok (.iload_n 2, 1) := by decide +kernel
theorem dX2_isBreak_32 : decode cX2_isBreak 32 = .ok (.invokevirtual 111, 3) := by decide +kernel
theorem dX2_isBreak_35 : decode cX2_isBreak 35 = .ok (.ifCond .eq 7, 3) := by decide +kernel
theorem dX2_isBreak_38 : decode cX2_isBreak 38 = .ok (.iconst 1, 1) := by decide +kernel
theorem dX2_isBreak_39 : decode cX2_isBreak 39 = .ok (.goto 4, 3) := by decide +kernel
theorem dX2_isBreak_42 : decode cX2_isBreak 42 = .ok (.iconst 0, 1) := by decide +kernel
theorem dX2_isBreak_43 : decode cX2_isBreak 43 = .ok (.ireturn, 1) := by decide +kernel
set_option maxRecDepth 20000 in
theorem ggX2_node_X2_in : GoodIn wsX2_node wsX2_in := goodIn_r _ [7] (by decide +kernel) (by decide +kernel)
set_option maxRecDepth 20000 in
theorem gX2_node_X2_in : GoodIn wsX2_node (va_wsS RX2 117 yX2_in wsX2_in) := goodIn_app (goodIn_of _ (by decide +kernel)) ggX2_node_X2_in
theorem dX2_node_0 : decode cX2_node 0 = .ok (.lload_n 1, 1) := by decide +kernel
theorem dX2_node_1 : decode cX2_node 1 = .ok (.lconst 1, 1) := by decide +kernel
theorem dX2_node_2 : decode cX2_node 2 = .ok (.ldc2_w 115, 3) := by decide +kernel
theorem dX2_node_5 : decode cX2_node 5 = .ok (.invokestatic 117, 3) := by decide +kernel
theorem dX2_node_8 : decode cX2_node 8 = .ok (.ifCond .ne 6, 3) := by decide +kernel
theorem dX2_node_11 : decode cX2_node 11 = .ok (.bipush (-102), 2) := by decide +kernel
theorem dX2_node_13 : decode cX2_node 13 = .ok (.ireturn, 1) := by decide +kernel
theorem dX2_node_14 : decode cX2_node 14 = .ok (.aload_n 0, 1) := by decide +kernel
theorem dX2_node_15 : decode cX2_node 15 = .ok (.getfield 76, 3) := by decide +kernel
theorem dX2_node_18 : decode cX2_node 18 = .ok (.bipush 8, 2) := by decide +kernel
theorem dX2_node_20 : decode cX2_node 20 = .ok (.if_icmp .ne 6, 3) := by decide +kernel
theorem dX2_node_23 : decode cX2_node 23 = .ok (.bipush (-104), 2) := by decide +kernel
theorem dX2_node_25 : decode cX2_node 25 = .ok (.ireturn, 1) := by decide +kernel
theorem dX2_node_26 : decode cX2_node 26 = .ok (.aload_n 0, 1) := by decide +kernel
theorem dX2_node_27 : decode cX2_node 27 = .ok (.getfield 7, 3) := by decide +kernel
theorem dX2_node_30 : decode cX2_node 30 = .ok (.aload_n 0, 1) := by decide +kernel
theorem dX2_node_31 : decode cX2_node 31 = .ok (.getfield 76, 3) := by decide +kernel
theorem dX2_node_34 : decode cX2_node 34 = .ok (.lload_n 1, 1) := by decide +kernel
theorem dX2_node_35 : decode cX2_node 35 = .ok (.lastore, 1) := by decide +kernel
theorem dX2_node_36 : decode cX2_node 36 = .ok (.aload_n 0, 1) := by decide +kernel
theorem dX2_node_37 : decode cX2_node 37 = .ok (.dup, 1) := by decide +kernel
theorem dX2_node_38 : decode cX2_node 38 = .ok (.getfield 76, 3) := by decide +kernel
theorem dX2_node_41 : decode cX2_node 41 = .ok (.iconst 1, 1) := by decide +kernel
theorem dX2_node_42 : decode cX2_node 42 = .ok (.iadd, 1) := by decide +kernel
theorem dX2_node_43 : decode cX2_node 43 = .ok (.putfield 76, 3) := by decide +kernel
theorem dX2_node_46 : decode cX2_node 46 = .ok (.aload_n 0, 1) := by decide +kernel
theorem dX2_node_47 : decode cX2_node 47 = .ok (.getfield 76, 3) := by decide +kernel
theorem dX2_node_50 : decode cX2_node 50 = .ok (.iconst 1, 1) := by decide +kernel
theorem dX2_node_51 : decode cX2_node 51 = .ok (.isub, 1) := by decide +kernel
theorem dX2_node_52 : decode cX2_node 52 = .ok (.ireturn, 1) := by decide +kernel
set_option maxRecDepth 20000 in
theorem ggX2_add_X2_isNode : GoodIn wsX2_add wsX2_isNode := goodIn_r _ [9, 10, 14, 15, 16, 17, 18, 19, 20, 21, 22, 23, 24, 25, 26, 27, 28, 29, 30, 31, 32, 33, 34, 35, 36, 37, 38, 39, 40] (by decide +kernel) (by decide +kernel)
set_option maxRecDepth 20000 in
theorem gX2_add_X2_isNode : GoodIn wsX2_add (wsV RX2 121 RX2 yX2_isNode wsX2_isNode) := goodIn_app (goodIn_of _ (by decide +kernel)) ggX2_add_X2_isNode
set_option maxRecDepth 20000 in
theorem ggX2_add_X2_in : GoodIn wsX2_add wsX2_in := goodIn_r _ [13] (by decide +kernel) (by decide +kernel)
set_option maxRecDepth 20000 in
theorem gX2_add_X2_in : GoodIn wsX2_add (va_wsS RX2 117 yX2_in wsX2_in) := goodIn_app (goodIn_of _ (by decide +kernel)) ggX2_add_X2_in
theorem dX2_add_0 : decode cX2_add 0 = .ok (.aload_n 0, 1) := by decide +kernel
theorem dX2_add_1 : decode cX2_add 1 = .ok (.iload_n 1, 1) := by decide +kernel
theorem dX2_add_2 : decode cX2_add 2 = .ok (.invokevirtual 121, 3) := by decide +kernel
theorem dX2_add_5 : decode cX2_add 5 = .ok (.ifCond .ne 7, 3) := by decide +kernel
theorem dX2_add_8 : decode cX2_add 8 = .ok (.ldc2_w 124, 3) := by decide +kernel
theorem dX2_add_11 : decode cX2_add 11 = .ok (.lreturn, 1) := by decide +kernel
theorem dX2_add_12 : decode cX2_add 12 = .ok (.lload_n 2, 1) := by decide +kernel
theorem dX2_add_13 : decode cX2_add 13 = .ok (.lconst 1, 1) := by decide +kernel
theorem dX2_add_14 : decode cX2_add 14 = .ok (.ldc2_w 115, 3) := by decide +kernel
theorem dX2_add_17 : decode cX2_add 17 = .ok (.invokestatic 117, 3) := by decide +kernel
theorem dX2_add_20 : decode cX2_add 20 = .ok (.ifCond .eq 18, 3) := by decide +kernel
theorem dX2_add_23 : decode cX2_add 23 = .ok (.aload_n 0, 1) := by decide +kernel
theorem dX2_add_24 : decode cX2_add 24 = .ok (.getfield 7, 3) := by decide +kernel
theorem dX2_add_27 : decode cX2_add 27 = .ok (.iload_n 1, 1) := by decide +kernel
theorem dX2_add_28 : decode cX2_add 28 = .ok (.laload, 1) := by decide +kernel
theorem dX2_add_29 : decode cX2_add 29 = .ok (.lload_n 2, 1) := by decide +kernel
theorem dX2_add_30 : decode cX2_add 30 = .ok (.ladd, 1) := by decide +kernel
theorem dX2_add_31 : decode cX2_add 31 = .ok (.ldc2_w 115, 3) := by decide +kernel
theorem dX2_add_34 : decode cX2_add 34 = .ok (.lcmp, 1) := by decide +kernel
theorem dX2_add_35 : decode cX2_add 35 = .ok (.ifCond .le 7, 3) := by decide +kernel
theorem dX2_add_38 : decode cX2_add 38 = .ok (.ldc2_w 126, 3) := by decide +kernel
theorem dX2_add_41 : decode cX2_add 41 = .ok (.lreturn, 1) := by decide +kernel
theorem dX2_add_42 : decode cX2_add 42 = .ok (.aload_n 0, 1) := by decide +kernel
theorem dX2_add_43 : decode cX2_add 43 = .ok (.getfield 7, 3) := by decide +kernel
theorem dX2_add_46 : decode cX2_add 46 = .ok (.iload_n 1, 1) := by decide +kernel
theorem dX2_add_47 : decode cX2_add 47 = .ok (.dup2, 1) := by decide +kernel
theorem dX2_add_48 : decode cX2_add 48 = .ok (.laload, 1) := by decide +kernel
theorem dX2_add_49 : decode cX2_add 49 = .ok (.lload_n 2, 1) := by decide +kernel
theorem dX2_add_50 : decode cX2_add 50 = .ok (.ladd, 1) := by decide +kernel
theorem dX2_add_51 : decode cX2_add 51 = .ok (.lastore, 1) := by decide +kernel
theorem dX2_add_52 : decode cX2_add 52 = .ok (.aload_n 0, 1) := by decide +kernel
theorem dX2_add_53 : decode cX2_add 53 = .ok (.getfield 7, 3) := by decide +kernel
theorem dX2_add_56 : decode cX2_add 56 = .ok (.iload_n 1, 1) := by decide +kernel
theorem dX2_add_57 : decode cX2_add 57 = .ok (.laload, 1) := by decide +kernel
theorem dX2_add_58 : decode cX2_add 58 = .ok (.lreturn, 1) := by decide +kernel
theorem dX2_next_0 : decode cX2_next 0 = .ok (.aload_n 0, 1) := by decide +kernel
theorem dX2_next_1 : decode cX2_next 1 = .ok (.getfield 82, 3) := by decide +kernel
theorem dX2_next_4 : decode cX2_next 4 = .ok (.bipush 40, 2) := by decide +kernel
theorem dX2_next_6 : decode cX2_next 6 = .ok (.if_icmp .ne 6, 3) := by decide +kernel
theorem dX2_next_9 : decode cX2_next 9 = .ok (.bipush (-104), 2) := by decide +kernel
theorem dX2_next_11 : decode cX2_next 11 = .ok (.ireturn, 1) := by decide +kernel
theorem dX2_next_12 : decode cX2_next 12 = .ok (.aload_n 0, 1) := by decide +kernel
theorem dX2_next_13 : decode cX2_next 13 = .ok (.dup, 1) := by decide +kernel
theorem dX2_next_14 : decode cX2_next 14 = .ok (.getfield 82, 3) := by decide +kernel
theorem dX2_next_17 : decode cX2_next 17 = .ok (.iconst 1, 1) := by decide +kernel
theorem dX2_next_18 : decode cX2_next 18 = .ok (.iadd, 1) := by decide +kernel
theorem dX2_next_19 : decode cX2_next 19 = .ok (.putfield 82, 3) := by decide +kernel
theorem dX2_next_22 : decode cX2_next 22 = .ok (.iconst 0, 1) := by decide +kernel
theorem dX2_next_23 : decode cX2_next 23 = .ok (.istore_n 1, 1) := by decide +kernel
theorem dX2_next_24 : decode cX2_next 24 = .ok (.iload_n 1, 1) := by decide +kernel
theorem dX2_next_25 : decode cX2_next 25 = .ok (.aload_n 0, 1) := by decide +kernel
theorem dX2_next_26 : decode cX2_next 26 = .ok (.getfield 76, 3) := by decide +kernel
theorem dX2_next_29 : decode cX2_next 29 = .ok (.if_icmp .ge 57, 3) := by decide +kernel
theorem dX2_next_32 : decode cX2_next 32 = .ok (.aload_n 0, 1) := by decide +kernel
theorem dX2_next_33 : decode cX2_next 33 = .ok (.getfield 16, 3) := by decide +kernel
theorem dX2_next_36 : decode cX2_next 36 = .ok (.iload_n 1, 1) := by decide +kernel
theorem dX2_next_37 : decode cX2_next 37 = .ok (.baload, 1) := by decide +kernel
theorem dX2_next_38 : decode cX2_next 38 = .ok (.ifCond .eq 7, 3) := by decide +kernel
theorem dX2_next_41 : decode cX2_next 41 = .ok (.lconst 0, 1) := by decide +kernel
theorem dX2_next_42 : decode cX2_next 42 = .ok (.goto 9, 3) := by decide +kernel
theorem dX2_next_45 : decode cX2_next 45 = .ok (.aload_n 0, 1) := by decide +kernel
theorem dX2_next_46 : decode cX2_next 46 = .ok (.getfield 7, 3) := by decide +kernel
theorem dX2_next_49 : decode cX2_next 49 = .ok (.iload_n 1, 1) := by decide +kernel
theorem dX2_next_50 : decode cX2_next 50 = .ok (.laload, 1) := by decide +kernel
theorem dX2_next_51 : decode cX2_next 51 = .ok (.lstore_n 2, 1) := by decide +kernel
theorem dX2_next_52 : decode cX2_next 52 = .ok (.aload_n 0, 1) := by decide +kernel
theorem dX2_next_53 : decode cX2_next 53 = .ok (.getfield 20, 3) := by decide +kernel
theorem dX2_next_56 : decode cX2_next 56 = .ok (.bipush 8, 2) := by decide +kernel
theorem dX2_next_58 : decode cX2_next 58 = .ok (.aload_n 0, 1) := by decide +kernel
theorem dX2_next_59 : decode cX2_next 59 = .ok (.getfield 82, 3) := by decide +kernel
theorem dX2_next_62 : decode cX2_next 62 = .ok (.imul, 1) := by decide +kernel
theorem dX2_next_63 : decode cX2_next 63 = .ok (.iload_n 1, 1) := by decide +kernel
theorem dX2_next_64 : decode cX2_next 64 = .ok (.iadd, 1) := by decide +kernel
theorem dX2_next_65 : decode cX2_next 65 = .ok (.lload_n 2, 1) := by decide +kernel
theorem dX2_next_66 : decode cX2_next 66 = .ok (.lastore, 1) := by decide +kernel
theorem dX2_next_67 : decode cX2_next 67 = .ok (.aload_n 0, 1) := by decide +kernel
theorem dX2_next_68 : decode cX2_next 68 = .ok (.getfield 23, 3) := by decide +kernel
theorem dX2_next_71 : decode cX2_next 71 = .ok (.aload_n 0, 1) := by decide +kernel
theorem dX2_next_72 : decode cX2_next 72 = .ok (.getfield 82, 3) := by decide +kernel
theorem dX2_next_75 : decode cX2_next 75 = .ok (.dup2, 1) := by decide +kernel
theorem dX2_next_76 : decode cX2_next 76 = .ok (.laload, 1) := by decide +kernel
theorem dX2_next_77 : decode cX2_next 77 = .ok (.lload_n 2, 1) := by decide +kernel
theorem dX2_next_78 : decode cX2_next 78 = .ok (.ladd, 1) := by decide +kernel
theorem dX2_next_79 : decode cX2_next 79 = .ok (.lastore, 1) := by decide +kernel
theorem dX2_next_80 : decode cX2_next 80 = .ok (.iinc 1 1, 3) := by decide +kernel
theorem dX2_next_83 : decode cX2_next 83 = .ok (.goto (-59), 3) := by decide +kernel
theorem dX2_next_86 : decode cX2_next 86 = .ok (.aload_n 0, 1) := by decide +kernel
theorem dX2_next_87 : decode cX2_next 87 = .ok (.getfield 82, 3) := by decide +kernel
theorem dX2_next_90 : decode cX2_next 90 = .ok (.ireturn, 1) := by decide +kernel
set_option maxRecDepth 20000 in
theorem ggX2_set_X2_in : GoodIn wsX2_set wsX2_in := goodIn_r _ [12] (by decide +kernel) (by decide +kernel)
set_option maxRecDepth 20000 in
theorem gX2_set_X2_in : GoodIn wsX2_set (va_wsS RX2 117 yX2_in wsX2_in) := goodIn_app (goodIn_of _ (by decide +kernel)) ggX2_set_X2_in
theorem dX2_set_0 : decode cX2_set 0 = .ok (.ldc2_w 126, 3) := by decide +kernel
theorem dX2_set_3 : decode cX2_set 3 = .ok (.lstore 4, 2) := by decide +kernel
theorem dX2_set_5 : decode cX2_set 5 = .ok (.iload_n 1, 1) := by decide +kernel
theorem dX2_set_6 : decode cX2_set 6 = .ok (.ifCond .lt 39, 3) := by decide +kernel
theorem dX2_set_9 : decode cX2_set 9 = .ok (.iload_n 1, 1) := by decide +kernel
theorem dX2_set_10 : decode cX2_set 10 = .ok (.iconst 2, 1) := by decide +kernel
theorem dX2_set_11 : decode cX2_set 11 = .ok (.if_icmp .gt 34, 3) := by decide +kernel
theorem dX2_set_14 : decode cX2_set 14 = .ok (.lload_n 2, 1) := by decide +kernel
theorem dX2_set_15 : decode cX2_set 15 = .ok (.lconst 0, 1) := by decide +kernel
theorem dX2_set_16 : decode cX2_set 16 = .ok (.ldc2_w 128, 3) := by decide +kernel
theorem dX2_set_19 : decode cX2_set 19 = .ok (.invokestatic 117, 3) := by decide +kernel
theorem dX2_set_22 : decode cX2_set 22 = .ok (.ifCond .eq 23, 3) := by decide +kernel
theorem dX2_set_25 : decode cX2_set 25 = .ok (.aload_n 0, 1) := by decide +kernel
theorem dX2_set_26 : decode cX2_set 26 = .ok (.getfield 45, 3) := by decide +kernel
theorem dX2_set_29 : decode cX2_set 29 = .ok (.iload_n 1, 1) := by decide +kernel
theorem dX2_set_30 : decode cX2_set 30 = .ok (.iaload, 1) := by decide +kernel
theorem dX2_set_31 : decode cX2_set 31 = .ok (.i2l, 1) := by decide +kernel
theorem dX2_set_32 : decode cX2_set 32 = .ok (.lstore 4, 2) := by decide +kernel
theorem dX2_set_34 : decode cX2_set 34 = .ok (.aload_n 0, 1) := by decide +kernel
theorem dX2_set_35 : decode cX2_set 35 = .ok (.getfield 45, 3) := by decide +kernel
theorem dX2_set_38 : decode cX2_set 38 = .ok (.iload_n 1, 1) := by decide +kernel
theorem dX2_set_39 : decode cX2_set 39 = .ok (.lload_n 2, 1) := by decide +kernel
theorem dX2_set_40 : decode cX2_set 40 = .ok (.l2i, 1) := by decide +kernel
theorem dX2_set_41 : decode cX2_set 41 = .ok (.iastore, 1) := by decide +kernel
theorem dX2_set_42 : decode cX2_set 42 = .ok (.goto 64, 3) := by decide +kernel
theorem dX2_set_45 : decode cX2_set 45 = .ok (.iload_n 1, 1) := by decide +kernel
theorem dX2_set_46 : decode cX2_set 46 = .ok (.iconst 3, 1) := by decide +kernel
theorem dX2_set_47 : decode cX2_set 47 = .ok (.if_icmp .ne 32, 3) := by decide +kernel
theorem dX2_set_50 : decode cX2_set 50 = .ok (.lload_n 2, 1) := by decide +kernel
theorem dX2_set_51 : decode cX2_set 51 = .ok (.ldc2_w 91, 3) := by decide +kernel
theorem dX2_set_54 : decode cX2_set 54 = .ok (.ldc2_w 130, 3) := by decide +kernel
theorem dX2_set_57 : decode cX2_set 57 = .ok (.invokestatic 117, 3) := by decide +kernel
theorem dX2_set_60 : decode cX2_set 60 = .ok (.ifCond .eq 19, 3) := by decide +kernel
theorem dX2_set_63 : decode cX2_set 63 = .ok (.aload_n 0, 1) := by decide +kernel
theorem dX2_set_64 : decode cX2_set 64 = .ok (.getfield 48, 3) := by decide +kernel
theorem dX2_set_67 : decode cX2_set 67 = .ok (.i2l, 1) := by decide +kernel
theorem dX2_set_68 : decode cX2_set 68 = .ok (.lstore 4, 2) := by decide +kernel
theorem dX2_set_70 : decode cX2_set 70 = .ok (.aload_n 0, 1) := by decide +kernel
theorem dX2_set_71 : decode cX2_set 71 = .ok (.lload_n 2, 1) := by decide +kernel
theorem dX2_set_72 : decode cX2_set 72 = .ok (.l2i, 1) := by decide +kernel
theorem dX2_set_73 : decode cX2_set 73 = .ok (.putfield 48, 3) := by decide +kernel
theorem dX2_set_76 : decode cX2_set 76 = .ok (.goto 30, 3) := by decide +kernel
theorem dX2_set_79 : decode cX2_set 79 = .ok (.iload_n 1, 1) := by decide +kernel
theorem dX2_set_80 : decode cX2_set 80 = .ok (.iconst 4, 1) := by decide +kernel
theorem dX2_set_81 : decode cX2_set 81 = .ok (.if_icmp .ne 25, 3) := by decide +kernel
theorem dX2_set_84 : decode cX2_set 84 = .ok (.lload_n 2, 1) := by decide +kernel
theorem dX2_set_85 : decode cX2_set 85 = .ok (.lconst 0, 1) := by decide +kernel
theorem dX2_set_86 : decode cX2_set 86 = .ok (.ldc2_w 115, 3) := by decide +kernel
theorem dX2_set_89 : decode cX2_set 89 = .ok (.invokestatic 117, 3) := by decide +kernel
theorem dX2_set_92 : decode cX2_set 92 = .ok (.ifCond .eq 14, 3) := by decide +kernel
theorem dX2_set_95 : decode cX2_set 95 = .ok (.aload_n 0, 1) := by decide +kernel
theorem dX2_set_96 : decode cX2_set 96 = .ok (.getfield 132, 3) := by decide +kernel
theorem dX2_set_99 : decode cX2_set 99 = .ok (.lstore 4, 2) := by decide +kernel
theorem dX2_set_101 : decode cX2_set 101 = .ok (.aload_n 0, 1) := by decide +kernel
theorem dX2_set_102 : decode cX2_set 102 = .ok (.lload_n 2, 1) := by decide +kernel
theorem dX2_set_103 : decode cX2_set 103 = .ok (.putfield 132, 3) := by decide +kernel
theorem dX2_set_106 : decode cX2_set 106 = .ok (.lload 4, 2) := by decide +kernel
theorem dX2_set_108 : decode cX2_set 108 = .ok (.lreturn, 1) := by decide +kernel
set_option maxRecDepth 20000 in
theorem ggX2_refusal_X2_isNode : GoodIn wsX2_refusal wsX2_isNode := goodIn_r _ [9, 10, 14, 15, 16, 17, 18, 19, 20, 21, 22, 23, 24, 25, 26, 27, 28, 29, 30, 31, 32, 33, 34, 35, 36, 37, 38, 39, 40] (by decide +kernel) (by decide +kernel)
set_option maxRecDepth 20000 in
theorem gX2_refusal_X2_isNode : GoodIn wsX2_refusal (wsV RX2 121 RX2 yX2_isNode wsX2_isNode) := goodIn_app (goodIn_of _ (by decide +kernel)) ggX2_refusal_X2_isNode
set_option maxRecDepth 20000 in
theorem ggX2_refusal_X2_in : GoodIn wsX2_refusal wsX2_in := goodIn_r _ [13] (by decide +kernel) (by decide +kernel)
set_option maxRecDepth 20000 in
theorem gX2_refusal_X2_in : GoodIn wsX2_refusal (va_wsS RX2 117 yX2_in wsX2_in) := goodIn_app (goodIn_of _ (by decide +kernel)) ggX2_refusal_X2_in
theorem dX2_refusal_0 : decode cX2_refusal 0 = .ok (.aload_n 0, 1) := by decide +kernel
theorem dX2_refusal_1 : decode cX2_refusal 1 = .ok (.iload_n 1, 1) := by decide +kernel
theorem dX2_refusal_2 : decode cX2_refusal 2 = .ok (.invokevirtual 121, 3) := by decide +kernel
theorem dX2_refusal_5 : decode cX2_refusal 5 = .ok (.ifCond .ne 6, 3) := by decide +kernel
theorem dX2_refusal_8 : decode cX2_refusal 8 = .ok (.bipush (-101), 2) := by decide +kernel
theorem dX2_refusal_10 : decode cX2_refusal 10 = .ok (.ireturn, 1) := by decide +kernel
theorem dX2_refusal_11 : decode cX2_refusal 11 = .ok (.iload_n 2, 1) := by decide +kernel
theorem dX2_refusal_12 : decode cX2_refusal 12 = .ok (.iconst 1, 1) := by decide +kernel
theorem dX2_refusal_13 : decode cX2_refusal 13 = .ok (.if_icmp .lt 57, 3) := by decide +kernel
theorem dX2_refusal_16 : decode cX2_refusal 16 = .ok (.iload_n 2, 1) := by decide +kernel
theorem dX2_refusal_17 : decode cX2_refusal 17 = .ok (.aload_n 0, 1) := by decide +kernel
theorem dX2_refusal_18 : decode cX2_refusal 18 = .ok (.getfield 82, 3) := by decide +kernel
theorem dX2_refusal_21 : decode cX2_refusal 21 = .ok (.if_icmp .eq 13, 3) := by decide +kernel
theorem dX2_refusal_24 : decode cX2_refusal 24 = .ok (.iload_n 2, 1) := by decide +kernel
theorem dX2_refusal_25 : decode cX2_refusal 25 = .ok (.aload_n 0, 1) := by decide +kernel
theorem dX2_refusal_26 : decode cX2_refusal 26 = .ok (.getfield 82, 3) := by decide +kernel
theorem dX2_refusal_29 : decode cX2_refusal 29 = .ok (.iconst 1, 1) := by decide +kernel
theorem dX2_refusal_30 : decode cX2_refusal 30 = .ok (.isub, 1) := by decide +kernel
theorem dX2_refusal_31 : decode cX2_refusal 31 = .ok (.if_icmp .ne 39, 3) := by decide +kernel
theorem dX2_refusal_34 : decode cX2_refusal 34 = .ok (.iload_n 3, 1) := by decide +kernel
theorem dX2_refusal_35 : decode cX2_refusal 35 = .ok (.i2l, 1) := by decide +kernel
theorem dX2_refusal_36 : decode cX2_refusal 36 = .ok (.lconst 0, 1) := by decide +kernel
theorem dX2_refusal_37 : decode cX2_refusal 37 = .ok (.ldc2_w 136, 3) := by decide +kernel
theorem dX2_refusal_40 : decode cX2_refusal 40 = .ok (.invokestatic 117, 3) := by decide +kernel
theorem dX2_refusal_43 : decode cX2_refusal 43 = .ok (.ifCond .eq 27, 3) := by decide +kernel
theorem dX2_refusal_46 : decode cX2_refusal 46 = .ok (.iload 4, 2) := by decide +kernel
theorem dX2_refusal_48 : decode cX2_refusal 48 = .ok (.i2l, 1) := by decide +kernel
theorem dX2_refusal_49 : decode cX2_refusal 49 = .ok (.lconst 0, 1) := by decide +kernel
theorem dX2_refusal_50 : decode cX2_refusal 50 = .ok (.lconst 1, 1) := by decide +kernel
theorem dX2_refusal_51 : decode cX2_refusal 51 = .ok (.invokestatic 117, 3) := by decide +kernel
theorem dX2_refusal_54 : decode cX2_refusal 54 = .ok (.ifCond .eq 16, 3) := by decide +kernel
theorem dX2_refusal_57 : decode cX2_refusal 57 = .ok (.iload 5, 2) := by decide +kernel
theorem dX2_refusal_59 : decode cX2_refusal 59 = .ok (.i2l, 1) := by decide +kernel
theorem dX2_refusal_60 : decode cX2_refusal 60 = .ok (.lconst 0, 1) := by decide +kernel
theorem dX2_refusal_61 : decode cX2_refusal 61 = .ok (.ldc2_w 138, 3) := by decide +kernel
theorem dX2_refusal_64 : decode cX2_refusal 64 = .ok (.invokestatic 117, 3) := by decide +kernel
theorem dX2_refusal_67 : decode cX2_refusal 67 = .ok (.ifCond .ne 6, 3) := by decide +kernel
theorem dX2_refusal_70 : decode cX2_refusal 70 = .ok (.bipush (-102), 2) := by decide +kernel
theorem dX2_refusal_72 : decode cX2_refusal 72 = .ok (.ireturn, 1) := by decide +kernel
theorem dX2_refusal_73 : decode cX2_refusal 73 = .ok (.aload_n 0, 1) := by decide +kernel
theorem dX2_refusal_74 : decode cX2_refusal 74 = .ok (.getfield 20, 3) := by decide +kernel
theorem dX2_refusal_77 : decode cX2_refusal 77 = .ok (.bipush 8, 2) := by decide +kernel
theorem dX2_refusal_79 : decode cX2_refusal 79 = .ok (.iload_n 2, 1) := by decide +kernel
theorem dX2_refusal_80 : decode cX2_refusal 80 = .ok (.imul, 1) := by decide +kernel
theorem dX2_refusal_81 : decode cX2_refusal 81 = .ok (.iload_n 1, 1) := by decide +kernel
theorem dX2_refusal_82 : decode cX2_refusal 82 = .ok (.iadd, 1) := by decide +kernel
theorem dX2_refusal_83 : decode cX2_refusal 83 = .ok (.laload, 1) := by decide +kernel
theorem dX2_refusal_84 : decode cX2_refusal 84 = .ok (.lconst 0, 1) := by decide +kernel
theorem dX2_refusal_85 : decode cX2_refusal 85 = .ok (.lcmp, 1) := by decide +kernel
theorem dX2_refusal_86 : decode cX2_refusal 86 = .ok (.ifCond .ne 8, 3) := by decide +kernel
theorem dX2_refusal_89 : decode cX2_refusal 89 = .ok (.bipush (-103), 2) := by decide +kernel
theorem dX2_refusal_91 : decode cX2_refusal 91 = .ok (.goto 4, 3) := by decide +kernel
theorem dX2_refusal_94 : decode cX2_refusal 94 = .ok (.iconst 0, 1) := by decide +kernel
theorem dX2_refusal_95 : decode cX2_refusal 95 = .ok (.ireturn, 1) := by decide +kernel
theorem dX2_find_0 : decode cX2_find 0 = .ok (.iconst 0, 1) := by decide +kernel
theorem dX2_find_1 : decode cX2_find 1 = .ok (.istore 6, 2) := by decide +kernel
theorem dX2_find_3 : decode cX2_find 3 = .ok (.iload 6, 2) := by decide +kernel
theorem dX2_find_5 : decode cX2_find 5 = .ok (.aload_n 0, 1) := by decide +kernel
theorem dX2_find_6 : decode cX2_find 6 = .ok (.getfield 79, 3) := by decide +kernel
theorem dX2_find_9 : decode cX2_find 9 = .ok (.if_icmp .ge 69, 3) := by decide +kernel
theorem dX2_find_12 : decode cX2_find 12 = .ok (.aload_n 0, 1) := by decide +kernel
theorem dX2_find_13 : decode cX2_find 13 = .ok (.getfield 26, 3) := by decide +kernel
theorem dX2_find_16 : decode cX2_find 16 = .ok (.iload 6, 2) := by decide +kernel
theorem dX2_find_18 : decode cX2_find 18 = .ok (.iaload, 1) := by decide +kernel
theorem dX2_find_19 : decode cX2_find 19 = .ok (.iload_n 1, 1) := by decide +kernel
theorem dX2_find_20 : decode cX2_find 20 = .ok (.if_icmp .ne 52, 3) := by decide +kernel
theorem dX2_find_23 : decode cX2_find 23 = .ok (.aload_n 0, 1) := by decide +kernel
theorem dX2_find_24 : decode cX2_find 24 = .ok (.getfield 30, 3) := by decide +kernel
theorem dX2_find_27 : decode cX2_find 27 = .ok (.iload 6, 2) := by decide +kernel
theorem dX2_find_29 : decode cX2_find 29 = .ok (.iaload, 1) := by decide +kernel
theorem dX2_find_30 : decode cX2_find 30 = .ok (.iload_n 2, 1) := by decide +kernel
theorem dX2_find_31 : decode cX2_find 31 = .ok (.if_icmp .ne 41, 3) := by decide +kernel
theorem dX2_find_34 : decode cX2_find 34 = .ok (.aload_n 0, 1) := by decide +kernel
theorem dX2_find_35 : decode cX2_find 35 = .ok (.getfield 33, 3) := by decide +kernel
theorem dX2_find_38 : decode cX2_find 38 = .ok (.iload 6, 2) := by decide +kernel
theorem dX2_find_40 : decode cX2_find 40 = .ok (.iaload, 1) := by decide +kernel
theorem dX2_find_41 : decode cX2_find 41 = .ok (.iload_n 3, 1) := by decide +kernel
theorem dX2_find_42 : decode cX2_find 42 = .ok (.if_icmp .ne 30, 3) := by decide +kernel
theorem dX2_find_45 : decode cX2_find 45 = .ok (.aload_n 0, 1) := by decide +kernel
theorem dX2_find_46 : decode cX2_find 46 = .ok (.getfield 36, 3) := by decide +kernel
theorem dX2_find_49 : decode cX2_find 49 = .ok (.iload 6, 2) := by decide +kernel
theorem dX2_find_51 : decode cX2_find 51 = .ok (.iaload, 1) := by decide +kernel
theorem dX2_find_52 : decode cX2_find 52 = .ok (.iload 4, 2) := by decide +kernel
theorem dX2_find_54 : decode cX2_find 54 = .ok (.if_icmp .ne 18, 3) := by decide +kernel
theorem dX2_find_57 : decode cX2_find 57 = .ok (.aload_n 0, 1) := by decide +kernel
theorem dX2_find_58 : decode cX2_find 58 = .ok (.getfield 39, 3) := by decide +kernel
theorem dX2_find_61 : decode cX2_find 61 = .ok (.iload 6, 2) := by decide +kernel
theorem dX2_find_63 : decode cX2_find 63 = .ok (.iaload, 1) := by decide +kernel
theorem dX2_find_64 : decode cX2_find 64 = .ok (.iload 5, 2) := by decide +kernel
theorem dX2_find_66 : decode cX2_find 66 = .ok (.if_icmp .ne 6, 3) := by decide +kernel
theorem dX2_find_69 : decode cX2_find 69 = .ok (.iload 6, 2) := by decide +kernel
theorem dX2_find_71 : decode cX2_find 71 = .ok (.ireturn, 1) := by decide +kernel
theorem dX2_find_72 : decode cX2_find 72 = .ok (.iinc 6 1, 3) := by decide +kernel
theorem dX2_find_75 : decode cX2_find 75 = .ok (.goto (-72), 3) := by decide +kernel
theorem dX2_find_78 : decode cX2_find 78 = .ok (.iconst (-1), 1) := by decide +kernel
theorem dX2_find_79 : decode cX2_find 79 = .ok (.ireturn, 1) := by decide +kernel
set_option maxRecDepth 20000 in
theorem ggX2_vote_X2_refusal : GoodIn wsX2_vote wsX2_refusal := goodIn_r _ [12, 13, 14, 15, 16, 17, 18, 19, 11, 20, 21, 22, 23, 24, 32, 33, 34, 35, 36, 37, 38, 39, 40, 41, 42, 43, 44, 45, 46, 47, 48, 49, 50, 51, 52, 53, 54, 55, 56, 57, 58] (by decide +kernel) (by decide +kernel)
set_option maxRecDepth 20000 in
theorem gX2_vote_X2_refusal : GoodIn wsX2_vote (wsV RX2 140 RX2 yX2_refusal wsX2_refusal) := goodIn_app (goodIn_of _ (by decide +kernel)) ggX2_vote_X2_refusal
set_option maxRecDepth 20000 in
theorem ggX2_vote_X2_find : GoodIn wsX2_vote wsX2_find := goodIn_r _ [28, 1, 2, 3, 4, 5, 6, 32, 33, 34, 35, 36, 37, 38, 39, 40, 41, 42, 43, 44, 45, 46, 47, 48, 49, 50, 51, 52, 53, 54, 55, 56, 57, 58] (by decide +kernel) (by decide +kernel)
set_option maxRecDepth 20000 in
theorem gX2_vote_X2_find : GoodIn wsX2_vote (wsV RX2 144 RX2 yX2_find wsX2_find) := goodIn_app (goodIn_of _ (by decide +kernel)) ggX2_vote_X2_find
set_option maxRecDepth 20000 in
theorem ggX2_vote_X2_place : GoodIn wsX2_vote wsX2_place := goodIn_r _ [31] (by decide +kernel) (by decide +kernel)
set_option maxRecDepth 20000 in
theorem gX2_vote_X2_place : GoodIn wsX2_vote (va_wsS RX2 93 yX2_place wsX2_place) := goodIn_app (goodIn_of _ (by decide +kernel)) ggX2_vote_X2_place
theorem dX2_vote_0 : decode cX2_vote 0 = .ok (.aload_n 0, 1) := by decide +kernel
theorem dX2_vote_1 : decode cX2_vote 1 = .ok (.iload_n 1, 1) := by decide +kernel
theorem dX2_vote_2 : decode cX2_vote 2 = .ok (.iload_n 2, 1) := by decide +kernel
theorem dX2_vote_3 : decode cX2_vote 3 = .ok (.iload_n 3, 1) := by decide +kernel
theorem dX2_vote_4 : decode cX2_vote 4 = .ok (.iload 4, 2) := by decide +kernel
theorem dX2_vote_6 : decode cX2_vote 6 = .ok (.iload 5, 2) := by decide +kernel
theorem dX2_vote_8 : decode cX2_vote 8 = .ok (.invokevirtual 140, 3) := by decide +kernel
theorem dX2_vote_11 : decode cX2_vote 11 = .ok (.istore 6, 2) := by decide +kernel
theorem dX2_vote_13 : decode cX2_vote 13 = .ok (.iload 6, 2) := by decide +kernel
theorem dX2_vote_15 : decode cX2_vote 15 = .ok (.ifCond .eq 6, 3) := by decide +kernel
theorem dX2_vote_18 : decode cX2_vote 18 = .ok (.iload 6, 2) := by decide +kernel
theorem dX2_vote_20 : decode cX2_vote 20 = .ok (.ireturn, 1) := by decide +kernel
theorem dX2_vote_21 : decode cX2_vote 21 = .ok (.aload_n 0, 1) := by decide +kernel
theorem dX2_vote_22 : decode cX2_vote 22 = .ok (.iload_n 1, 1) := by decide +kernel
theorem dX2_vote_23 : decode cX2_vote 23 = .ok (.iload_n 2, 1) := by decide +kernel
theorem dX2_vote_24 : decode cX2_vote 24 = .ok (.iload_n 3, 1) := by decide +kernel
theorem dX2_vote_25 : decode cX2_vote 25 = .ok (.iload 4, 2) := by decide +kernel
theorem dX2_vote_27 : decode cX2_vote 27 = .ok (.iload 5, 2) := by decide +kernel
theorem dX2_vote_29 : decode cX2_vote 29 = .ok (.invokevirtual 144, 3) := by decide +kernel
theorem dX2_vote_32 : decode cX2_vote 32 = .ok (.istore 7, 2) := by decide +kernel
theorem dX2_vote_34 : decode cX2_vote 34 = .ok (.iload 7, 2) := by decide +kernel
theorem dX2_vote_36 : decode cX2_vote 36 = .ok (.ifCond .lt 6, 3) := by decide +kernel
theorem dX2_vote_39 : decode cX2_vote 39 = .ok (.iload 7, 2) := by decide +kernel
theorem dX2_vote_41 : decode cX2_vote 41 = .ok (.ireturn, 1) := by decide +kernel
theorem dX2_vote_42 : decode cX2_vote 42 = .ok (.aload_n 0, 1) := by decide +kernel
theorem dX2_vote_43 : decode cX2_vote 43 = .ok (.getfield 79, 3) := by decide +kernel
theorem dX2_vote_46 : decode cX2_vote 46 = .ok (.sipush 300, 3) := by decide +kernel
theorem dX2_vote_49 : decode cX2_vote 49 = .ok (.if_icmp .ne 6, 3) := by decide +kernel
theorem dX2_vote_52 : decode cX2_vote 52 = .ok (.bipush (-104), 2) := by decide +kernel
theorem dX2_vote_54 : decode cX2_vote 54 = .ok (.ireturn, 1) := by decide +kernel
theorem dX2_vote_55 : decode cX2_vote 55 = .ok (.aload_n 0, 1) := by decide +kernel
theorem dX2_vote_56 : decode cX2_vote 56 = .ok (.getfield 26, 3) := by decide +kernel
theorem dX2_vote_59 : decode cX2_vote 59 = .ok (.aload_n 0, 1) := by decide +kernel
theorem dX2_vote_60 : decode cX2_vote 60 = .ok (.getfield 79, 3) := by decide +kernel
theorem dX2_vote_63 : decode cX2_vote 63 = .ok (.iload_n 1, 1) := by decide +kernel
theorem dX2_vote_64 : decode cX2_vote 64 = .ok (.iastore, 1) := by decide +kernel
theorem dX2_vote_65 : decode cX2_vote 65 = .ok (.aload_n 0, 1) := by decide +kernel
theorem dX2_vote_66 : decode cX2_vote 66 = .ok (.getfield 30, 3) := by decide +kernel
theorem dX2_vote_69 : decode cX2_vote 69 = .ok (.aload_n 0, 1) := by decide +kernel
theorem dX2_vote_70 : decode cX2_vote 70 = .ok (.getfield 79, 3) := by decide +kernel
theorem dX2_vote_73 : decode cX2_vote 73 = .ok (.iload_n 2, 1) := by decide +kernel
theorem dX2_vote_74 : decode cX2_vote 74 = .ok (.iastore, 1) := by decide +kernel
theorem dX2_vote_75 : decode cX2_vote 75 = .ok (.aload_n 0, 1) := by decide +kernel
theorem dX2_vote_76 : decode cX2_vote 76 = .ok (.getfield 33, 3) := by decide +kernel
theorem dX2_vote_79 : decode cX2_vote 79 = .ok (.aload_n 0, 1) := by decide +kernel
theorem dX2_vote_80 : decode cX2_vote 80 = .ok (.getfield 79, 3) := by decide +kernel
theorem dX2_vote_83 : decode cX2_vote 83 = .ok (.iload_n 3, 1) := by decide +kernel
theorem dX2_vote_84 : decode cX2_vote 84 = .ok (.iastore, 1) := by decide +kernel
theorem dX2_vote_85 : decode cX2_vote 85 = .ok (.aload_n 0, 1) := by decide +kernel
theorem dX2_vote_86 : decode cX2_vote 86 = .ok (.getfield 36, 3) := by decide +kernel
theorem dX2_vote_89 : decode cX2_vote 89 = .ok (.aload_n 0, 1) := by decide +kernel
theorem dX2_vote_90 : decode cX2_vote 90 = .ok (.getfield 79, 3) := by decide +kernel
theorem dX2_vote_93 : decode cX2_vote 93 = .ok (.iload 4, 2) := by decide +kernel
theorem dX2_vote_95 : decode cX2_vote 95 = .ok (.iastore, 1) := by decide +kernel
theorem dX2_vote_96 : decode cX2_vote 96 = .ok (.aload_n 0, 1) := by decide +kernel
theorem dX2_vote_97 : decode cX2_vote 97 = .ok (.getfield 39, 3) := by decide +kernel
theorem dX2_vote_100 : decode cX2_vote 100 = .ok (.aload_n 0, 1) := by decide +kernel
theorem dX2_vote_101 : decode cX2_vote 101 = .ok (.getfield 79, 3) := by decide +kernel
theorem dX2_vote_104 : decode cX2_vote 104 = .ok (.iload 5, 2) := by decide +kernel
theorem dX2_vote_106 : decode cX2_vote 106 = .ok (.iastore, 1) := by decide +kernel
theorem dX2_vote_107 : decode cX2_vote 107 = .ok (.aload_n 0, 1) := by decide +kernel
theorem dX2_vote_108 : decode cX2_vote 108 = .ok (.getfield 42, 3) := by decide +kernel
theorem dX2_vote_111 : decode cX2_vote 111 = .ok (.iload_n 2, 1) := by decide +kernel
theorem dX2_vote_112 : decode cX2_vote 112 = .ok (.iload_n 3, 1) := by decide +kernel
theorem dX2_vote_113 : decode cX2_vote 113 = .ok (.iload 4, 2) := by decide +kernel
theorem dX2_vote_115 : decode cX2_vote 115 = .ok (.iload 5, 2) := by decide +kernel
theorem dX2_vote_117 : decode cX2_vote 117 = .ok (.invokestatic 93, 3) := by decide +kernel
theorem dX2_vote_120 : decode cX2_vote 120 = .ok (.dup2, 1) := by decide +kernel
theorem dX2_vote_121 : decode cX2_vote 121 = .ok (.iaload, 1) := by decide +kernel
theorem dX2_vote_122 : decode cX2_vote 122 = .ok (.iconst 1, 1) := by decide +kernel
theorem dX2_vote_123 : decode cX2_vote 123 = .ok (.iload_n 1, 1) := by decide +kernel
theorem dX2_vote_124 : decode cX2_vote 124 = .ok (.ishl, 1) := by decide +kernel
theorem dX2_vote_125 : decode cX2_vote 125 = .ok (.ior, 1) := by decide +kernel
theorem dX2_vote_126 : decode cX2_vote 126 = .ok (.iastore, 1) := by decide +kernel
theorem dX2_vote_127 : decode cX2_vote 127 = .ok (.aload_n 0, 1) := by decide +kernel
theorem dX2_vote_128 : decode cX2_vote 128 = .ok (.dup, 1) := by decide +kernel
theorem dX2_vote_129 : decode cX2_vote 129 = .ok (.getfield 79, 3) := by decide +kernel
theorem dX2_vote_132 : decode cX2_vote 132 = .ok (.iconst 1, 1) := by decide +kernel
theorem dX2_vote_133 : decode cX2_vote 133 = .ok (.iadd, 1) := by decide +kernel
theorem dX2_vote_134 : decode cX2_vote 134 = .ok (.putfield 79, 3) := by decide +kernel
theorem dX2_vote_137 : decode cX2_vote 137 = .ok (.aload_n 0, 1) := by decide +kernel
theorem dX2_vote_138 : decode cX2_vote 138 = .ok (.getfield 79, 3) := by decide +kernel
theorem dX2_vote_141 : decode cX2_vote 141 = .ok (.iconst 1, 1) := by decide +kernel
theorem dX2_vote_142 : decode cX2_vote 142 = .ok (.isub, 1) := by decide +kernel
theorem dX2_vote_143 : decode cX2_vote 143 = .ok (.ireturn, 1) := by decide +kernel
set_option maxRecDepth 20000 in
theorem ggX2_saidBy_X2_place : GoodIn wsX2_saidBy wsX2_place := goodIn_r _ [5] (by decide +kernel) (by decide +kernel)
set_option maxRecDepth 20000 in
theorem gX2_saidBy_X2_place : GoodIn wsX2_saidBy (va_wsS RX2 93 yX2_place wsX2_place) := goodIn_app (goodIn_of _ (by decide +kernel)) ggX2_saidBy_X2_place
theorem dX2_saidBy_0 : decode cX2_saidBy 0 = .ok (.iconst 0, 1) := by decide +kernel
theorem dX2_saidBy_1 : decode cX2_saidBy 1 = .ok (.istore 5, 2) := by decide +kernel
theorem dX2_saidBy_3 : decode cX2_saidBy 3 = .ok (.iconst 0, 1) := by decide +kernel
theorem dX2_saidBy_4 : decode cX2_saidBy 4 = .ok (.istore 6, 2) := by decide +kernel
theorem dX2_saidBy_6 : decode cX2_saidBy 6 = .ok (.iload 6, 2) := by decide +kernel
theorem dX2_saidBy_8 : decode cX2_saidBy 8 = .ok (.bipush 10, 2) := by decide +kernel
theorem dX2_saidBy_10 : decode cX2_saidBy 10 = .ok (.if_icmp .ge 35, 3) := by decide +kernel
theorem dX2_saidBy_13 : decode cX2_saidBy 13 = .ok (.iload 5, 2) := by decide +kernel
theorem dX2_saidBy_15 : decode cX2_saidBy 15 = .ok (.aload_n 0, 1) := by decide +kernel
theorem dX2_saidBy_16 : decode cX2_saidBy 16 = .ok (.getfield 42, 3) := by decide +kernel
theorem dX2_saidBy_19 : decode cX2_saidBy 19 = .ok (.iload_n 2, 1) := by decide +kernel
theorem dX2_saidBy_20 : decode cX2_saidBy 20 = .ok (.iload_n 3, 1) := by decide +kernel
theorem dX2_saidBy_21 : decode cX2_saidBy 21 = .ok (.iload 4, 2) := by decide +kernel
theorem dX2_saidBy_23 : decode cX2_saidBy 23 = .ok (.iload 6, 2) := by decide +kernel
theorem dX2_saidBy_25 : decode cX2_saidBy 25 = .ok (.invokestatic 93, 3) := by decide +kernel
theorem dX2_saidBy_28 : decode cX2_saidBy 28 = .ok (.iaload, 1) := by decide +kernel
theorem dX2_saidBy_29 : decode cX2_saidBy 29 = .ok (.iload_n 1, 1) := by decide +kernel
theorem dX2_saidBy_30 : decode cX2_saidBy 30 = .ok (.ishr, 1) := by decide +kernel
theorem dX2_saidBy_31 : decode cX2_saidBy 31 = .ok (.iconst 1, 1) := by decide +kernel
theorem dX2_saidBy_32 : decode cX2_saidBy 32 = .ok (.iand, 1) := by decide +kernel
theorem dX2_saidBy_33 : decode cX2_saidBy 33 = .ok (.iload 6, 2) := by decide +kernel
theorem dX2_saidBy_35 : decode cX2_saidBy 35 = .ok (.ishl, 1) := by decide +kernel
theorem dX2_saidBy_36 : decode cX2_saidBy 36 = .ok (.ior, 1) := by decide +kernel
theorem dX2_saidBy_37 : decode cX2_saidBy 37 = .ok (.istore 5, 2) := by decide +kernel
theorem dX2_saidBy_39 : decode cX2_saidBy 39 = .ok (.iinc 6 1, 3) := by decide +kernel
theorem dX2_saidBy_42 : decode cX2_saidBy 42 = .ok (.goto (-36), 3) := by decide +kernel
theorem dX2_saidBy_45 : decode cX2_saidBy 45 = .ok (.iload 5, 2) := by decide +kernel
theorem dX2_saidBy_47 : decode cX2_saidBy 47 = .ok (.ireturn, 1) := by decide +kernel
set_option maxRecDepth 20000 in
theorem ggX2_may_X2_refusal : GoodIn wsX2_may wsX2_refusal := goodIn_r _ [5, 6, 7, 8, 9, 10, 11, 12, 4, 13, 14, 15, 16, 17, 41, 42, 43, 44, 45, 46, 47, 48, 49, 50, 51, 52, 53, 54, 55, 56, 57, 58, 59, 60, 61, 62, 63, 64, 65, 66, 67] (by decide +kernel) (by decide +kernel)
set_option maxRecDepth 20000 in
theorem gX2_may_X2_refusal : GoodIn wsX2_may (wsV RX2 140 RX2 yX2_refusal wsX2_refusal) := goodIn_app (goodIn_of _ (by decide +kernel)) ggX2_may_X2_refusal
set_option maxRecDepth 20000 in
theorem ggX2_may_X2_saidBy : GoodIn wsX2_may wsX2_saidBy := goodIn_r _ [21, 22, 23, 24, 4, 25, 41, 42, 43, 44, 45, 46, 47, 48, 49, 50, 51, 52, 53, 54, 55, 56, 57, 58, 59, 60, 61, 62, 63, 64, 65, 66, 67] (by decide +kernel) (by decide +kernel)
set_option maxRecDepth 20000 in
theorem gX2_may_X2_saidBy : GoodIn wsX2_may (wsV RX2 147 RX2 yX2_saidBy wsX2_saidBy) := goodIn_app (goodIn_of _ (by decide +kernel)) ggX2_may_X2_saidBy
set_option maxRecDepth 20000 in
theorem ggX2_may_X2_isBacked : GoodIn wsX2_may wsX2_isBacked := goodIn_r _ [29, 22, 23, 24, 4, 25, 30, 31, 32, 33, 34, 35, 36, 37, 38, 39, 40, 9, 41, 42, 43, 44, 45, 46, 47, 48, 49, 50, 51, 52, 53, 54, 55, 56, 57, 58, 59, 60, 61, 62, 63, 64, 65, 66, 67] (by decide +kernel) (by decide +kernel)
set_option maxRecDepth 20000 in
theorem gX2_may_X2_isBacked : GoodIn wsX2_may (wsV RX2 101 RX2 yX2_isBacked wsX2_isBacked) := goodIn_app (goodIn_of _ (by decide +kernel)) ggX2_may_X2_isBacked
theorem dX2_may_0 : decode cX2_may 0 = .ok (.aload_n 0, 1) := by decide +kernel
theorem dX2_may_1 : decode cX2_may 1 = .ok (.iload_n 1, 1) := by decide +kernel
theorem dX2_may_2 : decode cX2_may 2 = .ok (.iload_n 2, 1) := by decide +kernel
theorem dX2_may_3 : decode cX2_may 3 = .ok (.iload_n 3, 1) := by decide +kernel
theorem dX2_may_4 : decode cX2_may 4 = .ok (.iload 4, 2) := by decide +kernel
theorem dX2_may_6 : decode cX2_may 6 = .ok (.iload 5, 2) := by decide +kernel
theorem dX2_may_8 : decode cX2_may 8 = .ok (.invokevirtual 140, 3) := by decide +kernel
theorem dX2_may_11 : decode cX2_may 11 = .ok (.istore 6, 2) := by decide +kernel
theorem dX2_may_13 : decode cX2_may 13 = .ok (.iload 6, 2) := by decide +kernel
theorem dX2_may_15 : decode cX2_may 15 = .ok (.ifCond .eq 6, 3) := by decide +kernel
theorem dX2_may_18 : decode cX2_may 18 = .ok (.iload 6, 2) := by decide +kernel
theorem dX2_may_20 : decode cX2_may 20 = .ok (.ireturn, 1) := by decide +kernel
theorem dX2_may_21 : decode cX2_may 21 = .ok (.aload_n 0, 1) := by decide +kernel
theorem dX2_may_22 : decode cX2_may 22 = .ok (.iload_n 1, 1) := by decide +kernel
theorem dX2_may_23 : decode cX2_may 23 = .ok (.iload_n 2, 1) := by decide +kernel
theorem dX2_may_24 : decode cX2_may 24 = .ok (.iload_n 3, 1) := by decide +kernel
theorem dX2_may_25 : decode cX2_may 25 = .ok (.iload 4, 2) := by decide +kernel
theorem dX2_may_27 : decode cX2_may 27 = .ok (.invokevirtual 147, 3) := by decide +kernel
theorem dX2_may_30 : decode cX2_may 30 = .ok (.iconst 1, 1) := by decide +kernel
theorem dX2_may_31 : decode cX2_may 31 = .ok (.iload 5, 2) := by decide +kernel
theorem dX2_may_33 : decode cX2_may 33 = .ok (.ishl, 1) := by decide +kernel
theorem dX2_may_34 : decode cX2_may 34 = .ok (.iconst (-1), 1) := by decide +kernel
theorem dX2_may_35 : decode cX2_may 35 = .ok (.ixor, 1) := by decide +kernel
theorem dX2_may_36 : decode cX2_may 36 = .ok (.iand, 1) := by decide +kernel
theorem dX2_may_37 : decode cX2_may 37 = .ok (.ifCond .eq 5, 3) := by decide +kernel
theorem dX2_may_40 : decode cX2_may 40 = .ok (.iconst 0, 1) := by decide +kernel
theorem dX2_may_41 : decode cX2_may 41 = .ok (.ireturn, 1) := by decide +kernel
theorem dX2_may_42 : decode cX2_may 42 = .ok (.iload 5, 2) := by decide +kernel
theorem dX2_may_44 : decode cX2_may 44 = .ok (.ifCond .ne 5, 3) := by decide +kernel
theorem dX2_may_47 : decode cX2_may 47 = .ok (.iconst 1, 1) := by decide +kernel
theorem dX2_may_48 : decode cX2_may 48 = .ok (.ireturn, 1) := by decide +kernel
theorem dX2_may_49 : decode cX2_may 49 = .ok (.iload 4, 2) := by decide +kernel
theorem dX2_may_51 : decode cX2_may 51 = .ok (.iconst 1, 1) := by decide +kernel
theorem dX2_may_52 : decode cX2_may 52 = .ok (.if_icmp .ne 115, 3) := by decide +kernel
theorem dX2_may_55 : decode cX2_may 55 = .ok (.aload_n 0, 1) := by decide +kernel
theorem dX2_may_56 : decode cX2_may 56 = .ok (.iload_n 2, 1) := by decide +kernel
theorem dX2_may_57 : decode cX2_may 57 = .ok (.iload_n 3, 1) := by decide +kernel
theorem dX2_may_58 : decode cX2_may 58 = .ok (.iload 5, 2) := by decide +kernel
theorem dX2_may_60 : decode cX2_may 60 = .ok (.invokevirtual 101, 3) := by decide +kernel
theorem dX2_may_63 : decode cX2_may 63 = .ok (.ifCond .ne 5, 3) := by decide +kernel
theorem dX2_may_66 : decode cX2_may 66 = .ok (.iconst 0, 1) := by decide +kernel
theorem dX2_may_67 : decode cX2_may 67 = .ok (.ireturn, 1) := by decide +kernel
theorem dX2_may_68 : decode cX2_may 68 = .ok (.iconst 1, 1) := by decide +kernel
theorem dX2_may_69 : decode cX2_may 69 = .ok (.istore 7, 2) := by decide +kernel
theorem dX2_may_71 : decode cX2_may 71 = .ok (.iload 7, 2) := by decide +kernel
theorem dX2_may_73 : decode cX2_may 73 = .ok (.bipush 10, 2) := by decide +kernel
theorem dX2_may_75 : decode cX2_may 75 = .ok (.if_icmp .ge 90, 3) := by decide +kernel
theorem dX2_may_78 : decode cX2_may 78 = .ok (.iload 7, 2) := by decide +kernel
theorem dX2_may_80 : decode cX2_may 80 = .ok (.iload 5, 2) := by decide +kernel
theorem dX2_may_82 : decode cX2_may 82 = .ok (.if_icmp .ne 7, 3) := by decide +kernel
theorem dX2_may_85 : decode cX2_may 85 = .ok (.iconst 1, 1) := by decide +kernel
theorem dX2_may_86 : decode cX2_may 86 = .ok (.goto 4, 3) := by decide +kernel
theorem dX2_may_89 : decode cX2_may 89 = .ok (.iconst 0, 1) := by decide +kernel
theorem dX2_may_90 : decode cX2_may 90 = .ok (.istore 8, 2) := by decide +kernel
theorem dX2_may_92 : decode cX2_may 92 = .ok (.iload_n 3, 1) := by decide +kernel
theorem dX2_may_93 : decode cX2_may 93 = .ok (.istore 9, 2) := by decide +kernel
theorem dX2_may_95 : decode cX2_may 95 = .ok (.iload 9, 2) := by decide +kernel
theorem dX2_may_97 : decode cX2_may 97 = .ok (.bipush 7, 2) := by decide +kernel
theorem dX2_may_99 : decode cX2_may 99 = .ok (.if_icmp .ge 60, 3) := by decide +kernel
theorem dX2_may_102 : decode cX2_may 102 = .ok (.iload 8, 2) := by decide +kernel
theorem dX2_may_104 : decode cX2_may 104 = .ok (.ifCond .ne 15, 3) := by decide +kernel
theorem dX2_may_107 : decode cX2_may 107 = .ok (.aload_n 0, 1) := by decide +kernel
theorem dX2_may_108 : decode cX2_may 108 = .ok (.iload_n 2, 1) := by decide +kernel
theorem dX2_may_109 : decode cX2_may 109 = .ok (.iload 9, 2) := by decide +kernel
theorem dX2_may_111 : decode cX2_may 111 = .ok (.iload 7, 2) := by decide +kernel
theorem dX2_may_113 : decode cX2_may 113 = .ok (.invokevirtual 101, 3) := by decide +kernel
theorem dX2_may_116 : decode cX2_may 116 = .ok (.ifCond .eq 7, 3) := by decide +kernel
theorem dX2_may_119 : decode cX2_may 119 = .ok (.iconst 1, 1) := by decide +kernel
theorem dX2_may_120 : decode cX2_may 120 = .ok (.goto 4, 3) := by decide +kernel
theorem dX2_may_123 : decode cX2_may 123 = .ok (.iconst 0, 1) := by decide +kernel
theorem dX2_may_124 : decode cX2_may 124 = .ok (.istore 8, 2) := by decide +kernel
theorem dX2_may_126 : decode cX2_may 126 = .ok (.iload 8, 2) := by decide +kernel
theorem dX2_may_128 : decode cX2_may 128 = .ok (.ifCond .ne 25, 3) := by decide +kernel
theorem dX2_may_131 : decode cX2_may 131 = .ok (.aload_n 0, 1) := by decide +kernel
theorem dX2_may_132 : decode cX2_may 132 = .ok (.iload_n 1, 1) := by decide +kernel
theorem dX2_may_133 : decode cX2_may 133 = .ok (.iload_n 2, 1) := by decide +kernel
theorem dX2_may_134 : decode cX2_may 134 = .ok (.iload 9, 2) := by decide +kernel
theorem dX2_may_136 : decode cX2_may 136 = .ok (.iconst 1, 1) := by decide +kernel
theorem dX2_may_137 : decode cX2_may 137 = .ok (.iadd, 1) := by decide +kernel
theorem dX2_may_138 : decode cX2_may 138 = .ok (.iconst 0, 1) := by decide +kernel
theorem dX2_may_139 : decode cX2_may 139 = .ok (.invokevirtual 147, 3) := by decide +kernel
theorem dX2_may_142 : decode cX2_may 142 = .ok (.iload 7, 2) := by decide +kernel
theorem dX2_may_144 : decode cX2_may 144 = .ok (.ishr, 1) := by decide +kernel
theorem dX2_may_145 : decode cX2_may 145 = .ok (.iconst 1, 1) := by decide +kernel
theorem dX2_may_146 : decode cX2_may 146 = .ok (.iand, 1) := by decide +kernel
theorem dX2_may_147 : decode cX2_may 147 = .ok (.iconst 1, 1) := by decide +kernel
theorem dX2_may_148 : decode cX2_may 148 = .ok (.if_icmp .ne 5, 3) := by decide +kernel
theorem dX2_may_151 : decode cX2_may 151 = .ok (.iconst 0, 1) := by decide +kernel
theorem dX2_may_152 : decode cX2_may 152 = .ok (.ireturn, 1) := by decide +kernel
theorem dX2_may_153 : decode cX2_may 153 = .ok (.iinc 9 1, 3) := by decide +kernel
theorem dX2_may_156 : decode cX2_may 156 = .ok (.goto (-61), 3) := by decide +kernel
theorem dX2_may_159 : decode cX2_may 159 = .ok (.iinc 7 1, 3) := by decide +kernel
theorem dX2_may_162 : decode cX2_may 162 = .ok (.goto (-91), 3) := by decide +kernel
theorem dX2_may_165 : decode cX2_may 165 = .ok (.iconst 1, 1) := by decide +kernel
theorem dX2_may_166 : decode cX2_may 166 = .ok (.ireturn, 1) := by decide +kernel
theorem dX2_may_167 : decode cX2_may 167 = .ok (.iconst 0, 1) := by decide +kernel
theorem dX2_may_168 : decode cX2_may 168 = .ok (.istore 7, 2) := by decide +kernel
theorem dX2_may_170 : decode cX2_may 170 = .ok (.iload_n 3, 1) := by decide +kernel
theorem dX2_may_171 : decode cX2_may 171 = .ok (.iconst 1, 1) := by decide +kernel
theorem dX2_may_172 : decode cX2_may 172 = .ok (.isub, 1) := by decide +kernel
theorem dX2_may_173 : decode cX2_may 173 = .ok (.istore 8, 2) := by decide +kernel
theorem dX2_may_175 : decode cX2_may 175 = .ok (.iload 8, 2) := by decide +kernel
theorem dX2_may_177 : decode cX2_may 177 = .ok (.ifCond .lt 62, 3) := by decide +kernel
theorem dX2_may_180 : decode cX2_may 180 = .ok (.iload 7, 2) := by decide +kernel
theorem dX2_may_182 : decode cX2_may 182 = .ok (.ifCond .ne 15, 3) := by decide +kernel
theorem dX2_may_185 : decode cX2_may 185 = .ok (.aload_n 0, 1) := by decide +kernel
theorem dX2_may_186 : decode cX2_may 186 = .ok (.iload_n 2, 1) := by decide +kernel
theorem dX2_may_187 : decode cX2_may 187 = .ok (.iload 8, 2) := by decide +kernel
theorem dX2_may_189 : decode cX2_may 189 = .ok (.iload 5, 2) := by decide +kernel
theorem dX2_may_191 : decode cX2_may 191 = .ok (.invokevirtual 101, 3) := by decide +kernel
theorem dX2_may_194 : decode cX2_may 194 = .ok (.ifCond .eq 7, 3) := by decide +kernel
theorem dX2_may_197 : decode cX2_may 197 = .ok (.iconst 1, 1) := by decide +kernel
theorem dX2_may_198 : decode cX2_may 198 = .ok (.goto 4, 3) := by decide +kernel
theorem dX2_may_201 : decode cX2_may 201 = .ok (.iconst 0, 1) := by decide +kernel
theorem dX2_may_202 : decode cX2_may 202 = .ok (.istore 7, 2) := by decide +kernel
theorem dX2_may_204 : decode cX2_may 204 = .ok (.iload 7, 2) := by decide +kernel
theorem dX2_may_206 : decode cX2_may 206 = .ok (.ifCond .ne 27, 3) := by decide +kernel
theorem dX2_may_209 : decode cX2_may 209 = .ok (.aload_n 0, 1) := by decide +kernel
theorem dX2_may_210 : decode cX2_may 210 = .ok (.iload_n 1, 1) := by decide +kernel
theorem dX2_may_211 : decode cX2_may 211 = .ok (.iload_n 2, 1) := by decide +kernel
theorem dX2_may_212 : decode cX2_may 212 = .ok (.iload 8, 2) := by decide +kernel
theorem dX2_may_214 : decode cX2_may 214 = .ok (.iconst 1, 1) := by decide +kernel
theorem dX2_may_215 : decode cX2_may 215 = .ok (.invokevirtual 147, 3) := by decide +kernel
theorem dX2_may_218 : decode cX2_may 218 = .ok (.bipush (-2), 2) := by decide +kernel
theorem dX2_may_220 : decode cX2_may 220 = .ok (.iand, 1) := by decide +kernel
theorem dX2_may_221 : decode cX2_may 221 = .ok (.iconst 1, 1) := by decide +kernel
theorem dX2_may_222 : decode cX2_may 222 = .ok (.iload 5, 2) := by decide +kernel
theorem dX2_may_224 : decode cX2_may 224 = .ok (.ishl, 1) := by decide +kernel
theorem dX2_may_225 : decode cX2_may 225 = .ok (.iconst (-1), 1) := by decide +kernel
theorem dX2_may_226 : decode cX2_may 226 = .ok (.ixor, 1) := by decide +kernel
theorem dX2_may_227 : decode cX2_may 227 = .ok (.iand, 1) := by decide +kernel
theorem dX2_may_228 : decode cX2_may 228 = .ok (.ifCond .eq 5, 3) := by decide +kernel
theorem dX2_may_231 : decode cX2_may 231 = .ok (.iconst 0, 1) := by decide +kernel
theorem dX2_may_232 : decode cX2_may 232 = .ok (.ireturn, 1) := by decide +kernel
theorem dX2_may_233 : decode cX2_may 233 = .ok (.iinc 8 (-1), 3) := by decide +kernel
theorem dX2_may_236 : decode cX2_may 236 = .ok (.goto (-61), 3) := by decide +kernel
theorem dX2_may_239 : decode cX2_may 239 = .ok (.iconst 1, 1) := by decide +kernel
theorem dX2_may_240 : decode cX2_may 240 = .ok (.ireturn, 1) := by decide +kernel
set_option maxRecDepth 20000 in
theorem ggX2_accuse_X2_isVote : GoodIn wsX2_accuse wsX2_isVote := goodIn_r _ [33, 34, 81, 82, 83, 84, 85, 86, 87, 88, 89, 90, 91, 92, 93, 94, 95, 96, 97, 98, 99, 100, 101, 102, 103, 104, 105, 106, 107] (by decide +kernel) (by decide +kernel)
set_option maxRecDepth 20000 in
theorem gX2_accuse_X2_isVote : GoodIn wsX2_accuse (wsV RX2 150 RX2 yX2_isVote wsX2_isVote) := goodIn_app (goodIn_of _ (by decide +kernel)) ggX2_accuse_X2_isVote
set_option maxRecDepth 20000 in
theorem ggX2_accuse_X2_isNode : GoodIn wsX2_accuse wsX2_isNode := goodIn_r _ [38, 39, 81, 82, 83, 84, 85, 86, 87, 88, 89, 90, 91, 92, 93, 94, 95, 96, 97, 98, 99, 100, 101, 102, 103, 104, 105, 106, 107] (by decide +kernel) (by decide +kernel)
set_option maxRecDepth 20000 in
theorem gX2_accuse_X2_isNode : GoodIn wsX2_accuse (wsV RX2 121 RX2 yX2_isNode wsX2_isNode) := goodIn_app (goodIn_of _ (by decide +kernel)) ggX2_accuse_X2_isNode
set_option maxRecDepth 20000 in
theorem ggX2_accuse_X2_in : GoodIn wsX2_accuse wsX2_in := goodIn_r _ [42] (by decide +kernel) (by decide +kernel)
set_option maxRecDepth 20000 in
theorem gX2_accuse_X2_in : GoodIn wsX2_accuse (va_wsS RX2 117 yX2_in wsX2_in) := goodIn_app (goodIn_of _ (by decide +kernel)) ggX2_accuse_X2_in
set_option maxRecDepth 20000 in
theorem ggX2_accuse_X2_isBreak : GoodIn wsX2_accuse wsX2_isBreak := goodIn_r _ [46, 47, 48, 49, 32, 50, 10, 5, 51, 52, 53, 54, 55, 56, 57, 58, 59, 60, 61, 62, 63, 64, 65, 66, 67, 68, 69, 70, 2, 71, 72, 73, 74, 75, 76, 77, 78, 79, 80, 81, 82, 83, 84, 85, 86, 87, 88, 89, 90, 91, 92, 93, 94, 95, 96, 97, 98, 99, 100, 101, 102, 103, 104, 105, 106, 107] (by decide +kernel) (by decide +kernel)
set_option maxRecDepth 20000 in
theorem gX2_accuse_X2_isBreak : GoodIn wsX2_accuse (wsV RX2 153 RX2 yX2_isBreak wsX2_isBreak) := goodIn_app (goodIn_of _ (by decide +kernel)) ggX2_accuse_X2_isBreak
theorem dX2_accuse_0 : decode cX2_accuse 0 = .ok (.aload_n 0, 1) := by decide +kernel
theorem dX2_accuse_1 : decode cX2_accuse 1 = .ok (.iload_n 2, 1) := by decide +kernel
theorem dX2_accuse_2 : decode cX2_accuse 2 = .ok (.invokevirtual 150, 3) := by decide +kernel
theorem dX2_accuse_5 : decode cX2_accuse 5 = .ok (.ifCond .eq 31, 3) := by decide +kernel
end
section
theorem dX2_accuse_8 : decode cX2_accuse 8 = .ok (.iload_n 1, 1) := by decide +kernel
theorem dX2_accuse_9 : decode cX2_accuse 9 = .ok (.iconst 2, 1) := by decide +kernel
theorem dX2_accuse_10 : decode cX2_accuse 10 = .ok (.if_icmp .eq 11, 3) := by decide +kernel
theorem dX2_accuse_13 : decode cX2_accuse 13 = .ok (.aload_n 0, 1) := by decide +kernel
theorem dX2_accuse_14 : decode cX2_accuse 14 = .ok (.iload_n 3, 1) := by decide +kernel
theorem dX2_accuse_15 : decode cX2_accuse 15 = .ok (.invokevirtual 150, 3) := by decide +kernel
theorem dX2_accuse_18 : decode cX2_accuse 18 = .ok (.ifCond .eq 18, 3) := by decide +kernel
theorem dX2_accuse_21 : decode cX2_accuse 21 = .ok (.iload 4, 2) := by decide +kernel
theorem dX2_accuse_23 : decode cX2_accuse 23 = .ok (.iconst (-1), 1) := by decide +kernel
theorem dX2_accuse_24 : decode cX2_accuse 24 = .ok (.if_icmp .eq 16, 3) := by decide +kernel
theorem dX2_accuse_27 : decode cX2_accuse 27 = .ok (.aload_n 0, 1) := by decide +kernel
theorem dX2_accuse_28 : decode cX2_accuse 28 = .ok (.iload 4, 2) := by decide +kernel
theorem dX2_accuse_30 : decode cX2_accuse 30 = .ok (.invokevirtual 121, 3) := by decide +kernel
theorem dX2_accuse_33 : decode cX2_accuse 33 = .ok (.ifCond .ne 7, 3) := by decide +kernel
theorem dX2_accuse_36 : decode cX2_accuse 36 = .ok (.ldc2_w 124, 3) := by decide +kernel
theorem dX2_accuse_39 : decode cX2_accuse 39 = .ok (.lreturn, 1) := by decide +kernel
theorem dX2_accuse_40 : decode cX2_accuse 40 = .ok (.iload_n 1, 1) := by decide +kernel
theorem dX2_accuse_41 : decode cX2_accuse 41 = .ok (.i2l, 1) := by decide +kernel
theorem dX2_accuse_42 : decode cX2_accuse 42 = .ok (.lconst 0, 1) := by decide +kernel
theorem dX2_accuse_43 : decode cX2_accuse 43 = .ok (.ldc2_w 91, 3) := by decide +kernel
theorem dX2_accuse_46 : decode cX2_accuse 46 = .ok (.invokestatic 117, 3) := by decide +kernel
theorem dX2_accuse_49 : decode cX2_accuse 49 = .ok (.ifCond .ne 7, 3) := by decide +kernel
theorem dX2_accuse_52 : decode cX2_accuse 52 = .ok (.ldc2_w 126, 3) := by decide +kernel
theorem dX2_accuse_55 : decode cX2_accuse 55 = .ok (.lreturn, 1) := by decide +kernel
theorem dX2_accuse_56 : decode cX2_accuse 56 = .ok (.aload_n 0, 1) := by decide +kernel
theorem dX2_accuse_57 : decode cX2_accuse 57 = .ok (.iload_n 1, 1) := by decide +kernel
theorem dX2_accuse_58 : decode cX2_accuse 58 = .ok (.iload_n 2, 1) := by decide +kernel
theorem dX2_accuse_59 : decode cX2_accuse 59 = .ok (.iload_n 1, 1) := by decide +kernel
theorem dX2_accuse_60 : decode cX2_accuse 60 = .ok (.iconst 2, 1) := by decide +kernel
theorem dX2_accuse_61 : decode cX2_accuse 61 = .ok (.if_icmp .ne 7, 3) := by decide +kernel
theorem dX2_accuse_64 : decode cX2_accuse 64 = .ok (.iload_n 2, 1) := by decide +kernel
theorem dX2_accuse_65 : decode cX2_accuse 65 = .ok (.goto 4, 3) := by decide +kernel
theorem dX2_accuse_68 : decode cX2_accuse 68 = .ok (.iload_n 3, 1) := by decide +kernel
theorem dX2_accuse_69 : decode cX2_accuse 69 = .ok (.invokevirtual 153, 3) := by decide +kernel
theorem dX2_accuse_72 : decode cX2_accuse 72 = .ok (.ifCond .ne 7, 3) := by decide +kernel
theorem dX2_accuse_75 : decode cX2_accuse 75 = .ok (.ldc2_w 156, 3) := by decide +kernel
theorem dX2_accuse_78 : decode cX2_accuse 78 = .ok (.lreturn, 1) := by decide +kernel
theorem dX2_accuse_79 : decode cX2_accuse 79 = .ok (.aload_n 0, 1) := by decide +kernel
theorem dX2_accuse_80 : decode cX2_accuse 80 = .ok (.getfield 30, 3) := by decide +kernel
theorem dX2_accuse_83 : decode cX2_accuse 83 = .ok (.iload_n 2, 1) := by decide +kernel
theorem dX2_accuse_84 : decode cX2_accuse 84 = .ok (.iaload, 1) := by decide +kernel
theorem dX2_accuse_85 : decode cX2_accuse 85 = .ok (.istore 5, 2) := by decide +kernel
theorem dX2_accuse_87 : decode cX2_accuse 87 = .ok (.iload_n 1, 1) := by decide +kernel
theorem dX2_accuse_88 : decode cX2_accuse 88 = .ok (.ifCond .le 18, 3) := by decide +kernel
theorem dX2_accuse_91 : decode cX2_accuse 91 = .ok (.aload_n 0, 1) := by decide +kernel
theorem dX2_accuse_92 : decode cX2_accuse 92 = .ok (.getfield 82, 3) := by decide +kernel
theorem dX2_accuse_95 : decode cX2_accuse 95 = .ok (.iload 5, 2) := by decide +kernel
theorem dX2_accuse_97 : decode cX2_accuse 97 = .ok (.iconst 2, 1) := by decide +kernel
theorem dX2_accuse_98 : decode cX2_accuse 98 = .ok (.iadd, 1) := by decide +kernel
theorem dX2_accuse_99 : decode cX2_accuse 99 = .ok (.if_icmp .ge 7, 3) := by decide +kernel
theorem dX2_accuse_102 : decode cX2_accuse 102 = .ok (.ldc2_w 158, 3) := by decide +kernel
theorem dX2_accuse_105 : decode cX2_accuse 105 = .ok (.lreturn, 1) := by decide +kernel
theorem dX2_accuse_106 : decode cX2_accuse 106 = .ok (.aload_n 0, 1) := by decide +kernel
theorem dX2_accuse_107 : decode cX2_accuse 107 = .ok (.getfield 82, 3) := by decide +kernel
theorem dX2_accuse_110 : decode cX2_accuse 110 = .ok (.iload 5, 2) := by decide +kernel
theorem dX2_accuse_112 : decode cX2_accuse 112 = .ok (.aload_n 0, 1) := by decide +kernel
theorem dX2_accuse_113 : decode cX2_accuse 113 = .ok (.getfield 48, 3) := by decide +kernel
theorem dX2_accuse_116 : decode cX2_accuse 116 = .ok (.iadd, 1) := by decide +kernel
theorem dX2_accuse_117 : decode cX2_accuse 117 = .ok (.if_icmp .le 7, 3) := by decide +kernel
theorem dX2_accuse_120 : decode cX2_accuse 120 = .ok (.ldc2_w 160, 3) := by decide +kernel
theorem dX2_accuse_123 : decode cX2_accuse 123 = .ok (.lreturn, 1) := by decide +kernel
theorem dX2_accuse_124 : decode cX2_accuse 124 = .ok (.aload_n 0, 1) := by decide +kernel
theorem dX2_accuse_125 : decode cX2_accuse 125 = .ok (.getfield 26, 3) := by decide +kernel
theorem dX2_accuse_128 : decode cX2_accuse 128 = .ok (.iload_n 2, 1) := by decide +kernel
theorem dX2_accuse_129 : decode cX2_accuse 129 = .ok (.iaload, 1) := by decide +kernel
theorem dX2_accuse_130 : decode cX2_accuse 130 = .ok (.istore 6, 2) := by decide +kernel
theorem dX2_accuse_132 : decode cX2_accuse 132 = .ok (.bipush 8, 2) := by decide +kernel
theorem dX2_accuse_134 : decode cX2_accuse 134 = .ok (.iload 5, 2) := by decide +kernel
theorem dX2_accuse_136 : decode cX2_accuse 136 = .ok (.imul, 1) := by decide +kernel
theorem dX2_accuse_137 : decode cX2_accuse 137 = .ok (.iload 6, 2) := by decide +kernel
theorem dX2_accuse_139 : decode cX2_accuse 139 = .ok (.iadd, 1) := by decide +kernel
theorem dX2_accuse_140 : decode cX2_accuse 140 = .ok (.iconst 3, 1) := by decide +kernel
theorem dX2_accuse_141 : decode cX2_accuse 141 = .ok (.imul, 1) := by decide +kernel
theorem dX2_accuse_142 : decode cX2_accuse 142 = .ok (.iload_n 1, 1) := by decide +kernel
theorem dX2_accuse_143 : decode cX2_accuse 143 = .ok (.iadd, 1) := by decide +kernel
theorem dX2_accuse_144 : decode cX2_accuse 144 = .ok (.istore 7, 2) := by decide +kernel
theorem dX2_accuse_146 : decode cX2_accuse 146 = .ok (.aload_n 0, 1) := by decide +kernel
theorem dX2_accuse_147 : decode cX2_accuse 147 = .ok (.getfield 73, 3) := by decide +kernel
theorem dX2_accuse_150 : decode cX2_accuse 150 = .ok (.iload 7, 2) := by decide +kernel
theorem dX2_accuse_152 : decode cX2_accuse 152 = .ok (.baload, 1) := by decide +kernel
theorem dX2_accuse_153 : decode cX2_accuse 153 = .ok (.ifCond .eq 7, 3) := by decide +kernel
theorem dX2_accuse_156 : decode cX2_accuse 156 = .ok (.ldc2_w 162, 3) := by decide +kernel
theorem dX2_accuse_159 : decode cX2_accuse 159 = .ok (.lreturn, 1) := by decide +kernel
theorem dX2_accuse_160 : decode cX2_accuse 160 = .ok (.aload_n 0, 1) := by decide +kernel
theorem dX2_accuse_161 : decode cX2_accuse 161 = .ok (.getfield 73, 3) := by decide +kernel
theorem dX2_accuse_164 : decode cX2_accuse 164 = .ok (.iload 7, 2) := by decide +kernel
theorem dX2_accuse_166 : decode cX2_accuse 166 = .ok (.iconst 1, 1) := by decide +kernel
theorem dX2_accuse_167 : decode cX2_accuse 167 = .ok (.bastore, 1) := by decide +kernel
theorem dX2_accuse_168 : decode cX2_accuse 168 = .ok (.aload_n 0, 1) := by decide +kernel
theorem dX2_accuse_169 : decode cX2_accuse 169 = .ok (.getfield 7, 3) := by decide +kernel
theorem dX2_accuse_172 : decode cX2_accuse 172 = .ok (.iload 6, 2) := by decide +kernel
theorem dX2_accuse_174 : decode cX2_accuse 174 = .ok (.laload, 1) := by decide +kernel
theorem dX2_accuse_175 : decode cX2_accuse 175 = .ok (.aload_n 0, 1) := by decide +kernel
theorem dX2_accuse_176 : decode cX2_accuse 176 = .ok (.getfield 45, 3) := by decide +kernel
theorem dX2_accuse_179 : decode cX2_accuse 179 = .ok (.iload_n 1, 1) := by decide +kernel
theorem dX2_accuse_180 : decode cX2_accuse 180 = .ok (.iaload, 1) := by decide +kernel
theorem dX2_accuse_181 : decode cX2_accuse 181 = .ok (.i2l, 1) := by decide +kernel
theorem dX2_accuse_182 : decode cX2_accuse 182 = .ok (.lmul, 1) := by decide +kernel
theorem dX2_accuse_183 : decode cX2_accuse 183 = .ok (.ldc2_w 128, 3) := by decide +kernel
theorem dX2_accuse_186 : decode cX2_accuse 186 = .ok (.ldiv, 1) := by decide +kernel
theorem dX2_accuse_187 : decode cX2_accuse 187 = .ok (.lstore 8, 2) := by decide +kernel
theorem dX2_accuse_189 : decode cX2_accuse 189 = .ok (.aload_n 0, 1) := by decide +kernel
theorem dX2_accuse_190 : decode cX2_accuse 190 = .ok (.getfield 7, 3) := by decide +kernel
theorem dX2_accuse_193 : decode cX2_accuse 193 = .ok (.iload 6, 2) := by decide +kernel
theorem dX2_accuse_195 : decode cX2_accuse 195 = .ok (.dup2, 1) := by decide +kernel
theorem dX2_accuse_196 : decode cX2_accuse 196 = .ok (.laload, 1) := by decide +kernel
theorem dX2_accuse_197 : decode cX2_accuse 197 = .ok (.lload 8, 2) := by decide +kernel
theorem dX2_accuse_199 : decode cX2_accuse 199 = .ok (.lsub, 1) := by decide +kernel
theorem dX2_accuse_200 : decode cX2_accuse 200 = .ok (.lastore, 1) := by decide +kernel
theorem dX2_accuse_201 : decode cX2_accuse 201 = .ok (.iload 4, 2) := by decide +kernel
theorem dX2_accuse_203 : decode cX2_accuse 203 = .ok (.iconst (-1), 1) := by decide +kernel
theorem dX2_accuse_204 : decode cX2_accuse 204 = .ok (.if_icmp .ne 7, 3) := by decide +kernel
theorem dX2_accuse_207 : decode cX2_accuse 207 = .ok (.lconst 0, 1) := by decide +kernel
theorem dX2_accuse_208 : decode cX2_accuse 208 = .ok (.goto 9, 3) := by decide +kernel
theorem dX2_accuse_211 : decode cX2_accuse 211 = .ok (.lload 8, 2) := by decide +kernel
theorem dX2_accuse_213 : decode cX2_accuse 213 = .ok (.ldc2_w 164, 3) := by decide +kernel
theorem dX2_accuse_216 : decode cX2_accuse 216 = .ok (.ldiv, 1) := by decide +kernel
theorem dX2_accuse_217 : decode cX2_accuse 217 = .ok (.lstore 10, 2) := by decide +kernel
theorem dX2_accuse_219 : decode cX2_accuse 219 = .ok (.iload 4, 2) := by decide +kernel
theorem dX2_accuse_221 : decode cX2_accuse 221 = .ok (.iconst (-1), 1) := by decide +kernel
theorem dX2_accuse_222 : decode cX2_accuse 222 = .ok (.if_icmp .eq 15, 3) := by decide +kernel
theorem dX2_accuse_225 : decode cX2_accuse 225 = .ok (.aload_n 0, 1) := by decide +kernel
theorem dX2_accuse_226 : decode cX2_accuse 226 = .ok (.getfield 13, 3) := by decide +kernel
theorem dX2_accuse_229 : decode cX2_accuse 229 = .ok (.iload 4, 2) := by decide +kernel
theorem dX2_accuse_231 : decode cX2_accuse 231 = .ok (.dup2, 1) := by decide +kernel
theorem dX2_accuse_232 : decode cX2_accuse 232 = .ok (.laload, 1) := by decide +kernel
theorem dX2_accuse_233 : decode cX2_accuse 233 = .ok (.lload 10, 2) := by decide +kernel
theorem dX2_accuse_235 : decode cX2_accuse 235 = .ok (.ladd, 1) := by decide +kernel
theorem dX2_accuse_236 : decode cX2_accuse 236 = .ok (.lastore, 1) := by decide +kernel
theorem dX2_accuse_237 : decode cX2_accuse 237 = .ok (.aload_n 0, 1) := by decide +kernel
theorem dX2_accuse_238 : decode cX2_accuse 238 = .ok (.dup, 1) := by decide +kernel
theorem dX2_accuse_239 : decode cX2_accuse 239 = .ok (.getfield 166, 3) := by decide +kernel
theorem dX2_accuse_242 : decode cX2_accuse 242 = .ok (.lload 8, 2) := by decide +kernel
theorem dX2_accuse_244 : decode cX2_accuse 244 = .ok (.lload 10, 2) := by decide +kernel
theorem dX2_accuse_246 : decode cX2_accuse 246 = .ok (.lsub, 1) := by decide +kernel
theorem dX2_accuse_247 : decode cX2_accuse 247 = .ok (.ladd, 1) := by decide +kernel
theorem dX2_accuse_248 : decode cX2_accuse 248 = .ok (.putfield 166, 3) := by decide +kernel
theorem dX2_accuse_251 : decode cX2_accuse 251 = .ok (.aload_n 0, 1) := by decide +kernel
theorem dX2_accuse_252 : decode cX2_accuse 252 = .ok (.getfield 16, 3) := by decide +kernel
theorem dX2_accuse_255 : decode cX2_accuse 255 = .ok (.iload 6, 2) := by decide +kernel
theorem dX2_accuse_257 : decode cX2_accuse 257 = .ok (.aload_n 0, 1) := by decide +kernel
theorem dX2_accuse_258 : decode cX2_accuse 258 = .ok (.getfield 16, 3) := by decide +kernel
theorem dX2_accuse_261 : decode cX2_accuse 261 = .ok (.iload 6, 2) := by decide +kernel
theorem dX2_accuse_263 : decode cX2_accuse 263 = .ok (.baload, 1) := by decide +kernel
theorem dX2_accuse_264 : decode cX2_accuse 264 = .ok (.ifCond .ne 18, 3) := by decide +kernel
theorem dX2_accuse_267 : decode cX2_accuse 267 = .ok (.aload_n 0, 1) := by decide +kernel
theorem dX2_accuse_268 : decode cX2_accuse 268 = .ok (.getfield 7, 3) := by decide +kernel
theorem dX2_accuse_271 : decode cX2_accuse 271 = .ok (.iload 6, 2) := by decide +kernel
theorem dX2_accuse_273 : decode cX2_accuse 273 = .ok (.laload, 1) := by decide +kernel
theorem dX2_accuse_274 : decode cX2_accuse 274 = .ok (.aload_n 0, 1) := by decide +kernel
theorem dX2_accuse_275 : decode cX2_accuse 275 = .ok (.getfield 132, 3) := by decide +kernel
theorem dX2_accuse_278 : decode cX2_accuse 278 = .ok (.lcmp, 1) := by decide +kernel
theorem dX2_accuse_279 : decode cX2_accuse 279 = .ok (.ifCond .ge 7, 3) := by decide +kernel
theorem dX2_accuse_282 : decode cX2_accuse 282 = .ok (.iconst 1, 1) := by decide +kernel
theorem dX2_accuse_283 : decode cX2_accuse 283 = .ok (.goto 4, 3) := by decide +kernel
theorem dX2_accuse_286 : decode cX2_accuse 286 = .ok (.iconst 0, 1) := by decide +kernel
theorem dX2_accuse_287 : decode cX2_accuse 287 = .ok (.bastore, 1) := by decide +kernel
theorem dX2_accuse_288 : decode cX2_accuse 288 = .ok (.aload_n 0, 1) := by decide +kernel
theorem dX2_accuse_289 : decode cX2_accuse 289 = .ok (.getfield 52, 3) := by decide +kernel
theorem dX2_accuse_292 : decode cX2_accuse 292 = .ok (.aload_n 0, 1) := by decide +kernel
theorem dX2_accuse_293 : decode cX2_accuse 293 = .ok (.getfield 169, 3) := by decide +kernel
theorem dX2_accuse_296 : decode cX2_accuse 296 = .ok (.iload_n 1, 1) := by decide +kernel
theorem dX2_accuse_297 : decode cX2_accuse 297 = .ok (.iastore, 1) := by decide +kernel
theorem dX2_accuse_298 : decode cX2_accuse 298 = .ok (.aload_n 0, 1) := by decide +kernel
theorem dX2_accuse_299 : decode cX2_accuse 299 = .ok (.getfield 55, 3) := by decide +kernel
theorem dX2_accuse_302 : decode cX2_accuse 302 = .ok (.aload_n 0, 1) := by decide +kernel
theorem dX2_accuse_303 : decode cX2_accuse 303 = .ok (.getfield 169, 3) := by decide +kernel
theorem dX2_accuse_306 : decode cX2_accuse 306 = .ok (.iload_n 1, 1) := by decide +kernel
theorem dX2_accuse_307 : decode cX2_accuse 307 = .ok (.ifCond .ne 12, 3) := by decide +kernel
theorem dX2_accuse_310 : decode cX2_accuse 310 = .ok (.iload_n 3, 1) := by decide +kernel
theorem dX2_accuse_311 : decode cX2_accuse 311 = .ok (.iload_n 2, 1) := by decide +kernel
theorem dX2_accuse_312 : decode cX2_accuse 312 = .ok (.if_icmp .ge 7, 3) := by decide +kernel
theorem dX2_accuse_315 : decode cX2_accuse 315 = .ok (.iload_n 3, 1) := by decide +kernel
theorem dX2_accuse_316 : decode cX2_accuse 316 = .ok (.goto 4, 3) := by decide +kernel
theorem dX2_accuse_319 : decode cX2_accuse 319 = .ok (.iload_n 2, 1) := by decide +kernel
theorem dX2_accuse_320 : decode cX2_accuse 320 = .ok (.iastore, 1) := by decide +kernel
theorem dX2_accuse_321 : decode cX2_accuse 321 = .ok (.aload_n 0, 1) := by decide +kernel
theorem dX2_accuse_322 : decode cX2_accuse 322 = .ok (.getfield 58, 3) := by decide +kernel
theorem dX2_accuse_325 : decode cX2_accuse 325 = .ok (.aload_n 0, 1) := by decide +kernel
theorem dX2_accuse_326 : decode cX2_accuse 326 = .ok (.getfield 169, 3) := by decide +kernel
theorem dX2_accuse_329 : decode cX2_accuse 329 = .ok (.iload_n 1, 1) := by decide +kernel
theorem dX2_accuse_330 : decode cX2_accuse 330 = .ok (.iconst 2, 1) := by decide +kernel
theorem dX2_accuse_331 : decode cX2_accuse 331 = .ok (.if_icmp .ne 7, 3) := by decide +kernel
theorem dX2_accuse_334 : decode cX2_accuse 334 = .ok (.iconst (-1), 1) := by decide +kernel
theorem dX2_accuse_335 : decode cX2_accuse 335 = .ok (.goto 17, 3) := by decide +kernel
theorem dX2_accuse_338 : decode cX2_accuse 338 = .ok (.iload_n 1, 1) := by decide +kernel
theorem dX2_accuse_339 : decode cX2_accuse 339 = .ok (.ifCond .ne 12, 3) := by decide +kernel
theorem dX2_accuse_342 : decode cX2_accuse 342 = .ok (.iload_n 3, 1) := by decide +kernel
theorem dX2_accuse_343 : decode cX2_accuse 343 = .ok (.iload_n 2, 1) := by decide +kernel
theorem dX2_accuse_344 : decode cX2_accuse 344 = .ok (.if_icmp .ge 7, 3) := by decide +kernel
theorem dX2_accuse_347 : decode cX2_accuse 347 = .ok (.iload_n 2, 1) := by decide +kernel
theorem dX2_accuse_348 : decode cX2_accuse 348 = .ok (.goto 4, 3) := by decide +kernel
theorem dX2_accuse_351 : decode cX2_accuse 351 = .ok (.iload_n 3, 1) := by decide +kernel
theorem dX2_accuse_352 : decode cX2_accuse 352 = .ok (.iastore, 1) := by decide +kernel
theorem dX2_accuse_353 : decode cX2_accuse 353 = .ok (.aload_n 0, 1) := by decide +kernel
theorem dX2_accuse_354 : decode cX2_accuse 354 = .ok (.getfield 61, 3) := by decide +kernel
theorem dX2_accuse_357 : decode cX2_accuse 357 = .ok (.aload_n 0, 1) := by decide +kernel
theorem dX2_accuse_358 : decode cX2_accuse 358 = .ok (.getfield 169, 3) := by decide +kernel
theorem dX2_accuse_361 : decode cX2_accuse 361 = .ok (.iload 4, 2) := by decide +kernel
theorem dX2_accuse_363 : decode cX2_accuse 363 = .ok (.iastore, 1) := by decide +kernel
theorem dX2_accuse_364 : decode cX2_accuse 364 = .ok (.aload_n 0, 1) := by decide +kernel
theorem dX2_accuse_365 : decode cX2_accuse 365 = .ok (.getfield 64, 3) := by decide +kernel
theorem dX2_accuse_368 : decode cX2_accuse 368 = .ok (.aload_n 0, 1) := by decide +kernel
theorem dX2_accuse_369 : decode cX2_accuse 369 = .ok (.getfield 169, 3) := by decide +kernel
theorem dX2_accuse_372 : decode cX2_accuse 372 = .ok (.aload_n 0, 1) := by decide +kernel
theorem dX2_accuse_373 : decode cX2_accuse 373 = .ok (.getfield 82, 3) := by decide +kernel
theorem dX2_accuse_376 : decode cX2_accuse 376 = .ok (.iastore, 1) := by decide +kernel
theorem dX2_accuse_377 : decode cX2_accuse 377 = .ok (.aload_n 0, 1) := by decide +kernel
theorem dX2_accuse_378 : decode cX2_accuse 378 = .ok (.getfield 67, 3) := by decide +kernel
theorem dX2_accuse_381 : decode cX2_accuse 381 = .ok (.aload_n 0, 1) := by decide +kernel
theorem dX2_accuse_382 : decode cX2_accuse 382 = .ok (.getfield 169, 3) := by decide +kernel
theorem dX2_accuse_385 : decode cX2_accuse 385 = .ok (.lload 8, 2) := by decide +kernel
theorem dX2_accuse_387 : decode cX2_accuse 387 = .ok (.lastore, 1) := by decide +kernel
theorem dX2_accuse_388 : decode cX2_accuse 388 = .ok (.aload_n 0, 1) := by decide +kernel
theorem dX2_accuse_389 : decode cX2_accuse 389 = .ok (.getfield 70, 3) := by decide +kernel
theorem dX2_accuse_392 : decode cX2_accuse 392 = .ok (.aload_n 0, 1) := by decide +kernel
theorem dX2_accuse_393 : decode cX2_accuse 393 = .ok (.getfield 169, 3) := by decide +kernel
theorem dX2_accuse_396 : decode cX2_accuse 396 = .ok (.lload 10, 2) := by decide +kernel
theorem dX2_accuse_398 : decode cX2_accuse 398 = .ok (.lastore, 1) := by decide +kernel
theorem dX2_accuse_399 : decode cX2_accuse 399 = .ok (.aload_n 0, 1) := by decide +kernel
theorem dX2_accuse_400 : decode cX2_accuse 400 = .ok (.dup, 1) := by decide +kernel
theorem dX2_accuse_401 : decode cX2_accuse 401 = .ok (.getfield 169, 3) := by decide +kernel
theorem dX2_accuse_404 : decode cX2_accuse 404 = .ok (.iconst 1, 1) := by decide +kernel
theorem dX2_accuse_405 : decode cX2_accuse 405 = .ok (.iadd, 1) := by decide +kernel
theorem dX2_accuse_406 : decode cX2_accuse 406 = .ok (.putfield 169, 3) := by decide +kernel
theorem dX2_accuse_409 : decode cX2_accuse 409 = .ok (.lload 8, 2) := by decide +kernel
theorem dX2_accuse_411 : decode cX2_accuse 411 = .ok (.lreturn, 1) := by decide +kernel
theorem dX2_about_0 : decode cX2_about 0 = .ok (.iload_n 1, 1) := by decide +kernel
theorem dX2_about_1 : decode cX2_about 1 = .ok (.tableswitch 95 0 9 #[55, 61, 67, 73, 79, 95, 95, 95, 84, 90], 55) := by decide +kernel
theorem dX2_about_56 : decode cX2_about 56 = .ok (.aload_n 0, 1) := by decide +kernel
theorem dX2_about_57 : decode cX2_about 57 = .ok (.getfield 82, 3) := by decide +kernel
theorem dX2_about_60 : decode cX2_about 60 = .ok (.i2l, 1) := by decide +kernel
theorem dX2_about_61 : decode cX2_about 61 = .ok (.lreturn, 1) := by decide +kernel
theorem dX2_about_62 : decode cX2_about 62 = .ok (.aload_n 0, 1) := by decide +kernel
theorem dX2_about_63 : decode cX2_about 63 = .ok (.getfield 76, 3) := by decide +kernel
theorem dX2_about_66 : decode cX2_about 66 = .ok (.i2l, 1) := by decide +kernel
theorem dX2_about_67 : decode cX2_about 67 = .ok (.lreturn, 1) := by decide +kernel
theorem dX2_about_68 : decode cX2_about 68 = .ok (.aload_n 0, 1) := by decide +kernel
theorem dX2_about_69 : decode cX2_about 69 = .ok (.getfield 79, 3) := by decide +kernel
theorem dX2_about_72 : decode cX2_about 72 = .ok (.i2l, 1) := by decide +kernel
theorem dX2_about_73 : decode cX2_about 73 = .ok (.lreturn, 1) := by decide +kernel
theorem dX2_about_74 : decode cX2_about 74 = .ok (.aload_n 0, 1) := by decide +kernel
theorem dX2_about_75 : decode cX2_about 75 = .ok (.getfield 169, 3) := by decide +kernel
theorem dX2_about_78 : decode cX2_about 78 = .ok (.i2l, 1) := by decide +kernel
theorem dX2_about_79 : decode cX2_about 79 = .ok (.lreturn, 1) := by decide +kernel
theorem dX2_about_80 : decode cX2_about 80 = .ok (.aload_n 0, 1) := by decide +kernel
theorem dX2_about_81 : decode cX2_about 81 = .ok (.getfield 166, 3) := by decide +kernel
theorem dX2_about_84 : decode cX2_about 84 = .ok (.lreturn, 1) := by decide +kernel
theorem dX2_about_85 : decode cX2_about 85 = .ok (.aload_n 0, 1) := by decide +kernel
theorem dX2_about_86 : decode cX2_about 86 = .ok (.getfield 48, 3) := by decide +kernel
theorem dX2_about_89 : decode cX2_about 89 = .ok (.i2l, 1) := by decide +kernel
theorem dX2_about_90 : decode cX2_about 90 = .ok (.lreturn, 1) := by decide +kernel
theorem dX2_about_91 : decode cX2_about 91 = .ok (.aload_n 0, 1) := by decide +kernel
theorem dX2_about_92 : decode cX2_about 92 = .ok (.getfield 132, 3) := by decide +kernel
theorem dX2_about_95 : decode cX2_about 95 = .ok (.lreturn, 1) := by decide +kernel
theorem dX2_about_96 : decode cX2_about 96 = .ok (.iload_n 1, 1) := by decide +kernel
theorem dX2_about_97 : decode cX2_about 97 = .ok (.iconst 5, 1) := by decide +kernel
theorem dX2_about_98 : decode cX2_about 98 = .ok (.if_icmp .lt 21, 3) := by decide +kernel
theorem dX2_about_101 : decode cX2_about 101 = .ok (.iload_n 1, 1) := by decide +kernel
theorem dX2_about_102 : decode cX2_about 102 = .ok (.bipush 7, 2) := by decide +kernel
theorem dX2_about_104 : decode cX2_about 104 = .ok (.if_icmp .gt 15, 3) := by decide +kernel
theorem dX2_about_107 : decode cX2_about 107 = .ok (.aload_n 0, 1) := by decide +kernel
theorem dX2_about_108 : decode cX2_about 108 = .ok (.getfield 45, 3) := by decide +kernel
theorem dX2_about_111 : decode cX2_about 111 = .ok (.iload_n 1, 1) := by decide +kernel
theorem dX2_about_112 : decode cX2_about 112 = .ok (.iconst 5, 1) := by decide +kernel
theorem dX2_about_113 : decode cX2_about 113 = .ok (.isub, 1) := by decide +kernel
theorem dX2_about_114 : decode cX2_about 114 = .ok (.iaload, 1) := by decide +kernel
theorem dX2_about_115 : decode cX2_about 115 = .ok (.i2l, 1) := by decide +kernel
theorem dX2_about_116 : decode cX2_about 116 = .ok (.goto 6, 3) := by decide +kernel
theorem dX2_about_119 : decode cX2_about 119 = .ok (.ldc2_w 126, 3) := by decide +kernel
theorem dX2_about_122 : decode cX2_about 122 = .ok (.lreturn, 1) := by decide +kernel
set_option maxRecDepth 20000 in
theorem ggX2_holds_X2_isNode : GoodIn wsX2_holds wsX2_isNode := goodIn_r _ [13, 14, 15, 16, 17, 18, 19, 20, 21, 22, 23, 24, 25, 26, 27, 28, 29, 30, 31, 32, 33, 34, 35, 36, 37, 38, 39, 40, 41] (by decide +kernel) (by decide +kernel)
set_option maxRecDepth 20000 in
theorem gX2_holds_X2_isNode : GoodIn wsX2_holds (wsV RX2 121 RX2 yX2_isNode wsX2_isNode) := goodIn_app (goodIn_of _ (by decide +kernel)) ggX2_holds_X2_isNode
theorem dX2_holds_0 : decode cX2_holds 0 = .ok (.aload_n 0, 1) := by decide +kernel
theorem dX2_holds_1 : decode cX2_holds 1 = .ok (.iload_n 1, 1) := by decide +kernel
theorem dX2_holds_2 : decode cX2_holds 2 = .ok (.invokevirtual 121, 3) := by decide +kernel
theorem dX2_holds_5 : decode cX2_holds 5 = .ok (.ifCond .ne 7, 3) := by decide +kernel
theorem dX2_holds_8 : decode cX2_holds 8 = .ok (.ldc2_w 124, 3) := by decide +kernel
theorem dX2_holds_11 : decode cX2_holds 11 = .ok (.lreturn, 1) := by decide +kernel
theorem dX2_holds_12 : decode cX2_holds 12 = .ok (.iload_n 2, 1) := by decide +kernel
theorem dX2_holds_13 : decode cX2_holds 13 = .ok (.ifCond .ne 10, 3) := by decide +kernel
theorem dX2_holds_16 : decode cX2_holds 16 = .ok (.aload_n 0, 1) := by decide +kernel
theorem dX2_holds_17 : decode cX2_holds 17 = .ok (.getfield 7, 3) := by decide +kernel
theorem dX2_holds_20 : decode cX2_holds 20 = .ok (.iload_n 1, 1) := by decide +kernel
theorem dX2_holds_21 : decode cX2_holds 21 = .ok (.laload, 1) := by decide +kernel
theorem dX2_holds_22 : decode cX2_holds 22 = .ok (.lreturn, 1) := by decide +kernel
theorem dX2_holds_23 : decode cX2_holds 23 = .ok (.iload_n 2, 1) := by decide +kernel
theorem dX2_holds_24 : decode cX2_holds 24 = .ok (.iconst 1, 1) := by decide +kernel
theorem dX2_holds_25 : decode cX2_holds 25 = .ok (.if_icmp .ne 10, 3) := by decide +kernel
theorem dX2_holds_28 : decode cX2_holds 28 = .ok (.aload_n 0, 1) := by decide +kernel
theorem dX2_holds_29 : decode cX2_holds 29 = .ok (.getfield 13, 3) := by decide +kernel
theorem dX2_holds_32 : decode cX2_holds 32 = .ok (.iload_n 1, 1) := by decide +kernel
theorem dX2_holds_33 : decode cX2_holds 33 = .ok (.laload, 1) := by decide +kernel
theorem dX2_holds_34 : decode cX2_holds 34 = .ok (.lreturn, 1) := by decide +kernel
theorem dX2_holds_35 : decode cX2_holds 35 = .ok (.iload_n 2, 1) := by decide +kernel
theorem dX2_holds_36 : decode cX2_holds 36 = .ok (.iconst 2, 1) := by decide +kernel
theorem dX2_holds_37 : decode cX2_holds 37 = .ok (.if_icmp .ne 18, 3) := by decide +kernel
theorem dX2_holds_40 : decode cX2_holds 40 = .ok (.aload_n 0, 1) := by decide +kernel
theorem dX2_holds_41 : decode cX2_holds 41 = .ok (.getfield 16, 3) := by decide +kernel
theorem dX2_holds_44 : decode cX2_holds 44 = .ok (.iload_n 1, 1) := by decide +kernel
theorem dX2_holds_45 : decode cX2_holds 45 = .ok (.baload, 1) := by decide +kernel
theorem dX2_holds_46 : decode cX2_holds 46 = .ok (.ifCond .eq 7, 3) := by decide +kernel
theorem dX2_holds_49 : decode cX2_holds 49 = .ok (.lconst 1, 1) := by decide +kernel
theorem dX2_holds_50 : decode cX2_holds 50 = .ok (.goto 4, 3) := by decide +kernel
theorem dX2_holds_53 : decode cX2_holds 53 = .ok (.lconst 0, 1) := by decide +kernel
theorem dX2_holds_54 : decode cX2_holds 54 = .ok (.lreturn, 1) := by decide +kernel
theorem dX2_holds_55 : decode cX2_holds 55 = .ok (.iload_n 2, 1) := by decide +kernel
theorem dX2_holds_56 : decode cX2_holds 56 = .ok (.iconst 3, 1) := by decide +kernel
theorem dX2_holds_57 : decode cX2_holds 57 = .ok (.if_icmp .eq 7, 3) := by decide +kernel
theorem dX2_holds_60 : decode cX2_holds 60 = .ok (.ldc2_w 126, 3) := by decide +kernel
theorem dX2_holds_63 : decode cX2_holds 63 = .ok (.lreturn, 1) := by decide +kernel
theorem dX2_holds_64 : decode cX2_holds 64 = .ok (.iconst 0, 1) := by decide +kernel
theorem dX2_holds_65 : decode cX2_holds 65 = .ok (.istore_n 3, 1) := by decide +kernel
theorem dX2_holds_66 : decode cX2_holds 66 = .ok (.iconst 0, 1) := by decide +kernel
theorem dX2_holds_67 : decode cX2_holds 67 = .ok (.istore 4, 2) := by decide +kernel
theorem dX2_holds_69 : decode cX2_holds 69 = .ok (.iload 4, 2) := by decide +kernel
theorem dX2_holds_71 : decode cX2_holds 71 = .ok (.aload_n 0, 1) := by decide +kernel
theorem dX2_holds_72 : decode cX2_holds 72 = .ok (.getfield 169, 3) := by decide +kernel
theorem dX2_holds_75 : decode cX2_holds 75 = .ok (.if_icmp .ge 33, 3) := by decide +kernel
theorem dX2_holds_78 : decode cX2_holds 78 = .ok (.iload_n 3, 1) := by decide +kernel
theorem dX2_holds_79 : decode cX2_holds 79 = .ok (.aload_n 0, 1) := by decide +kernel
theorem dX2_holds_80 : decode cX2_holds 80 = .ok (.getfield 26, 3) := by decide +kernel
theorem dX2_holds_83 : decode cX2_holds 83 = .ok (.aload_n 0, 1) := by decide +kernel
theorem dX2_holds_84 : decode cX2_holds 84 = .ok (.getfield 55, 3) := by decide +kernel
theorem dX2_holds_87 : decode cX2_holds 87 = .ok (.iload 4, 2) := by decide +kernel
theorem dX2_holds_89 : decode cX2_holds 89 = .ok (.iaload, 1) := by decide +kernel
theorem dX2_holds_90 : decode cX2_holds 90 = .ok (.iaload, 1) := by decide +kernel
theorem dX2_holds_91 : decode cX2_holds 91 = .ok (.iload_n 1, 1) := by decide +kernel
theorem dX2_holds_92 : decode cX2_holds 92 = .ok (.if_icmp .ne 7, 3) := by decide +kernel
theorem dX2_holds_95 : decode cX2_holds 95 = .ok (.iconst 1, 1) := by decide +kernel
theorem dX2_holds_96 : decode cX2_holds 96 = .ok (.goto 4, 3) := by decide +kernel
theorem dX2_holds_99 : decode cX2_holds 99 = .ok (.iconst 0, 1) := by decide +kernel
theorem dX2_holds_100 : decode cX2_holds 100 = .ok (.iadd, 1) := by decide +kernel
theorem dX2_holds_101 : decode cX2_holds 101 = .ok (.istore_n 3, 1) := by decide +kernel
theorem dX2_holds_102 : decode cX2_holds 102 = .ok (.iinc 4 1, 3) := by decide +kernel
theorem dX2_holds_105 : decode cX2_holds 105 = .ok (.goto (-36), 3) := by decide +kernel
theorem dX2_holds_108 : decode cX2_holds 108 = .ok (.iload_n 3, 1) := by decide +kernel
theorem dX2_holds_109 : decode cX2_holds 109 = .ok (.i2l, 1) := by decide +kernel
theorem dX2_holds_110 : decode cX2_holds 110 = .ok (.lreturn, 1) := by decide +kernel
set_option maxRecDepth 20000 in
theorem ggX2_said_X2_isVote : GoodIn wsX2_said wsX2_isVote := goodIn_r _ [10, 11, 12, 13, 14, 15, 16, 17, 18, 19, 20, 21, 22, 23, 24, 25, 26, 27, 28, 29, 30, 31, 32, 33, 34, 35, 36, 37, 38] (by decide +kernel) (by decide +kernel)
set_option maxRecDepth 20000 in
theorem gX2_said_X2_isVote : GoodIn wsX2_said (wsV RX2 150 RX2 yX2_isVote wsX2_isVote) := goodIn_app (goodIn_of _ (by decide +kernel)) ggX2_said_X2_isVote
theorem dX2_said_0 : decode cX2_said 0 = .ok (.aload_n 0, 1) := by decide +kernel
theorem dX2_said_1 : decode cX2_said 1 = .ok (.iload_n 1, 1) := by decide +kernel
theorem dX2_said_2 : decode cX2_said 2 = .ok (.invokevirtual 150, 3) := by decide +kernel
theorem dX2_said_5 : decode cX2_said 5 = .ok (.ifCond .ne 6, 3) := by decide +kernel
theorem dX2_said_8 : decode cX2_said 8 = .ok (.bipush (-101), 2) := by decide +kernel
theorem dX2_said_10 : decode cX2_said 10 = .ok (.ireturn, 1) := by decide +kernel
theorem dX2_said_11 : decode cX2_said 11 = .ok (.iload_n 2, 1) := by decide +kernel
theorem dX2_said_12 : decode cX2_said 12 = .ok (.tableswitch 71 0 4 #[36, 43, 50, 57, 64], 36) := by decide +kernel
theorem dX2_said_48 : decode cX2_said 48 = .ok (.aload_n 0, 1) := by decide +kernel
theorem dX2_said_49 : decode cX2_said 49 = .ok (.getfield 26, 3) := by decide +kernel
theorem dX2_said_52 : decode cX2_said 52 = .ok (.iload_n 1, 1) := by decide +kernel
theorem dX2_said_53 : decode cX2_said 53 = .ok (.iaload, 1) := by decide +kernel
theorem dX2_said_54 : decode cX2_said 54 = .ok (.ireturn, 1) := by decide +kernel
theorem dX2_said_55 : decode cX2_said 55 = .ok (.aload_n 0, 1) := by decide +kernel
theorem dX2_said_56 : decode cX2_said 56 = .ok (.getfield 30, 3) := by decide +kernel
theorem dX2_said_59 : decode cX2_said 59 = .ok (.iload_n 1, 1) := by decide +kernel
theorem dX2_said_60 : decode cX2_said 60 = .ok (.iaload, 1) := by decide +kernel
theorem dX2_said_61 : decode cX2_said 61 = .ok (.ireturn, 1) := by decide +kernel
theorem dX2_said_62 : decode cX2_said 62 = .ok (.aload_n 0, 1) := by decide +kernel
theorem dX2_said_63 : decode cX2_said 63 = .ok (.getfield 33, 3) := by decide +kernel
theorem dX2_said_66 : decode cX2_said 66 = .ok (.iload_n 1, 1) := by decide +kernel
theorem dX2_said_67 : decode cX2_said 67 = .ok (.iaload, 1) := by decide +kernel
theorem dX2_said_68 : decode cX2_said 68 = .ok (.ireturn, 1) := by decide +kernel
theorem dX2_said_69 : decode cX2_said 69 = .ok (.aload_n 0, 1) := by decide +kernel
theorem dX2_said_70 : decode cX2_said 70 = .ok (.getfield 36, 3) := by decide +kernel
theorem dX2_said_73 : decode cX2_said 73 = .ok (.iload_n 1, 1) := by decide +kernel
theorem dX2_said_74 : decode cX2_said 74 = .ok (.iaload, 1) := by decide +kernel
theorem dX2_said_75 : decode cX2_said 75 = .ok (.ireturn, 1) := by decide +kernel
theorem dX2_said_76 : decode cX2_said 76 = .ok (.aload_n 0, 1) := by decide +kernel
theorem dX2_said_77 : decode cX2_said 77 = .ok (.getfield 39, 3) := by decide +kernel
theorem dX2_said_80 : decode cX2_said 80 = .ok (.iload_n 1, 1) := by decide +kernel
theorem dX2_said_81 : decode cX2_said 81 = .ok (.iaload, 1) := by decide +kernel
theorem dX2_said_82 : decode cX2_said 82 = .ok (.ireturn, 1) := by decide +kernel
theorem dX2_said_83 : decode cX2_said 83 = .ok (.bipush (-102), 2) := by decide +kernel
theorem dX2_said_85 : decode cX2_said 85 = .ok (.ireturn, 1) := by decide +kernel
set_option maxRecDepth 20000 in
theorem ggX2_weight_X2_isNode : GoodIn wsX2_weight wsX2_isNode := goodIn_r _ [9, 10, 16, 17, 18, 19, 20, 21, 22, 23, 24, 25, 26, 27, 28, 29, 30, 31, 32, 33, 34, 35, 36, 37, 38, 39, 40, 41, 42] (by decide +kernel) (by decide +kernel)
set_option maxRecDepth 20000 in
theorem gX2_weight_X2_isNode : GoodIn wsX2_weight (wsV RX2 121 RX2 yX2_isNode wsX2_isNode) := goodIn_app (goodIn_of _ (by decide +kernel)) ggX2_weight_X2_isNode
set_option maxRecDepth 20000 in
theorem ggX2_weight_X2_isHeight : GoodIn wsX2_weight wsX2_isHeight := goodIn_r _ [14, 15, 16, 17, 18, 19, 20, 21, 22, 23, 24, 25, 26, 27, 28, 29, 30, 31, 32, 33, 34, 35, 36, 37, 38, 39, 40, 41, 42] (by decide +kernel) (by decide +kernel)
set_option maxRecDepth 20000 in
theorem gX2_weight_X2_isHeight : GoodIn wsX2_weight (wsV RX2 172 RX2 yX2_isHeight wsX2_isHeight) := goodIn_app (goodIn_of _ (by decide +kernel)) ggX2_weight_X2_isHeight
theorem dX2_weight_0 : decode cX2_weight 0 = .ok (.iload_n 2, 1) := by decide +kernel
theorem dX2_weight_1 : decode cX2_weight 1 = .ok (.iconst (-1), 1) := by decide +kernel
theorem dX2_weight_2 : decode cX2_weight 2 = .ok (.if_icmp .eq 15, 3) := by decide +kernel
theorem dX2_weight_5 : decode cX2_weight 5 = .ok (.aload_n 0, 1) := by decide +kernel
theorem dX2_weight_6 : decode cX2_weight 6 = .ok (.iload_n 2, 1) := by decide +kernel
theorem dX2_weight_7 : decode cX2_weight 7 = .ok (.invokevirtual 121, 3) := by decide +kernel
theorem dX2_weight_10 : decode cX2_weight 10 = .ok (.ifCond .ne 7, 3) := by decide +kernel
theorem dX2_weight_13 : decode cX2_weight 13 = .ok (.ldc2_w 124, 3) := by decide +kernel
theorem dX2_weight_16 : decode cX2_weight 16 = .ok (.lreturn, 1) := by decide +kernel
theorem dX2_weight_17 : decode cX2_weight 17 = .ok (.aload_n 0, 1) := by decide +kernel
theorem dX2_weight_18 : decode cX2_weight 18 = .ok (.iload_n 1, 1) := by decide +kernel
theorem dX2_weight_19 : decode cX2_weight 19 = .ok (.invokevirtual 172, 3) := by decide +kernel
theorem dX2_weight_22 : decode cX2_weight 22 = .ok (.ifCond .ne 7, 3) := by decide +kernel
theorem dX2_weight_25 : decode cX2_weight 25 = .ok (.ldc2_w 126, 3) := by decide +kernel
theorem dX2_weight_28 : decode cX2_weight 28 = .ok (.lreturn, 1) := by decide +kernel
theorem dX2_weight_29 : decode cX2_weight 29 = .ok (.iload_n 2, 1) := by decide +kernel
theorem dX2_weight_30 : decode cX2_weight 30 = .ok (.iconst (-1), 1) := by decide +kernel
theorem dX2_weight_31 : decode cX2_weight 31 = .ok (.if_icmp .ne 12, 3) := by decide +kernel
theorem dX2_weight_34 : decode cX2_weight 34 = .ok (.aload_n 0, 1) := by decide +kernel
theorem dX2_weight_35 : decode cX2_weight 35 = .ok (.getfield 23, 3) := by decide +kernel
theorem dX2_weight_38 : decode cX2_weight 38 = .ok (.iload_n 1, 1) := by decide +kernel
theorem dX2_weight_39 : decode cX2_weight 39 = .ok (.laload, 1) := by decide +kernel
theorem dX2_weight_40 : decode cX2_weight 40 = .ok (.goto 14, 3) := by decide +kernel
theorem dX2_weight_43 : decode cX2_weight 43 = .ok (.aload_n 0, 1) := by decide +kernel
theorem dX2_weight_44 : decode cX2_weight 44 = .ok (.getfield 20, 3) := by decide +kernel
theorem dX2_weight_47 : decode cX2_weight 47 = .ok (.bipush 8, 2) := by decide +kernel
theorem dX2_weight_49 : decode cX2_weight 49 = .ok (.iload_n 1, 1) := by decide +kernel
theorem dX2_weight_50 : decode cX2_weight 50 = .ok (.imul, 1) := by decide +kernel
theorem dX2_weight_51 : decode cX2_weight 51 = .ok (.iload_n 2, 1) := by decide +kernel
theorem dX2_weight_52 : decode cX2_weight 52 = .ok (.iadd, 1) := by decide +kernel
theorem dX2_weight_53 : decode cX2_weight 53 = .ok (.laload, 1) := by decide +kernel
theorem dX2_weight_54 : decode cX2_weight 54 = .ok (.lreturn, 1) := by decide +kernel
set_option maxRecDepth 20000 in
theorem ggX2_backed_X2_isHeight : GoodIn wsX2_backed wsX2_isHeight := goodIn_r _ [9, 10, 22, 23, 24, 25, 26, 27, 28, 29, 30, 31, 32, 33, 34, 35, 36, 37, 38, 39, 40, 41, 42, 43, 44, 45, 46, 47, 48] (by decide +kernel) (by decide +kernel)
set_option maxRecDepth 20000 in
theorem gX2_backed_X2_isHeight : GoodIn wsX2_backed (wsV RX2 172 RX2 yX2_isHeight wsX2_isHeight) := goodIn_app (goodIn_of _ (by decide +kernel)) ggX2_backed_X2_isHeight
set_option maxRecDepth 20000 in
theorem ggX2_backed_X2_in : GoodIn wsX2_backed wsX2_in := goodIn_r _ [13] (by decide +kernel) (by decide +kernel)
set_option maxRecDepth 20000 in
theorem gX2_backed_X2_in : GoodIn wsX2_backed (va_wsS RX2 117 yX2_in wsX2_in) := goodIn_app (goodIn_of _ (by decide +kernel)) ggX2_backed_X2_in
set_option maxRecDepth 20000 in
theorem ggX2_backed_X2_place : GoodIn wsX2_backed wsX2_place := goodIn_r _ [16] (by decide +kernel) (by decide +kernel)
set_option maxRecDepth 20000 in
theorem gX2_backed_X2_place : GoodIn wsX2_backed (va_wsS RX2 93 yX2_place wsX2_place) := goodIn_app (goodIn_of _ (by decide +kernel)) ggX2_backed_X2_place
set_option maxRecDepth 20000 in
theorem ggX2_backed_X2_weightOf : GoodIn wsX2_backed wsX2_weightOf := goodIn_r _ [20, 21, 22, 23, 24, 25, 26, 27, 28, 29, 30, 31, 32, 33, 34, 35, 36, 37, 38, 39, 40, 41, 42, 43, 44, 45, 46, 47, 48] (by decide +kernel) (by decide +kernel)
set_option maxRecDepth 20000 in
theorem gX2_backed_X2_weightOf : GoodIn wsX2_backed (wsV RX2 87 RX2 yX2_weightOf wsX2_weightOf) := goodIn_app (goodIn_of _ (by decide +kernel)) ggX2_backed_X2_weightOf
theorem dX2_backed_0 : decode cX2_backed 0 = .ok (.aload_n 0, 1) := by decide +kernel
theorem dX2_backed_1 : decode cX2_backed 1 = .ok (.iload_n 1, 1) := by decide +kernel
theorem dX2_backed_2 : decode cX2_backed 2 = .ok (.invokevirtual 172, 3) := by decide +kernel
theorem dX2_backed_5 : decode cX2_backed 5 = .ok (.ifCond .eq 38, 3) := by decide +kernel
theorem dX2_backed_8 : decode cX2_backed 8 = .ok (.iload_n 2, 1) := by decide +kernel
theorem dX2_backed_9 : decode cX2_backed 9 = .ok (.i2l, 1) := by decide +kernel
theorem dX2_backed_10 : decode cX2_backed 10 = .ok (.lconst 0, 1) := by decide +kernel
theorem dX2_backed_11 : decode cX2_backed 11 = .ok (.ldc2_w 136, 3) := by decide +kernel
theorem dX2_backed_14 : decode cX2_backed 14 = .ok (.invokestatic 117, 3) := by decide +kernel
theorem dX2_backed_17 : decode cX2_backed 17 = .ok (.ifCond .eq 26, 3) := by decide +kernel
theorem dX2_backed_20 : decode cX2_backed 20 = .ok (.iload_n 3, 1) := by decide +kernel
theorem dX2_backed_21 : decode cX2_backed 21 = .ok (.i2l, 1) := by decide +kernel
theorem dX2_backed_22 : decode cX2_backed 22 = .ok (.lconst 0, 1) := by decide +kernel
theorem dX2_backed_23 : decode cX2_backed 23 = .ok (.lconst 1, 1) := by decide +kernel
theorem dX2_backed_24 : decode cX2_backed 24 = .ok (.invokestatic 117, 3) := by decide +kernel
theorem dX2_backed_27 : decode cX2_backed 27 = .ok (.ifCond .eq 16, 3) := by decide +kernel
theorem dX2_backed_30 : decode cX2_backed 30 = .ok (.iload 4, 2) := by decide +kernel
theorem dX2_backed_32 : decode cX2_backed 32 = .ok (.i2l, 1) := by decide +kernel
theorem dX2_backed_33 : decode cX2_backed 33 = .ok (.lconst 0, 1) := by decide +kernel
theorem dX2_backed_34 : decode cX2_backed 34 = .ok (.ldc2_w 138, 3) := by decide +kernel
theorem dX2_backed_37 : decode cX2_backed 37 = .ok (.invokestatic 117, 3) := by decide +kernel
theorem dX2_backed_40 : decode cX2_backed 40 = .ok (.ifCond .ne 7, 3) := by decide +kernel
theorem dX2_backed_43 : decode cX2_backed 43 = .ok (.ldc2_w 126, 3) := by decide +kernel
theorem dX2_backed_46 : decode cX2_backed 46 = .ok (.lreturn, 1) := by decide +kernel
theorem dX2_backed_47 : decode cX2_backed 47 = .ok (.aload_n 0, 1) := by decide +kernel
theorem dX2_backed_48 : decode cX2_backed 48 = .ok (.iload_n 1, 1) := by decide +kernel
theorem dX2_backed_49 : decode cX2_backed 49 = .ok (.aload_n 0, 1) := by decide +kernel
theorem dX2_backed_50 : decode cX2_backed 50 = .ok (.getfield 42, 3) := by decide +kernel
theorem dX2_backed_53 : decode cX2_backed 53 = .ok (.iload_n 1, 1) := by decide +kernel
theorem dX2_backed_54 : decode cX2_backed 54 = .ok (.iload_n 2, 1) := by decide +kernel
theorem dX2_backed_55 : decode cX2_backed 55 = .ok (.iload_n 3, 1) := by decide +kernel
theorem dX2_backed_56 : decode cX2_backed 56 = .ok (.iload 4, 2) := by decide +kernel
theorem dX2_backed_58 : decode cX2_backed 58 = .ok (.invokestatic 93, 3) := by decide +kernel
theorem dX2_backed_61 : decode cX2_backed 61 = .ok (.iaload, 1) := by decide +kernel
theorem dX2_backed_62 : decode cX2_backed 62 = .ok (.invokevirtual 87, 3) := by decide +kernel
theorem dX2_backed_65 : decode cX2_backed 65 = .ok (.lreturn, 1) := by decide +kernel
set_option maxRecDepth 20000 in
theorem ggX2_certain_X2_isHeight : GoodIn wsX2_certain wsX2_isHeight := goodIn_r _ [5, 6, 27, 28, 29, 30, 31, 32, 33, 34, 35, 36, 37, 38, 39, 40, 41, 42, 43, 44, 45, 46, 47, 48, 49, 50, 51, 52, 53] (by decide +kernel) (by decide +kernel)
set_option maxRecDepth 20000 in
theorem gX2_certain_X2_isHeight : GoodIn wsX2_certain (wsV RX2 172 RX2 yX2_isHeight wsX2_isHeight) := goodIn_app (goodIn_of _ (by decide +kernel)) ggX2_certain_X2_isHeight
set_option maxRecDepth 20000 in
theorem ggX2_certain_X2_isCertain : GoodIn wsX2_certain wsX2_isCertain := goodIn_r _ [10, 11, 12, 13, 4, 14, 15, 16, 17, 18, 19, 20, 21, 22, 23, 24, 25, 26, 27, 28, 29, 30, 31, 32, 33, 34, 35, 36, 37, 38, 39, 40, 41, 42, 43, 44, 45, 46, 47, 48, 49, 50, 51, 52, 53] (by decide +kernel) (by decide +kernel)
set_option maxRecDepth 20000 in
theorem gX2_certain_X2_isCertain : GoodIn wsX2_certain (wsV RX2 175 RX2 yX2_isCertain wsX2_isCertain) := goodIn_app (goodIn_of _ (by decide +kernel)) ggX2_certain_X2_isCertain
theorem dX2_certain_0 : decode cX2_certain 0 = .ok (.aload_n 0, 1) := by decide +kernel
theorem dX2_certain_1 : decode cX2_certain 1 = .ok (.iload_n 1, 1) := by decide +kernel
theorem dX2_certain_2 : decode cX2_certain 2 = .ok (.invokevirtual 172, 3) := by decide +kernel
theorem dX2_certain_5 : decode cX2_certain 5 = .ok (.ifCond .ne 6, 3) := by decide +kernel
theorem dX2_certain_8 : decode cX2_certain 8 = .ok (.bipush (-102), 2) := by decide +kernel
theorem dX2_certain_10 : decode cX2_certain 10 = .ok (.ireturn, 1) := by decide +kernel
theorem dX2_certain_11 : decode cX2_certain 11 = .ok (.iload_n 2, 1) := by decide +kernel
theorem dX2_certain_12 : decode cX2_certain 12 = .ok (.istore_n 3, 1) := by decide +kernel
theorem dX2_certain_13 : decode cX2_certain 13 = .ok (.iconst 1, 1) := by decide +kernel
theorem dX2_certain_14 : decode cX2_certain 14 = .ok (.istore 4, 2) := by decide +kernel
theorem dX2_certain_16 : decode cX2_certain 16 = .ok (.iload 4, 2) := by decide +kernel
theorem dX2_certain_18 : decode cX2_certain 18 = .ok (.bipush 10, 2) := by decide +kernel
theorem dX2_certain_20 : decode cX2_certain 20 = .ok (.if_icmp .ge 33, 3) := by decide +kernel
theorem dX2_certain_23 : decode cX2_certain 23 = .ok (.iload_n 2, 1) := by decide +kernel
theorem dX2_certain_24 : decode cX2_certain 24 = .ok (.ifCond .lt 29, 3) := by decide +kernel
theorem dX2_certain_27 : decode cX2_certain 27 = .ok (.aload_n 0, 1) := by decide +kernel
theorem dX2_certain_28 : decode cX2_certain 28 = .ok (.iload_n 1, 1) := by decide +kernel
theorem dX2_certain_29 : decode cX2_certain 29 = .ok (.iload 4, 2) := by decide +kernel
theorem dX2_certain_31 : decode cX2_certain 31 = .ok (.invokevirtual 175, 3) := by decide +kernel
theorem dX2_certain_34 : decode cX2_certain 34 = .ok (.ifCond .eq 13, 3) := by decide +kernel
theorem dX2_certain_37 : decode cX2_certain 37 = .ok (.iload_n 3, 1) := by decide +kernel
theorem dX2_certain_38 : decode cX2_certain 38 = .ok (.ifCond .ne 6, 3) := by decide +kernel
theorem dX2_certain_41 : decode cX2_certain 41 = .ok (.iload 4, 2) := by decide +kernel
theorem dX2_certain_43 : decode cX2_certain 43 = .ok (.ireturn, 1) := by decide +kernel
theorem dX2_certain_44 : decode cX2_certain 44 = .ok (.iinc 3 (-1), 3) := by decide +kernel
theorem dX2_certain_47 : decode cX2_certain 47 = .ok (.iinc 4 1, 3) := by decide +kernel
theorem dX2_certain_50 : decode cX2_certain 50 = .ok (.goto (-34), 3) := by decide +kernel
theorem dX2_certain_53 : decode cX2_certain 53 = .ok (.iconst (-1), 1) := by decide +kernel
theorem dX2_certain_54 : decode cX2_certain 54 = .ok (.ireturn, 1) := by decide +kernel
set_option maxRecDepth 20000 in
theorem ggX2_counts_X2_isBreak : GoodIn wsX2_counts wsX2_isBreak := goodIn_r _ [6, 7, 8, 9, 5, 10, 11, 1, 12, 13, 14, 15, 16, 17, 18, 19, 20, 21, 22, 23, 24, 25, 26, 27, 28, 29, 30, 31, 32, 33, 34, 35, 36, 37, 38, 39, 40, 41, 42, 43, 44, 45, 46, 47, 48, 49, 50, 51, 52, 53, 54, 55, 56, 57, 58, 59, 60, 61, 62, 63, 64, 65, 66, 67, 68, 69] (by decide +kernel) (by decide +kernel)
set_option maxRecDepth 20000 in
theorem gX2_counts_X2_isBreak : GoodIn wsX2_counts (wsV RX2 153 RX2 yX2_isBreak wsX2_isBreak) := goodIn_app (goodIn_of _ (by decide +kernel)) ggX2_counts_X2_isBreak
theorem dX2_counts_0 : decode cX2_counts 0 = .ok (.aload_n 0, 1) := by decide +kernel
theorem dX2_counts_1 : decode cX2_counts 1 = .ok (.getfield 30, 3) := by decide +kernel
theorem dX2_counts_4 : decode cX2_counts 4 = .ok (.iload_n 3, 1) := by decide +kernel
theorem dX2_counts_5 : decode cX2_counts 5 = .ok (.iaload, 1) := by decide +kernel
theorem dX2_counts_6 : decode cX2_counts 6 = .ok (.iload_n 1, 1) := by decide +kernel
theorem dX2_counts_7 : decode cX2_counts 7 = .ok (.if_icmp .ne 39, 3) := by decide +kernel
theorem dX2_counts_10 : decode cX2_counts 10 = .ok (.aload_n 0, 1) := by decide +kernel
theorem dX2_counts_11 : decode cX2_counts 11 = .ok (.getfield 30, 3) := by decide +kernel
theorem dX2_counts_14 : decode cX2_counts 14 = .ok (.iload 4, 2) := by decide +kernel
theorem dX2_counts_16 : decode cX2_counts 16 = .ok (.iaload, 1) := by decide +kernel
theorem dX2_counts_17 : decode cX2_counts 17 = .ok (.iload_n 1, 1) := by decide +kernel
theorem dX2_counts_18 : decode cX2_counts 18 = .ok (.if_icmp .ne 28, 3) := by decide +kernel
theorem dX2_counts_21 : decode cX2_counts 21 = .ok (.iload_n 2, 1) := by decide +kernel
theorem dX2_counts_22 : decode cX2_counts 22 = .ok (.ifCond .ne 9, 3) := by decide +kernel
theorem dX2_counts_25 : decode cX2_counts 25 = .ok (.iload_n 3, 1) := by decide +kernel
theorem dX2_counts_26 : decode cX2_counts 26 = .ok (.iload 4, 2) := by decide +kernel
theorem dX2_counts_28 : decode cX2_counts 28 = .ok (.if_icmp .ge 18, 3) := by decide +kernel
theorem dX2_counts_31 : decode cX2_counts 31 = .ok (.aload_n 0, 1) := by decide +kernel
theorem dX2_counts_32 : decode cX2_counts 32 = .ok (.iload_n 2, 1) := by decide +kernel
theorem dX2_counts_33 : decode cX2_counts 33 = .ok (.iload_n 3, 1) := by decide +kernel
theorem dX2_counts_34 : decode cX2_counts 34 = .ok (.iload 4, 2) := by decide +kernel
theorem dX2_counts_36 : decode cX2_counts 36 = .ok (.invokevirtual 153, 3) := by decide +kernel
theorem dX2_counts_39 : decode cX2_counts 39 = .ok (.ifCond .eq 7, 3) := by decide +kernel
theorem dX2_counts_42 : decode cX2_counts 42 = .ok (.iconst 1, 1) := by decide +kernel
theorem dX2_counts_43 : decode cX2_counts 43 = .ok (.goto 4, 3) := by decide +kernel
theorem dX2_counts_46 : decode cX2_counts 46 = .ok (.iconst 0, 1) := by decide +kernel
theorem dX2_counts_47 : decode cX2_counts 47 = .ok (.ireturn, 1) := by decide +kernel
set_option maxRecDepth 20000 in
theorem ggX2_breaks_X2_isHeight : GoodIn wsX2_breaks wsX2_isHeight := goodIn_r _ [8, 9, 56, 57, 58, 59, 60, 61, 62, 63, 64, 65, 66, 67, 68, 69, 70, 71, 72, 73, 74, 75, 76, 77, 78, 79, 80, 81, 82] (by decide +kernel) (by decide +kernel)
set_option maxRecDepth 20000 in
theorem gX2_breaks_X2_isHeight : GoodIn wsX2_breaks (wsV RX2 172 RX2 yX2_isHeight wsX2_isHeight) := goodIn_app (goodIn_of _ (by decide +kernel)) ggX2_breaks_X2_isHeight
set_option maxRecDepth 20000 in
theorem ggX2_breaks_X2_in : GoodIn wsX2_breaks wsX2_in := goodIn_r _ [12] (by decide +kernel) (by decide +kernel)
set_option maxRecDepth 20000 in
theorem gX2_breaks_X2_in : GoodIn wsX2_breaks (va_wsS RX2 117 yX2_in wsX2_in) := goodIn_app (goodIn_of _ (by decide +kernel)) ggX2_breaks_X2_in
set_option maxRecDepth 20000 in
theorem ggX2_breaks_X2_counts : GoodIn wsX2_breaks wsX2_counts := goodIn_r _ [16, 3, 17, 18, 19, 7, 20, 21, 22, 23, 24, 25, 26, 27, 28, 29, 30, 31, 32, 33, 34, 35, 36, 37, 38, 39, 40, 41, 42, 43, 44, 45, 1, 46, 47, 48, 49, 50, 51, 52, 53, 54, 55, 56, 57, 58, 59, 60, 61, 62, 63, 64, 65, 66, 67, 68, 69, 70, 71, 72, 73, 74, 75, 76, 77, 78, 79, 80, 81, 82] (by decide +kernel) (by decide +kernel)
set_option maxRecDepth 20000 in
theorem gX2_breaks_X2_counts : GoodIn wsX2_breaks (wsV RX2 178 RX2 yX2_counts wsX2_counts) := goodIn_app (goodIn_of _ (by decide +kernel)) ggX2_breaks_X2_counts
theorem dX2_breaks_0 : decode cX2_breaks 0 = .ok (.aload_n 0, 1) := by decide +kernel
theorem dX2_breaks_1 : decode cX2_breaks 1 = .ok (.iload_n 1, 1) := by decide +kernel
theorem dX2_breaks_2 : decode cX2_breaks 2 = .ok (.invokevirtual 172, 3) := by decide +kernel
theorem dX2_breaks_5 : decode cX2_breaks 5 = .ok (.ifCond .eq 15, 3) := by decide +kernel
theorem dX2_breaks_8 : decode cX2_breaks 8 = .ok (.iload_n 2, 1) := by decide +kernel
theorem dX2_breaks_9 : decode cX2_breaks 9 = .ok (.i2l, 1) := by decide +kernel
theorem dX2_breaks_10 : decode cX2_breaks 10 = .ok (.lconst 0, 1) := by decide +kernel
theorem dX2_breaks_11 : decode cX2_breaks 11 = .ok (.ldc2_w 91, 3) := by decide +kernel
theorem dX2_breaks_14 : decode cX2_breaks 14 = .ok (.invokestatic 117, 3) := by decide +kernel
theorem dX2_breaks_17 : decode cX2_breaks 17 = .ok (.ifCond .ne 6, 3) := by decide +kernel
theorem dX2_breaks_20 : decode cX2_breaks 20 = .ok (.bipush (-102), 2) := by decide +kernel
theorem dX2_breaks_22 : decode cX2_breaks 22 = .ok (.ireturn, 1) := by decide +kernel
theorem dX2_breaks_23 : decode cX2_breaks 23 = .ok (.iconst 0, 1) := by decide +kernel
theorem dX2_breaks_24 : decode cX2_breaks 24 = .ok (.istore_n 3, 1) := by decide +kernel
theorem dX2_breaks_25 : decode cX2_breaks 25 = .ok (.iconst 0, 1) := by decide +kernel
theorem dX2_breaks_26 : decode cX2_breaks 26 = .ok (.istore 4, 2) := by decide +kernel
theorem dX2_breaks_28 : decode cX2_breaks 28 = .ok (.iload 4, 2) := by decide +kernel
theorem dX2_breaks_30 : decode cX2_breaks 30 = .ok (.aload_n 0, 1) := by decide +kernel
theorem dX2_breaks_31 : decode cX2_breaks 31 = .ok (.getfield 79, 3) := by decide +kernel
theorem dX2_breaks_34 : decode cX2_breaks 34 = .ok (.if_icmp .ge 59, 3) := by decide +kernel
theorem dX2_breaks_37 : decode cX2_breaks 37 = .ok (.iconst 0, 1) := by decide +kernel
theorem dX2_breaks_38 : decode cX2_breaks 38 = .ok (.istore 5, 2) := by decide +kernel
theorem dX2_breaks_40 : decode cX2_breaks 40 = .ok (.iload 5, 2) := by decide +kernel
theorem dX2_breaks_42 : decode cX2_breaks 42 = .ok (.aload_n 0, 1) := by decide +kernel
theorem dX2_breaks_43 : decode cX2_breaks 43 = .ok (.getfield 79, 3) := by decide +kernel
theorem dX2_breaks_46 : decode cX2_breaks 46 = .ok (.if_icmp .ge 41, 3) := by decide +kernel
theorem dX2_breaks_49 : decode cX2_breaks 49 = .ok (.aload_n 0, 1) := by decide +kernel
theorem dX2_breaks_50 : decode cX2_breaks 50 = .ok (.getfield 30, 3) := by decide +kernel
theorem dX2_breaks_53 : decode cX2_breaks 53 = .ok (.iload 4, 2) := by decide +kernel
theorem dX2_breaks_55 : decode cX2_breaks 55 = .ok (.iaload, 1) := by decide +kernel
theorem dX2_breaks_56 : decode cX2_breaks 56 = .ok (.iload_n 1, 1) := by decide +kernel
theorem dX2_breaks_57 : decode cX2_breaks 57 = .ok (.if_icmp .ne 30, 3) := by decide +kernel
theorem dX2_breaks_60 : decode cX2_breaks 60 = .ok (.iload_n 3, 1) := by decide +kernel
theorem dX2_breaks_61 : decode cX2_breaks 61 = .ok (.aload_n 0, 1) := by decide +kernel
theorem dX2_breaks_62 : decode cX2_breaks 62 = .ok (.iload_n 1, 1) := by decide +kernel
theorem dX2_breaks_63 : decode cX2_breaks 63 = .ok (.iload_n 2, 1) := by decide +kernel
theorem dX2_breaks_64 : decode cX2_breaks 64 = .ok (.iload 4, 2) := by decide +kernel
theorem dX2_breaks_66 : decode cX2_breaks 66 = .ok (.iload 5, 2) := by decide +kernel
theorem dX2_breaks_68 : decode cX2_breaks 68 = .ok (.invokevirtual 178, 3) := by decide +kernel
theorem dX2_breaks_71 : decode cX2_breaks 71 = .ok (.ifCond .eq 7, 3) := by decide +kernel
theorem dX2_breaks_74 : decode cX2_breaks 74 = .ok (.iconst 1, 1) := by decide +kernel
theorem dX2_breaks_75 : decode cX2_breaks 75 = .ok (.goto 4, 3) := by decide +kernel
theorem dX2_breaks_78 : decode cX2_breaks 78 = .ok (.iconst 0, 1) := by decide +kernel
theorem dX2_breaks_79 : decode cX2_breaks 79 = .ok (.iadd, 1) := by decide +kernel
theorem dX2_breaks_80 : decode cX2_breaks 80 = .ok (.istore_n 3, 1) := by decide +kernel
theorem dX2_breaks_81 : decode cX2_breaks 81 = .ok (.iinc 5 1, 3) := by decide +kernel
theorem dX2_breaks_84 : decode cX2_breaks 84 = .ok (.goto (-44), 3) := by decide +kernel
theorem dX2_breaks_87 : decode cX2_breaks 87 = .ok (.iinc 4 1, 3) := by decide +kernel
theorem dX2_breaks_90 : decode cX2_breaks 90 = .ok (.goto (-62), 3) := by decide +kernel
theorem dX2_breaks_93 : decode cX2_breaks 93 = .ok (.iload_n 3, 1) := by decide +kernel
theorem dX2_breaks_94 : decode cX2_breaks 94 = .ok (.ireturn, 1) := by decide +kernel
set_option maxRecDepth 20000 in
theorem ggX2_broken_X2_isHeight : GoodIn wsX2_broken wsX2_isHeight := goodIn_r _ [8, 9, 56, 57, 58, 59, 60, 61, 62, 63, 64, 65, 66, 67, 68, 69, 70, 71, 72, 73, 74, 75, 76, 77, 78, 79, 80, 81, 82] (by decide +kernel) (by decide +kernel)
set_option maxRecDepth 20000 in
theorem gX2_broken_X2_isHeight : GoodIn wsX2_broken (wsV RX2 172 RX2 yX2_isHeight wsX2_isHeight) := goodIn_app (goodIn_of _ (by decide +kernel)) ggX2_broken_X2_isHeight
set_option maxRecDepth 20000 in
theorem ggX2_broken_X2_in : GoodIn wsX2_broken wsX2_in := goodIn_r _ [12] (by decide +kernel) (by decide +kernel)
set_option maxRecDepth 20000 in
theorem gX2_broken_X2_in : GoodIn wsX2_broken (va_wsS RX2 117 yX2_in wsX2_in) := goodIn_app (goodIn_of _ (by decide +kernel)) ggX2_broken_X2_in
set_option maxRecDepth 20000 in
theorem ggX2_broken_X2_counts : GoodIn wsX2_broken wsX2_counts := goodIn_r _ [16, 3, 17, 18, 19, 7, 20, 21, 22, 23, 24, 25, 26, 27, 28, 29, 30, 31, 32, 33, 34, 35, 36, 37, 38, 39, 40, 41, 42, 43, 44, 45, 1, 46, 47, 48, 49, 50, 51, 52, 53, 54, 55, 56, 57, 58, 59, 60, 61, 62, 63, 64, 65, 66, 67, 68, 69, 70, 71, 72, 73, 74, 75, 76, 77, 78, 79, 80, 81, 82] (by decide +kernel) (by decide +kernel)
set_option maxRecDepth 20000 in
theorem gX2_broken_X2_counts : GoodIn wsX2_broken (wsV RX2 178 RX2 yX2_counts wsX2_counts) := goodIn_app (goodIn_of _ (by decide +kernel)) ggX2_broken_X2_counts
theorem dX2_broken_0 : decode cX2_broken 0 = .ok (.aload_n 0, 1) := by decide +kernel
theorem dX2_broken_1 : decode cX2_broken 1 = .ok (.iload_n 1, 1) := by decide +kernel
theorem dX2_broken_2 : decode cX2_broken 2 = .ok (.invokevirtual 172, 3) := by decide +kernel
theorem dX2_broken_5 : decode cX2_broken 5 = .ok (.ifCond .eq 26, 3) := by decide +kernel
theorem dX2_broken_8 : decode cX2_broken 8 = .ok (.iload_n 2, 1) := by decide +kernel
end
section
theorem dX2_broken_9 : decode cX2_broken 9 = .ok (.i2l, 1) := by decide +kernel
theorem dX2_broken_10 : decode cX2_broken 10 = .ok (.lconst 0, 1) := by decide +kernel
theorem dX2_broken_11 : decode cX2_broken 11 = .ok (.ldc2_w 91, 3) := by decide +kernel
theorem dX2_broken_14 : decode cX2_broken 14 = .ok (.invokestatic 117, 3) := by decide +kernel
theorem dX2_broken_17 : decode cX2_broken 17 = .ok (.ifCond .eq 14, 3) := by decide +kernel
theorem dX2_broken_20 : decode cX2_broken 20 = .ok (.iload 4, 2) := by decide +kernel
theorem dX2_broken_22 : decode cX2_broken 22 = .ok (.i2l, 1) := by decide +kernel
theorem dX2_broken_23 : decode cX2_broken 23 = .ok (.lconst 0, 1) := by decide +kernel
theorem dX2_broken_24 : decode cX2_broken 24 = .ok (.lconst 1, 1) := by decide +kernel
theorem dX2_broken_25 : decode cX2_broken 25 = .ok (.invokestatic 117, 3) := by decide +kernel
theorem dX2_broken_28 : decode cX2_broken 28 = .ok (.ifCond .ne 6, 3) := by decide +kernel
theorem dX2_broken_31 : decode cX2_broken 31 = .ok (.bipush (-102), 2) := by decide +kernel
theorem dX2_broken_33 : decode cX2_broken 33 = .ok (.ireturn, 1) := by decide +kernel
theorem dX2_broken_34 : decode cX2_broken 34 = .ok (.iload_n 3, 1) := by decide +kernel
theorem dX2_broken_35 : decode cX2_broken 35 = .ok (.istore 5, 2) := by decide +kernel
theorem dX2_broken_37 : decode cX2_broken 37 = .ok (.iconst 0, 1) := by decide +kernel
theorem dX2_broken_38 : decode cX2_broken 38 = .ok (.istore 6, 2) := by decide +kernel
theorem dX2_broken_40 : decode cX2_broken 40 = .ok (.iload 6, 2) := by decide +kernel
theorem dX2_broken_42 : decode cX2_broken 42 = .ok (.aload_n 0, 1) := by decide +kernel
theorem dX2_broken_43 : decode cX2_broken 43 = .ok (.getfield 79, 3) := by decide +kernel
theorem dX2_broken_46 : decode cX2_broken 46 = .ok (.if_icmp .ge 85, 3) := by decide +kernel
theorem dX2_broken_49 : decode cX2_broken 49 = .ok (.iload_n 3, 1) := by decide +kernel
theorem dX2_broken_50 : decode cX2_broken 50 = .ok (.ifCond .lt 81, 3) := by decide +kernel
theorem dX2_broken_53 : decode cX2_broken 53 = .ok (.iconst 0, 1) := by decide +kernel
theorem dX2_broken_54 : decode cX2_broken 54 = .ok (.istore 7, 2) := by decide +kernel
theorem dX2_broken_56 : decode cX2_broken 56 = .ok (.iload 7, 2) := by decide +kernel
theorem dX2_broken_58 : decode cX2_broken 58 = .ok (.aload_n 0, 1) := by decide +kernel
theorem dX2_broken_59 : decode cX2_broken 59 = .ok (.getfield 79, 3) := by decide +kernel
theorem dX2_broken_62 : decode cX2_broken 62 = .ok (.if_icmp .ge 63, 3) := by decide +kernel
theorem dX2_broken_65 : decode cX2_broken 65 = .ok (.aload_n 0, 1) := by decide +kernel
theorem dX2_broken_66 : decode cX2_broken 66 = .ok (.getfield 30, 3) := by decide +kernel
theorem dX2_broken_69 : decode cX2_broken 69 = .ok (.iload 6, 2) := by decide +kernel
theorem dX2_broken_71 : decode cX2_broken 71 = .ok (.iaload, 1) := by decide +kernel
theorem dX2_broken_72 : decode cX2_broken 72 = .ok (.iload_n 1, 1) := by decide +kernel
theorem dX2_broken_73 : decode cX2_broken 73 = .ok (.if_icmp .ne 52, 3) := by decide +kernel
theorem dX2_broken_76 : decode cX2_broken 76 = .ok (.aload_n 0, 1) := by decide +kernel
theorem dX2_broken_77 : decode cX2_broken 77 = .ok (.iload_n 1, 1) := by decide +kernel
theorem dX2_broken_78 : decode cX2_broken 78 = .ok (.iload_n 2, 1) := by decide +kernel
theorem dX2_broken_79 : decode cX2_broken 79 = .ok (.iload 6, 2) := by decide +kernel
theorem dX2_broken_81 : decode cX2_broken 81 = .ok (.iload 7, 2) := by decide +kernel
theorem dX2_broken_83 : decode cX2_broken 83 = .ok (.invokevirtual 178, 3) := by decide +kernel
theorem dX2_broken_86 : decode cX2_broken 86 = .ok (.ifCond .eq 33, 3) := by decide +kernel
theorem dX2_broken_89 : decode cX2_broken 89 = .ok (.iload 5, 2) := by decide +kernel
theorem dX2_broken_91 : decode cX2_broken 91 = .ok (.ifCond .ne 25, 3) := by decide +kernel
theorem dX2_broken_94 : decode cX2_broken 94 = .ok (.iload 4, 2) := by decide +kernel
theorem dX2_broken_96 : decode cX2_broken 96 = .ok (.ifCond .ne 8, 3) := by decide +kernel
theorem dX2_broken_99 : decode cX2_broken 99 = .ok (.iload 6, 2) := by decide +kernel
theorem dX2_broken_101 : decode cX2_broken 101 = .ok (.goto 14, 3) := by decide +kernel
theorem dX2_broken_104 : decode cX2_broken 104 = .ok (.iload_n 2, 1) := by decide +kernel
theorem dX2_broken_105 : decode cX2_broken 105 = .ok (.iconst 2, 1) := by decide +kernel
theorem dX2_broken_106 : decode cX2_broken 106 = .ok (.if_icmp .ne 7, 3) := by decide +kernel
theorem dX2_broken_109 : decode cX2_broken 109 = .ok (.iconst (-1), 1) := by decide +kernel
theorem dX2_broken_110 : decode cX2_broken 110 = .ok (.goto 5, 3) := by decide +kernel
theorem dX2_broken_113 : decode cX2_broken 113 = .ok (.iload 7, 2) := by decide +kernel
theorem dX2_broken_115 : decode cX2_broken 115 = .ok (.ireturn, 1) := by decide +kernel
theorem dX2_broken_116 : decode cX2_broken 116 = .ok (.iinc 5 (-1), 3) := by decide +kernel
theorem dX2_broken_119 : decode cX2_broken 119 = .ok (.iinc 7 1, 3) := by decide +kernel
theorem dX2_broken_122 : decode cX2_broken 122 = .ok (.goto (-66), 3) := by decide +kernel
theorem dX2_broken_125 : decode cX2_broken 125 = .ok (.iinc 6 1, 3) := by decide +kernel
theorem dX2_broken_128 : decode cX2_broken 128 = .ok (.goto (-88), 3) := by decide +kernel
theorem dX2_broken_131 : decode cX2_broken 131 = .ok (.iconst (-1), 1) := by decide +kernel
theorem dX2_broken_132 : decode cX2_broken 132 = .ok (.ireturn, 1) := by decide +kernel
set_option maxRecDepth 20000 in
theorem ggX2_named_X2_isHeight : GoodIn wsX2_named wsX2_isHeight := goodIn_r _ [8, 9, 53, 54, 55, 56, 57, 58, 59, 60, 61, 62, 63, 64, 65, 66, 67, 68, 69, 70, 71, 72, 73, 74, 75, 76, 77, 78, 79] (by decide +kernel) (by decide +kernel)
set_option maxRecDepth 20000 in
theorem gX2_named_X2_isHeight : GoodIn wsX2_named (wsV RX2 172 RX2 yX2_isHeight wsX2_isHeight) := goodIn_app (goodIn_of _ (by decide +kernel)) ggX2_named_X2_isHeight
set_option maxRecDepth 20000 in
theorem ggX2_named_X2_counts : GoodIn wsX2_named wsX2_counts := goodIn_r _ [13, 2, 14, 15, 16, 7, 17, 18, 19, 20, 21, 3, 22, 23, 24, 25, 26, 27, 28, 29, 30, 31, 32, 33, 34, 35, 36, 37, 38, 39, 40, 41, 42, 43, 44, 45, 46, 47, 48, 49, 50, 51, 52, 53, 54, 55, 56, 57, 58, 59, 60, 61, 62, 63, 64, 65, 66, 67, 68, 69, 70, 71, 72, 73, 74, 75, 76, 77, 78, 79] (by decide +kernel) (by decide +kernel)
set_option maxRecDepth 20000 in
theorem gX2_named_X2_counts : GoodIn wsX2_named (wsV RX2 178 RX2 yX2_counts wsX2_counts) := goodIn_app (goodIn_of _ (by decide +kernel)) ggX2_named_X2_counts
theorem dX2_named_0 : decode cX2_named 0 = .ok (.aload_n 0, 1) := by decide +kernel
theorem dX2_named_1 : decode cX2_named 1 = .ok (.iload_n 1, 1) := by decide +kernel
theorem dX2_named_2 : decode cX2_named 2 = .ok (.invokevirtual 172, 3) := by decide +kernel
theorem dX2_named_5 : decode cX2_named 5 = .ok (.ifCond .ne 6, 3) := by decide +kernel
theorem dX2_named_8 : decode cX2_named 8 = .ok (.bipush (-102), 2) := by decide +kernel
theorem dX2_named_10 : decode cX2_named 10 = .ok (.ireturn, 1) := by decide +kernel
theorem dX2_named_11 : decode cX2_named 11 = .ok (.iconst 0, 1) := by decide +kernel
theorem dX2_named_12 : decode cX2_named 12 = .ok (.istore_n 2, 1) := by decide +kernel
theorem dX2_named_13 : decode cX2_named 13 = .ok (.iconst 0, 1) := by decide +kernel
theorem dX2_named_14 : decode cX2_named 14 = .ok (.istore_n 3, 1) := by decide +kernel
theorem dX2_named_15 : decode cX2_named 15 = .ok (.iload_n 3, 1) := by decide +kernel
theorem dX2_named_16 : decode cX2_named 16 = .ok (.aload_n 0, 1) := by decide +kernel
theorem dX2_named_17 : decode cX2_named 17 = .ok (.getfield 79, 3) := by decide +kernel
theorem dX2_named_20 : decode cX2_named 20 = .ok (.if_icmp .ge 93, 3) := by decide +kernel
theorem dX2_named_23 : decode cX2_named 23 = .ok (.iconst 0, 1) := by decide +kernel
theorem dX2_named_24 : decode cX2_named 24 = .ok (.istore 4, 2) := by decide +kernel
theorem dX2_named_26 : decode cX2_named 26 = .ok (.iload 4, 2) := by decide +kernel
theorem dX2_named_28 : decode cX2_named 28 = .ok (.aload_n 0, 1) := by decide +kernel
theorem dX2_named_29 : decode cX2_named 29 = .ok (.getfield 79, 3) := by decide +kernel
theorem dX2_named_32 : decode cX2_named 32 = .ok (.if_icmp .ge 75, 3) := by decide +kernel
theorem dX2_named_35 : decode cX2_named 35 = .ok (.aload_n 0, 1) := by decide +kernel
theorem dX2_named_36 : decode cX2_named 36 = .ok (.getfield 30, 3) := by decide +kernel
theorem dX2_named_39 : decode cX2_named 39 = .ok (.iload_n 3, 1) := by decide +kernel
theorem dX2_named_40 : decode cX2_named 40 = .ok (.iaload, 1) := by decide +kernel
theorem dX2_named_41 : decode cX2_named 41 = .ok (.iload_n 1, 1) := by decide +kernel
theorem dX2_named_42 : decode cX2_named 42 = .ok (.if_icmp .ne 65, 3) := by decide +kernel
theorem dX2_named_45 : decode cX2_named 45 = .ok (.iconst 0, 1) := by decide +kernel
theorem dX2_named_46 : decode cX2_named 46 = .ok (.istore 5, 2) := by decide +kernel
theorem dX2_named_48 : decode cX2_named 48 = .ok (.iload 5, 2) := by decide +kernel
theorem dX2_named_50 : decode cX2_named 50 = .ok (.iconst 3, 1) := by decide +kernel
theorem dX2_named_51 : decode cX2_named 51 = .ok (.if_icmp .ge 50, 3) := by decide +kernel
theorem dX2_named_54 : decode cX2_named 54 = .ok (.iload_n 2, 1) := by decide +kernel
theorem dX2_named_55 : decode cX2_named 55 = .ok (.aload_n 0, 1) := by decide +kernel
theorem dX2_named_56 : decode cX2_named 56 = .ok (.getfield 26, 3) := by decide +kernel
theorem dX2_named_59 : decode cX2_named 59 = .ok (.iload_n 3, 1) := by decide +kernel
theorem dX2_named_60 : decode cX2_named 60 = .ok (.iaload, 1) := by decide +kernel
theorem dX2_named_61 : decode cX2_named 61 = .ok (.ishr, 1) := by decide +kernel
theorem dX2_named_62 : decode cX2_named 62 = .ok (.iconst 1, 1) := by decide +kernel
theorem dX2_named_63 : decode cX2_named 63 = .ok (.iand, 1) := by decide +kernel
theorem dX2_named_64 : decode cX2_named 64 = .ok (.ifCond .ne 37, 3) := by decide +kernel
theorem dX2_named_67 : decode cX2_named 67 = .ok (.iload_n 2, 1) := by decide +kernel
theorem dX2_named_68 : decode cX2_named 68 = .ok (.aload_n 0, 1) := by decide +kernel
theorem dX2_named_69 : decode cX2_named 69 = .ok (.iload_n 1, 1) := by decide +kernel
theorem dX2_named_70 : decode cX2_named 70 = .ok (.iload 5, 2) := by decide +kernel
theorem dX2_named_72 : decode cX2_named 72 = .ok (.iload_n 3, 1) := by decide +kernel
theorem dX2_named_73 : decode cX2_named 73 = .ok (.iload 4, 2) := by decide +kernel
theorem dX2_named_75 : decode cX2_named 75 = .ok (.invokevirtual 178, 3) := by decide +kernel
theorem dX2_named_78 : decode cX2_named 78 = .ok (.ifCond .eq 14, 3) := by decide +kernel
theorem dX2_named_81 : decode cX2_named 81 = .ok (.iconst 1, 1) := by decide +kernel
theorem dX2_named_82 : decode cX2_named 82 = .ok (.aload_n 0, 1) := by decide +kernel
theorem dX2_named_83 : decode cX2_named 83 = .ok (.getfield 26, 3) := by decide +kernel
theorem dX2_named_86 : decode cX2_named 86 = .ok (.iload_n 3, 1) := by decide +kernel
theorem dX2_named_87 : decode cX2_named 87 = .ok (.iaload, 1) := by decide +kernel
theorem dX2_named_88 : decode cX2_named 88 = .ok (.ishl, 1) := by decide +kernel
theorem dX2_named_89 : decode cX2_named 89 = .ok (.goto 4, 3) := by decide +kernel
theorem dX2_named_92 : decode cX2_named 92 = .ok (.iconst 0, 1) := by decide +kernel
theorem dX2_named_93 : decode cX2_named 93 = .ok (.ior, 1) := by decide +kernel
theorem dX2_named_94 : decode cX2_named 94 = .ok (.istore_n 2, 1) := by decide +kernel
theorem dX2_named_95 : decode cX2_named 95 = .ok (.iinc 5 1, 3) := by decide +kernel
theorem dX2_named_98 : decode cX2_named 98 = .ok (.goto (-50), 3) := by decide +kernel
theorem dX2_named_101 : decode cX2_named 101 = .ok (.iinc 4 1, 3) := by decide +kernel
theorem dX2_named_104 : decode cX2_named 104 = .ok (.goto (-78), 3) := by decide +kernel
theorem dX2_named_107 : decode cX2_named 107 = .ok (.iinc 3 1, 3) := by decide +kernel
theorem dX2_named_110 : decode cX2_named 110 = .ok (.goto (-95), 3) := by decide +kernel
theorem dX2_named_113 : decode cX2_named 113 = .ok (.iload_n 2, 1) := by decide +kernel
theorem dX2_named_114 : decode cX2_named 114 = .ok (.ireturn, 1) := by decide +kernel
theorem dX2_taken_0 : decode cX2_taken 0 = .ok (.iload_n 1, 1) := by decide +kernel
theorem dX2_taken_1 : decode cX2_taken 1 = .ok (.ifCond .lt 11, 3) := by decide +kernel
theorem dX2_taken_4 : decode cX2_taken 4 = .ok (.iload_n 1, 1) := by decide +kernel
theorem dX2_taken_5 : decode cX2_taken 5 = .ok (.aload_n 0, 1) := by decide +kernel
theorem dX2_taken_6 : decode cX2_taken 6 = .ok (.getfield 169, 3) := by decide +kernel
theorem dX2_taken_9 : decode cX2_taken 9 = .ok (.if_icmp .lt 7, 3) := by decide +kernel
theorem dX2_taken_12 : decode cX2_taken 12 = .ok (.ldc2_w 124, 3) := by decide +kernel
theorem dX2_taken_15 : decode cX2_taken 15 = .ok (.lreturn, 1) := by decide +kernel
theorem dX2_taken_16 : decode cX2_taken 16 = .ok (.iload_n 2, 1) := by decide +kernel
theorem dX2_taken_17 : decode cX2_taken 17 = .ok (.tableswitch 97 0 6 #[43, 51, 59, 67, 75, 83, 90], 43) := by decide +kernel
theorem dX2_taken_60 : decode cX2_taken 60 = .ok (.aload_n 0, 1) := by decide +kernel
theorem dX2_taken_61 : decode cX2_taken 61 = .ok (.getfield 52, 3) := by decide +kernel
theorem dX2_taken_64 : decode cX2_taken 64 = .ok (.iload_n 1, 1) := by decide +kernel
theorem dX2_taken_65 : decode cX2_taken 65 = .ok (.iaload, 1) := by decide +kernel
theorem dX2_taken_66 : decode cX2_taken 66 = .ok (.i2l, 1) := by decide +kernel
theorem dX2_taken_67 : decode cX2_taken 67 = .ok (.lreturn, 1) := by decide +kernel
theorem dX2_taken_68 : decode cX2_taken 68 = .ok (.aload_n 0, 1) := by decide +kernel
theorem dX2_taken_69 : decode cX2_taken 69 = .ok (.getfield 55, 3) := by decide +kernel
theorem dX2_taken_72 : decode cX2_taken 72 = .ok (.iload_n 1, 1) := by decide +kernel
theorem dX2_taken_73 : decode cX2_taken 73 = .ok (.iaload, 1) := by decide +kernel
theorem dX2_taken_74 : decode cX2_taken 74 = .ok (.i2l, 1) := by decide +kernel
theorem dX2_taken_75 : decode cX2_taken 75 = .ok (.lreturn, 1) := by decide +kernel
theorem dX2_taken_76 : decode cX2_taken 76 = .ok (.aload_n 0, 1) := by decide +kernel
theorem dX2_taken_77 : decode cX2_taken 77 = .ok (.getfield 58, 3) := by decide +kernel
theorem dX2_taken_80 : decode cX2_taken 80 = .ok (.iload_n 1, 1) := by decide +kernel
theorem dX2_taken_81 : decode cX2_taken 81 = .ok (.iaload, 1) := by decide +kernel
theorem dX2_taken_82 : decode cX2_taken 82 = .ok (.i2l, 1) := by decide +kernel
theorem dX2_taken_83 : decode cX2_taken 83 = .ok (.lreturn, 1) := by decide +kernel
theorem dX2_taken_84 : decode cX2_taken 84 = .ok (.aload_n 0, 1) := by decide +kernel
theorem dX2_taken_85 : decode cX2_taken 85 = .ok (.getfield 61, 3) := by decide +kernel
theorem dX2_taken_88 : decode cX2_taken 88 = .ok (.iload_n 1, 1) := by decide +kernel
theorem dX2_taken_89 : decode cX2_taken 89 = .ok (.iaload, 1) := by decide +kernel
theorem dX2_taken_90 : decode cX2_taken 90 = .ok (.i2l, 1) := by decide +kernel
theorem dX2_taken_91 : decode cX2_taken 91 = .ok (.lreturn, 1) := by decide +kernel
theorem dX2_taken_92 : decode cX2_taken 92 = .ok (.aload_n 0, 1) := by decide +kernel
theorem dX2_taken_93 : decode cX2_taken 93 = .ok (.getfield 64, 3) := by decide +kernel
theorem dX2_taken_96 : decode cX2_taken 96 = .ok (.iload_n 1, 1) := by decide +kernel
theorem dX2_taken_97 : decode cX2_taken 97 = .ok (.iaload, 1) := by decide +kernel
theorem dX2_taken_98 : decode cX2_taken 98 = .ok (.i2l, 1) := by decide +kernel
theorem dX2_taken_99 : decode cX2_taken 99 = .ok (.lreturn, 1) := by decide +kernel
theorem dX2_taken_100 : decode cX2_taken 100 = .ok (.aload_n 0, 1) := by decide +kernel
theorem dX2_taken_101 : decode cX2_taken 101 = .ok (.getfield 67, 3) := by decide +kernel
theorem dX2_taken_104 : decode cX2_taken 104 = .ok (.iload_n 1, 1) := by decide +kernel
theorem dX2_taken_105 : decode cX2_taken 105 = .ok (.laload, 1) := by decide +kernel
theorem dX2_taken_106 : decode cX2_taken 106 = .ok (.lreturn, 1) := by decide +kernel
theorem dX2_taken_107 : decode cX2_taken 107 = .ok (.aload_n 0, 1) := by decide +kernel
theorem dX2_taken_108 : decode cX2_taken 108 = .ok (.getfield 70, 3) := by decide +kernel
theorem dX2_taken_111 : decode cX2_taken 111 = .ok (.iload_n 1, 1) := by decide +kernel
theorem dX2_taken_112 : decode cX2_taken 112 = .ok (.laload, 1) := by decide +kernel
theorem dX2_taken_113 : decode cX2_taken 113 = .ok (.lreturn, 1) := by decide +kernel
theorem dX2_taken_114 : decode cX2_taken 114 = .ok (.ldc2_w 126, 3) := by decide +kernel
theorem dX2_taken_117 : decode cX2_taken 117 = .ok (.lreturn, 1) := by decide +kernel
theorem dJ9_max_7cf53_0 : decode cJ9_max_7cf53 0 = .ok (.iload_n 0, 1) := by decide +kernel
theorem dJ9_max_7cf53_1 : decode cJ9_max_7cf53 1 = .ok (.iload_n 1, 1) := by decide +kernel
theorem dJ9_max_7cf53_2 : decode cJ9_max_7cf53 2 = .ok (.if_icmp .lt 7, 3) := by decide +kernel
theorem dJ9_max_7cf53_5 : decode cJ9_max_7cf53 5 = .ok (.iload_n 0, 1) := by decide +kernel
theorem dJ9_max_7cf53_6 : decode cJ9_max_7cf53 6 = .ok (.goto 4, 3) := by decide +kernel
theorem dJ9_max_7cf53_9 : decode cJ9_max_7cf53 9 = .ok (.iload_n 1, 1) := by decide +kernel
theorem dJ9_max_7cf53_10 : decode cJ9_max_7cf53 10 = .ok (.ireturn, 1) := by decide +kernel
theorem dJ9_min_7cf53_0 : decode cJ9_min_7cf53 0 = .ok (.iload_n 0, 1) := by decide +kernel
theorem dJ9_min_7cf53_1 : decode cJ9_min_7cf53 1 = .ok (.iload_n 1, 1) := by decide +kernel
theorem dJ9_min_7cf53_2 : decode cJ9_min_7cf53 2 = .ok (.if_icmp .gt 7, 3) := by decide +kernel
theorem dJ9_min_7cf53_5 : decode cJ9_min_7cf53 5 = .ok (.iload_n 0, 1) := by decide +kernel
theorem dJ9_min_7cf53_6 : decode cJ9_min_7cf53 6 = .ok (.goto 4, 3) := by decide +kernel
theorem dJ9_min_7cf53_9 : decode cJ9_min_7cf53 9 = .ok (.iload_n 1, 1) := by decide +kernel
theorem dJ9_min_7cf53_10 : decode cJ9_min_7cf53 10 = .ok (.ireturn, 1) := by decide +kernel
theorem dJxa1e45_init_da8c8_0 : decode cJxa1e45_init_da8c8 0 = .ok (.aload_n 0, 1) := by decide +kernel
theorem dJxa1e45_init_da8c8_1 : decode cJxa1e45_init_da8c8 1 = .ok (.invokespecial 1, 3) := by decide +kernel
theorem dJxa1e45_init_da8c8_4 : decode cJxa1e45_init_da8c8 4 = .ok (.return_, 1) := by decide +kernel
set_option maxRecDepth 20000 in
theorem ggJxc12de_init_da8c8_Jxa1e45_init_da8c8 : GoodIn wsJxc12de_init_da8c8 wsJxa1e45_init_da8c8 := goodIn_r _ [5, 6, 7, 8] (by decide +kernel) (by decide +kernel)
set_option maxRecDepth 20000 in
theorem gJxc12de_init_da8c8_Jxa1e45_init_da8c8 : GoodIn wsJxc12de_init_da8c8 (wsJxa1e45_init_da8c8) := ggJxc12de_init_da8c8_Jxa1e45_init_da8c8
theorem dJxc12de_init_da8c8_0 : decode cJxc12de_init_da8c8 0 = .ok (.aload_n 0, 1) := by decide +kernel
theorem dJxc12de_init_da8c8_1 : decode cJxc12de_init_da8c8 1 = .ok (.invokespecial 1, 3) := by decide +kernel
theorem dJxc12de_init_da8c8_4 : decode cJxc12de_init_da8c8 4 = .ok (.aload_n 0, 1) := by decide +kernel
theorem dJxc12de_init_da8c8_5 : decode cJxc12de_init_da8c8 5 = .ok (.iconst 0, 1) := by decide +kernel
theorem dJxc12de_init_da8c8_6 : decode cJxc12de_init_da8c8 6 = .ok (.putfield 7, 3) := by decide +kernel
theorem dJxc12de_init_da8c8_9 : decode cJxc12de_init_da8c8 9 = .ok (.return_, 1) := by decide +kernel
set_option maxRecDepth 20000 in
theorem ggJx4a65c_init_da8c8_Jxc12de_init_da8c8 : GoodIn wsJx4a65c_init_da8c8 wsJxc12de_init_da8c8 := goodIn_r _ [6, 7, 8, 9, 10, 11, 12, 13, 14, 15, 16, 17] (by decide +kernel) (by decide +kernel)
set_option maxRecDepth 20000 in
theorem gJx4a65c_init_da8c8_Jxc12de_init_da8c8 : GoodIn wsJx4a65c_init_da8c8 (wsJxc12de_init_da8c8) := ggJx4a65c_init_da8c8_Jxc12de_init_da8c8
theorem dJx4a65c_init_da8c8_0 : decode cJx4a65c_init_da8c8 0 = .ok (.aload_n 0, 1) := by decide +kernel
theorem dJx4a65c_init_da8c8_1 : decode cJx4a65c_init_da8c8 1 = .ok (.invokespecial 1, 3) := by decide +kernel
theorem dJx4a65c_init_da8c8_4 : decode cJx4a65c_init_da8c8 4 = .ok (.aload_n 0, 1) := by decide +kernel
theorem dJx4a65c_init_da8c8_5 : decode cJx4a65c_init_da8c8 5 = .ok (.getstatic 39, 3) := by decide +kernel
theorem dJx4a65c_init_da8c8_8 : decode cJx4a65c_init_da8c8 8 = .ok (.putfield 9, 3) := by decide +kernel
theorem dJx4a65c_init_da8c8_11 : decode cJx4a65c_init_da8c8 11 = .ok (.return_, 1) := by decide +kernel
set_option maxRecDepth 20000 in
theorem ggJx4a65c_grow_92f84_J8_newLength_cabcc : GoodIn wsJx4a65c_grow_92f84 wsJ8_newLength_cabcc := goodIn_r _ [11, 12, 4, 5, 6, 13, 14, 15, 10, 16] (by decide +kernel) (by decide +kernel)
set_option maxRecDepth 20000 in
theorem gJx4a65c_grow_92f84_J8_newLength_cabcc : GoodIn wsJx4a65c_grow_92f84 (va_wsS RJx4a65c 73 yJ8_newLength_cabcc wsJ8_newLength_cabcc) := goodIn_app (goodIn_of _ (by decide +kernel)) ggJx4a65c_grow_92f84_J8_newLength_cabcc
set_option maxRecDepth 20000 in
theorem ggJx4a65c_grow_92f84_J7_copyOf_1904c : GoodIn wsJx4a65c_grow_92f84 wsJ7_copyOf_1904c := goodIn_r _ [20, 21, 22, 23, 24, 25, 26, 19, 27, 28, 29, 30, 31, 5, 32, 33, 34, 35, 36] (by decide +kernel) (by decide +kernel)
set_option maxRecDepth 20000 in
theorem gJx4a65c_grow_92f84_J7_copyOf_1904c : GoodIn wsJx4a65c_grow_92f84 (va_wsS RJx4a65c 66 yJ7_copyOf_1904c wsJ7_copyOf_1904c) := goodIn_app (goodIn_of _ (by decide +kernel)) ggJx4a65c_grow_92f84_J7_copyOf_1904c
theorem dJx4a65c_grow_92f84_0 : decode cJx4a65c_grow_92f84 0 = .ok (.aload_n 0, 1) := by decide +kernel
theorem dJx4a65c_grow_92f84_1 : decode cJx4a65c_grow_92f84 1 = .ok (.getfield 9, 3) := by decide +kernel
theorem dJx4a65c_grow_92f84_4 : decode cJx4a65c_grow_92f84 4 = .ok (.arraylength, 1) := by decide +kernel
theorem dJx4a65c_grow_92f84_5 : decode cJx4a65c_grow_92f84 5 = .ok (.istore_n 2, 1) := by decide +kernel
theorem dJx4a65c_grow_92f84_6 : decode cJx4a65c_grow_92f84 6 = .ok (.iload_n 2, 1) := by decide +kernel
theorem dJx4a65c_grow_92f84_7 : decode cJx4a65c_grow_92f84 7 = .ok (.ifCond .gt 13, 3) := by decide +kernel
theorem dJx4a65c_grow_92f84_10 : decode cJx4a65c_grow_92f84 10 = .ok (.aload_n 0, 1) := by decide +kernel
theorem dJx4a65c_grow_92f84_11 : decode cJx4a65c_grow_92f84 11 = .ok (.getfield 9, 3) := by decide +kernel
theorem dJx4a65c_grow_92f84_14 : decode cJx4a65c_grow_92f84 14 = .ok (.getstatic 39, 3) := by decide +kernel
theorem dJx4a65c_grow_92f84_17 : decode cJx4a65c_grow_92f84 17 = .ok (.if_acmp .eq 28, 3) := by decide +kernel
theorem dJx4a65c_grow_92f84_20 : decode cJx4a65c_grow_92f84 20 = .ok (.iload_n 2, 1) := by decide +kernel
theorem dJx4a65c_grow_92f84_21 : decode cJx4a65c_grow_92f84 21 = .ok (.iload_n 1, 1) := by decide +kernel
theorem dJx4a65c_grow_92f84_22 : decode cJx4a65c_grow_92f84 22 = .ok (.iload_n 2, 1) := by decide +kernel
theorem dJx4a65c_grow_92f84_23 : decode cJx4a65c_grow_92f84 23 = .ok (.isub, 1) := by decide +kernel
theorem dJx4a65c_grow_92f84_24 : decode cJx4a65c_grow_92f84 24 = .ok (.iload_n 2, 1) := by decide +kernel
theorem dJx4a65c_grow_92f84_25 : decode cJx4a65c_grow_92f84 25 = .ok (.iconst 1, 1) := by decide +kernel
theorem dJx4a65c_grow_92f84_26 : decode cJx4a65c_grow_92f84 26 = .ok (.ishr, 1) := by decide +kernel
theorem dJx4a65c_grow_92f84_27 : decode cJx4a65c_grow_92f84 27 = .ok (.invokestatic 73, 3) := by decide +kernel
theorem dJx4a65c_grow_92f84_30 : decode cJx4a65c_grow_92f84 30 = .ok (.istore_n 3, 1) := by decide +kernel
theorem dJx4a65c_grow_92f84_31 : decode cJx4a65c_grow_92f84 31 = .ok (.aload_n 0, 1) := by decide +kernel
theorem dJx4a65c_grow_92f84_32 : decode cJx4a65c_grow_92f84 32 = .ok (.aload_n 0, 1) := by decide +kernel
theorem dJx4a65c_grow_92f84_33 : decode cJx4a65c_grow_92f84 33 = .ok (.getfield 9, 3) := by decide +kernel
theorem dJx4a65c_grow_92f84_36 : decode cJx4a65c_grow_92f84 36 = .ok (.iload_n 3, 1) := by decide +kernel
theorem dJx4a65c_grow_92f84_37 : decode cJx4a65c_grow_92f84 37 = .ok (.invokestatic 66, 3) := by decide +kernel
theorem dJx4a65c_grow_92f84_40 : decode cJx4a65c_grow_92f84 40 = .ok (.dup_x1, 1) := by decide +kernel
theorem dJx4a65c_grow_92f84_41 : decode cJx4a65c_grow_92f84 41 = .ok (.putfield 9, 3) := by decide +kernel
theorem dJx4a65c_grow_92f84_44 : decode cJx4a65c_grow_92f84 44 = .ok (.areturn, 1) := by decide +kernel
theorem dJx4a65c_grow_92f84_45 : decode cJx4a65c_grow_92f84 45 = .ok (.aload_n 0, 1) := by decide +kernel
theorem dJx4a65c_grow_92f84_46 : decode cJx4a65c_grow_92f84 46 = .ok (.bipush 10, 2) := by decide +kernel
theorem dJx4a65c_grow_92f84_48 : decode cJx4a65c_grow_92f84 48 = .ok (.iload_n 1, 1) := by decide +kernel
theorem dJx4a65c_grow_92f84_49 : decode cJx4a65c_grow_92f84 49 = .ok (.invokestatic 79, 3) := by decide +kernel
theorem dJx4a65c_grow_92f84_52 : decode cJx4a65c_grow_92f84 52 = .ok (.anewarray 7, 3) := by decide +kernel
theorem dJx4a65c_grow_92f84_55 : decode cJx4a65c_grow_92f84 55 = .ok (.dup_x1, 1) := by decide +kernel
theorem dJx4a65c_grow_92f84_56 : decode cJx4a65c_grow_92f84 56 = .ok (.putfield 9, 3) := by decide +kernel
theorem dJx4a65c_grow_92f84_59 : decode cJx4a65c_grow_92f84 59 = .ok (.areturn, 1) := by decide +kernel
set_option maxRecDepth 20000 in
theorem ggJx4a65c_grow_d5877_Jx4a65c_grow_92f84 : GoodIn wsJx4a65c_grow_d5877 wsJx4a65c_grow_92f84 := goodIn_r _ [6, 7, 8, 9, 10, 11, 12, 13, 14, 15, 16, 17, 18, 19, 20, 21, 22, 23, 24, 25, 26, 27, 28, 29, 30, 31, 32, 33, 34, 35, 36, 37, 38, 39, 40, 41, 42, 43, 44, 45] (by decide +kernel) (by decide +kernel)
set_option maxRecDepth 20000 in
theorem gJx4a65c_grow_d5877_Jx4a65c_grow_92f84 : GoodIn wsJx4a65c_grow_d5877 (wsV RJx4a65c 69 RJx4a65c yJx4a65c_grow_92f84 wsJx4a65c_grow_92f84) := goodIn_app (goodIn_of _ (by decide +kernel)) ggJx4a65c_grow_d5877_Jx4a65c_grow_92f84
theorem dJx4a65c_grow_d5877_0 : decode cJx4a65c_grow_d5877 0 = .ok (.aload_n 0, 1) := by decide +kernel
theorem dJx4a65c_grow_d5877_1 : decode cJx4a65c_grow_d5877 1 = .ok (.aload_n 0, 1) := by decide +kernel
theorem dJx4a65c_grow_d5877_2 : decode cJx4a65c_grow_d5877 2 = .ok (.getfield 48, 3) := by decide +kernel
theorem dJx4a65c_grow_d5877_5 : decode cJx4a65c_grow_d5877 5 = .ok (.iconst 1, 1) := by decide +kernel
theorem dJx4a65c_grow_d5877_6 : decode cJx4a65c_grow_d5877 6 = .ok (.iadd, 1) := by decide +kernel
theorem dJx4a65c_grow_d5877_7 : decode cJx4a65c_grow_d5877 7 = .ok (.invokevirtual 69, 3) := by decide +kernel
theorem dJx4a65c_grow_d5877_10 : decode cJx4a65c_grow_d5877 10 = .ok (.areturn, 1) := by decide +kernel
theorem dJx4a65c_size_8abf5_0 : decode cJx4a65c_size_8abf5 0 = .ok (.aload_n 0, 1) := by decide +kernel
theorem dJx4a65c_size_8abf5_1 : decode cJx4a65c_size_8abf5 1 = .ok (.getfield 48, 3) := by decide +kernel
theorem dJx4a65c_size_8abf5_4 : decode cJx4a65c_size_8abf5 4 = .ok (.ireturn, 1) := by decide +kernel
theorem dJx4a65c_elementData_915e3_0 : decode cJx4a65c_elementData_915e3 0 = .ok (.aload_n 0, 1) := by decide +kernel
theorem dJx4a65c_elementData_915e3_1 : decode cJx4a65c_elementData_915e3 1 = .ok (.getfield 9, 3) := by decide +kernel
theorem dJx4a65c_elementData_915e3_4 : decode cJx4a65c_elementData_915e3 4 = .ok (.iload_n 1, 1) := by decide +kernel
theorem dJx4a65c_elementData_915e3_5 : decode cJx4a65c_elementData_915e3 5 = .ok (.aaload, 1) := by decide +kernel
theorem dJx4a65c_elementData_915e3_6 : decode cJx4a65c_elementData_915e3 6 = .ok (.areturn, 1) := by decide +kernel
set_option maxRecDepth 20000 in
theorem ggJx4a65c_get_915e3_J15_checkIndex_7cf53 : GoodIn wsJx4a65c_get_915e3 wsJ15_checkIndex_7cf53 := goodIn_r _ [5, 6, 7, 8, 9] (by decide +kernel) (by decide +kernel)
set_option maxRecDepth 20000 in
theorem gJx4a65c_get_915e3_J15_checkIndex_7cf53 : GoodIn wsJx4a65c_get_915e3 (va_wsS RJx4a65c 118 yJ15_checkIndex_7cf53 wsJ15_checkIndex_7cf53) := goodIn_app (goodIn_of _ (by decide +kernel)) ggJx4a65c_get_915e3_J15_checkIndex_7cf53
set_option maxRecDepth 20000 in
theorem ggJx4a65c_get_915e3_Jx4a65c_elementData_915e3 : GoodIn wsJx4a65c_get_915e3 wsJx4a65c_elementData_915e3 := goodIn_r _ [14, 15, 16, 17, 18] (by decide +kernel) (by decide +kernel)
set_option maxRecDepth 20000 in
theorem gJx4a65c_get_915e3_Jx4a65c_elementData_915e3 : GoodIn wsJx4a65c_get_915e3 (wsV RJx4a65c 123 RJx4a65c yJx4a65c_elementData_915e3 wsJx4a65c_elementData_915e3) := goodIn_app (goodIn_of _ (by decide +kernel)) ggJx4a65c_get_915e3_Jx4a65c_elementData_915e3
theorem dJx4a65c_get_915e3_0 : decode cJx4a65c_get_915e3 0 = .ok (.iload_n 1, 1) := by decide +kernel
theorem dJx4a65c_get_915e3_1 : decode cJx4a65c_get_915e3 1 = .ok (.aload_n 0, 1) := by decide +kernel
theorem dJx4a65c_get_915e3_2 : decode cJx4a65c_get_915e3 2 = .ok (.getfield 48, 3) := by decide +kernel
theorem dJx4a65c_get_915e3_5 : decode cJx4a65c_get_915e3 5 = .ok (.invokestatic 118, 3) := by decide +kernel
theorem dJx4a65c_get_915e3_8 : decode cJx4a65c_get_915e3 8 = .ok (.pop, 1) := by decide +kernel
theorem dJx4a65c_get_915e3_9 : decode cJx4a65c_get_915e3 9 = .ok (.aload_n 0, 1) := by decide +kernel
theorem dJx4a65c_get_915e3_10 : decode cJx4a65c_get_915e3 10 = .ok (.iload_n 1, 1) := by decide +kernel
theorem dJx4a65c_get_915e3_11 : decode cJx4a65c_get_915e3 11 = .ok (.invokevirtual 123, 3) := by decide +kernel
theorem dJx4a65c_get_915e3_14 : decode cJx4a65c_get_915e3 14 = .ok (.areturn, 1) := by decide +kernel
set_option maxRecDepth 20000 in
theorem ggJx4a65c_add_72be8_Jx4a65c_grow_d5877 : GoodIn wsJx4a65c_add_72be8 wsJx4a65c_grow_d5877 := goodIn_r _ [6, 1, 7, 8, 9, 5, 10, 11, 12, 13, 14, 15, 16, 17, 18, 19, 20, 21, 22, 23, 24, 25, 26, 27, 28, 29, 30, 31, 32, 33, 34, 35, 36, 37, 38, 39, 40, 41, 42, 43, 44, 45, 46, 47, 48, 49] (by decide +kernel) (by decide +kernel)
set_option maxRecDepth 20000 in
theorem gJx4a65c_add_72be8_Jx4a65c_grow_d5877 : GoodIn wsJx4a65c_add_72be8 (wsV RJx4a65c 129 RJx4a65c yJx4a65c_grow_d5877 wsJx4a65c_grow_d5877) := goodIn_app (goodIn_of _ (by decide +kernel)) ggJx4a65c_add_72be8_Jx4a65c_grow_d5877
theorem dJx4a65c_add_72be8_0 : decode cJx4a65c_add_72be8 0 = .ok (.iload_n 3, 1) := by decide +kernel
theorem dJx4a65c_add_72be8_1 : decode cJx4a65c_add_72be8 1 = .ok (.aload_n 2, 1) := by decide +kernel
theorem dJx4a65c_add_72be8_2 : decode cJx4a65c_add_72be8 2 = .ok (.arraylength, 1) := by decide +kernel
theorem dJx4a65c_add_72be8_3 : decode cJx4a65c_add_72be8 3 = .ok (.if_icmp .ne 8, 3) := by decide +kernel
theorem dJx4a65c_add_72be8_6 : decode cJx4a65c_add_72be8 6 = .ok (.aload_n 0, 1) := by decide +kernel
theorem dJx4a65c_add_72be8_7 : decode cJx4a65c_add_72be8 7 = .ok (.invokevirtual 129, 3) := by decide +kernel
theorem dJx4a65c_add_72be8_10 : decode cJx4a65c_add_72be8 10 = .ok (.astore_n 2, 1) := by decide +kernel
theorem dJx4a65c_add_72be8_11 : decode cJx4a65c_add_72be8 11 = .ok (.aload_n 2, 1) := by decide +kernel
theorem dJx4a65c_add_72be8_12 : decode cJx4a65c_add_72be8 12 = .ok (.iload_n 3, 1) := by decide +kernel
theorem dJx4a65c_add_72be8_13 : decode cJx4a65c_add_72be8 13 = .ok (.aload_n 1, 1) := by decide +kernel
theorem dJx4a65c_add_72be8_14 : decode cJx4a65c_add_72be8 14 = .ok (.aastore, 1) := by decide +kernel
theorem dJx4a65c_add_72be8_15 : decode cJx4a65c_add_72be8 15 = .ok (.aload_n 0, 1) := by decide +kernel
theorem dJx4a65c_add_72be8_16 : decode cJx4a65c_add_72be8 16 = .ok (.iload_n 3, 1) := by decide +kernel
theorem dJx4a65c_add_72be8_17 : decode cJx4a65c_add_72be8 17 = .ok (.iconst 1, 1) := by decide +kernel
theorem dJx4a65c_add_72be8_18 : decode cJx4a65c_add_72be8 18 = .ok (.iadd, 1) := by decide +kernel
theorem dJx4a65c_add_72be8_19 : decode cJx4a65c_add_72be8 19 = .ok (.putfield 48, 3) := by decide +kernel
theorem dJx4a65c_add_72be8_22 : decode cJx4a65c_add_72be8 22 = .ok (.return_, 1) := by decide +kernel
set_option maxRecDepth 20000 in
theorem ggJx4a65c_add_9ea2d_Jx4a65c_add_72be8 : GoodIn wsJx4a65c_add_9ea2d wsJx4a65c_add_72be8 := goodIn_r _ [9, 4, 10, 11, 12, 8, 13, 14, 15, 16, 17, 3, 18, 19, 20, 21, 22, 23, 24, 25, 26, 27, 28, 29, 30, 31, 32, 33, 34, 35, 36, 37, 38, 39, 40, 41, 42, 43, 44, 45, 46, 47, 48, 49, 50, 51, 52, 53, 54, 55] (by decide +kernel) (by decide +kernel)
set_option maxRecDepth 20000 in
theorem gJx4a65c_add_9ea2d_Jx4a65c_add_72be8 : GoodIn wsJx4a65c_add_9ea2d (wsV RJx4a65c 131 RJx4a65c yJx4a65c_add_72be8 wsJx4a65c_add_72be8) := goodIn_app (goodIn_of _ (by decide +kernel)) ggJx4a65c_add_9ea2d_Jx4a65c_add_72be8
theorem dJx4a65c_add_9ea2d_0 : decode cJx4a65c_add_9ea2d 0 = .ok (.aload_n 0, 1) := by decide +kernel
theorem dJx4a65c_add_9ea2d_1 : decode cJx4a65c_add_9ea2d 1 = .ok (.dup, 1) := by decide +kernel
theorem dJx4a65c_add_9ea2d_2 : decode cJx4a65c_add_9ea2d 2 = .ok (.getfield 63, 3) := by decide +kernel
theorem dJx4a65c_add_9ea2d_5 : decode cJx4a65c_add_9ea2d 5 = .ok (.iconst 1, 1) := by decide +kernel
theorem dJx4a65c_add_9ea2d_6 : decode cJx4a65c_add_9ea2d 6 = .ok (.iadd, 1) := by decide +kernel
theorem dJx4a65c_add_9ea2d_7 : decode cJx4a65c_add_9ea2d 7 = .ok (.putfield 63, 3) := by decide +kernel
theorem dJx4a65c_add_9ea2d_10 : decode cJx4a65c_add_9ea2d 10 = .ok (.aload_n 0, 1) := by decide +kernel
theorem dJx4a65c_add_9ea2d_11 : decode cJx4a65c_add_9ea2d 11 = .ok (.aload_n 1, 1) := by decide +kernel
theorem dJx4a65c_add_9ea2d_12 : decode cJx4a65c_add_9ea2d 12 = .ok (.aload_n 0, 1) := by decide +kernel
theorem dJx4a65c_add_9ea2d_13 : decode cJx4a65c_add_9ea2d 13 = .ok (.getfield 9, 3) := by decide +kernel
theorem dJx4a65c_add_9ea2d_16 : decode cJx4a65c_add_9ea2d 16 = .ok (.aload_n 0, 1) := by decide +kernel
theorem dJx4a65c_add_9ea2d_17 : decode cJx4a65c_add_9ea2d 17 = .ok (.getfield 48, 3) := by decide +kernel
theorem dJx4a65c_add_9ea2d_20 : decode cJx4a65c_add_9ea2d 20 = .ok (.invokevirtual 131, 3) := by decide +kernel
theorem dJx4a65c_add_9ea2d_23 : decode cJx4a65c_add_9ea2d 23 = .ok (.iconst 1, 1) := by decide +kernel
theorem dJx4a65c_add_9ea2d_24 : decode cJx4a65c_add_9ea2d 24 = .ok (.ireturn, 1) := by decide +kernel
set_option maxRecDepth 20000 in
theorem ggJ7_copyOf_1904c_J7_copyOf_6403c : GoodIn wsJ7_copyOf_1904c wsJ7_copyOf_6403c := goodIn_r _ [8, 9, 10, 11, 12, 13, 14, 15, 16, 17, 18] (by decide +kernel) (by decide +kernel)
set_option maxRecDepth 20000 in
theorem gJ7_copyOf_1904c_J7_copyOf_6403c : GoodIn wsJ7_copyOf_1904c (va_wsS RJ7 300 yJ7_copyOf_6403c wsJ7_copyOf_6403c) := goodIn_app (goodIn_of _ (by decide +kernel)) ggJ7_copyOf_1904c_J7_copyOf_6403c
theorem dJ7_copyOf_1904c_0 : decode cJ7_copyOf_1904c 0 = .ok (.aload_n 0, 1) := by decide +kernel
theorem dJ7_copyOf_1904c_1 : decode cJ7_copyOf_1904c 1 = .ok (.iload_n 1, 1) := by decide +kernel
theorem dJ7_copyOf_1904c_2 : decode cJ7_copyOf_1904c 2 = .ok (.aload_n 0, 1) := by decide +kernel
theorem dJ7_copyOf_1904c_3 : decode cJ7_copyOf_1904c 3 = .ok (.invokevirtual 86, 3) := by decide +kernel
theorem dJ7_copyOf_1904c_6 : decode cJ7_copyOf_1904c 6 = .ok (.invokestatic 300, 3) := by decide +kernel
theorem dJ7_copyOf_1904c_9 : decode cJ7_copyOf_1904c 9 = .ok (.areturn, 1) := by decide +kernel
theorem dJ7_copyOf_6403c_0 : decode cJ7_copyOf_6403c 0 = .ok (.aload_n 2, 1) := by decide +kernel
theorem dJ7_copyOf_6403c_1 : decode cJ7_copyOf_6403c 1 = .ok (.ldc 110, 2) := by decide +kernel
theorem dJ7_copyOf_6403c_3 : decode cJ7_copyOf_6403c 3 = .ok (.if_acmp .ne 10, 3) := by decide +kernel
theorem dJ7_copyOf_6403c_6 : decode cJ7_copyOf_6403c 6 = .ok (.iload_n 1, 1) := by decide +kernel
theorem dJ7_copyOf_6403c_7 : decode cJ7_copyOf_6403c 7 = .ok (.anewarray 2, 3) := by decide +kernel
theorem dJ7_copyOf_6403c_10 : decode cJ7_copyOf_6403c 10 = .ok (.goto 14, 3) := by decide +kernel
theorem dJ7_copyOf_6403c_13 : decode cJ7_copyOf_6403c 13 = .ok (.aload_n 2, 1) := by decide +kernel
theorem dJ7_copyOf_6403c_14 : decode cJ7_copyOf_6403c 14 = .ok (.invokevirtual 90, 3) := by decide +kernel
theorem dJ7_copyOf_6403c_17 : decode cJ7_copyOf_6403c 17 = .ok (.iload_n 1, 1) := by decide +kernel
theorem dJ7_copyOf_6403c_18 : decode cJ7_copyOf_6403c 18 = .ok (.invokestatic 95, 3) := by decide +kernel
theorem dJ7_copyOf_6403c_21 : decode cJ7_copyOf_6403c 21 = .ok (.checkcast 110, 3) := by decide +kernel
theorem dJ7_copyOf_6403c_24 : decode cJ7_copyOf_6403c 24 = .ok (.astore_n 3, 1) := by decide +kernel
theorem dJ7_copyOf_6403c_25 : decode cJ7_copyOf_6403c 25 = .ok (.aload_n 0, 1) := by decide +kernel
theorem dJ7_copyOf_6403c_26 : decode cJ7_copyOf_6403c 26 = .ok (.iconst 0, 1) := by decide +kernel
theorem dJ7_copyOf_6403c_27 : decode cJ7_copyOf_6403c 27 = .ok (.aload_n 3, 1) := by decide +kernel
theorem dJ7_copyOf_6403c_28 : decode cJ7_copyOf_6403c 28 = .ok (.iconst 0, 1) := by decide +kernel
theorem dJ7_copyOf_6403c_29 : decode cJ7_copyOf_6403c 29 = .ok (.aload_n 0, 1) := by decide +kernel
theorem dJ7_copyOf_6403c_30 : decode cJ7_copyOf_6403c 30 = .ok (.arraylength, 1) := by decide +kernel
theorem dJ7_copyOf_6403c_31 : decode cJ7_copyOf_6403c 31 = .ok (.iload_n 1, 1) := by decide +kernel
theorem dJ7_copyOf_6403c_32 : decode cJ7_copyOf_6403c 32 = .ok (.invokestatic 304, 3) := by decide +kernel
theorem dJ7_copyOf_6403c_35 : decode cJ7_copyOf_6403c 35 = .ok (.invokestatic 150, 3) := by decide +kernel
theorem dJ7_copyOf_6403c_38 : decode cJ7_copyOf_6403c 38 = .ok (.aload_n 3, 1) := by decide +kernel
theorem dJ7_copyOf_6403c_39 : decode cJ7_copyOf_6403c 39 = .ok (.areturn, 1) := by decide +kernel
set_option maxRecDepth 20000 in
theorem ggJ15_checkIndex_7cf53_J3_checkIndex_8e157 : GoodIn wsJ15_checkIndex_7cf53 wsJ3_checkIndex_8e157 := goodIn_r _ [4] (by decide +kernel) (by decide +kernel)
set_option maxRecDepth 20000 in
theorem gJ15_checkIndex_7cf53_J3_checkIndex_8e157 : GoodIn wsJ15_checkIndex_7cf53 (va_wsS RJ15 105 yJ3_checkIndex_8e157 wsJ3_checkIndex_8e157) := goodIn_app (goodIn_of _ (by decide +kernel)) ggJ15_checkIndex_7cf53_J3_checkIndex_8e157
theorem dJ15_checkIndex_7cf53_0 : decode cJ15_checkIndex_7cf53 0 = .ok (.iload_n 0, 1) := by decide +kernel
theorem dJ15_checkIndex_7cf53_1 : decode cJ15_checkIndex_7cf53 1 = .ok (.iload_n 1, 1) := by decide +kernel
theorem dJ15_checkIndex_7cf53_2 : decode cJ15_checkIndex_7cf53 2 = .ok (.aconst_null, 1) := by decide +kernel
theorem dJ15_checkIndex_7cf53_3 : decode cJ15_checkIndex_7cf53 3 = .ok (.invokestatic 105, 3) := by decide +kernel
theorem dJ15_checkIndex_7cf53_6 : decode cJ15_checkIndex_7cf53 6 = .ok (.ireturn, 1) := by decide +kernel
set_option maxRecDepth 20000 in
theorem ggJ8_newLength_cabcc_J8_hugeLength_7cf53 : GoodIn wsJ8_newLength_cabcc wsJ8_hugeLength_7cf53 := goodIn_r _ [9, 5] (by decide +kernel) (by decide +kernel)
set_option maxRecDepth 20000 in
theorem gJ8_newLength_cabcc_J8_hugeLength_7cf53 : GoodIn wsJ8_newLength_cabcc (va_wsS RJ8 201 yJ8_hugeLength_7cf53 wsJ8_hugeLength_7cf53) := goodIn_app (goodIn_of _ (by decide +kernel)) ggJ8_newLength_cabcc_J8_hugeLength_7cf53
theorem dJ8_newLength_cabcc_0 : decode cJ8_newLength_cabcc 0 = .ok (.iload_n 0, 1) := by decide +kernel
theorem dJ8_newLength_cabcc_1 : decode cJ8_newLength_cabcc 1 = .ok (.iload_n 1, 1) := by decide +kernel
theorem dJ8_newLength_cabcc_2 : decode cJ8_newLength_cabcc 2 = .ok (.iload_n 2, 1) := by decide +kernel
theorem dJ8_newLength_cabcc_3 : decode cJ8_newLength_cabcc 3 = .ok (.invokestatic 194, 3) := by decide +kernel
theorem dJ8_newLength_cabcc_6 : decode cJ8_newLength_cabcc 6 = .ok (.iadd, 1) := by decide +kernel
theorem dJ8_newLength_cabcc_7 : decode cJ8_newLength_cabcc 7 = .ok (.istore_n 3, 1) := by decide +kernel
theorem dJ8_newLength_cabcc_8 : decode cJ8_newLength_cabcc 8 = .ok (.iconst 0, 1) := by decide +kernel
theorem dJ8_newLength_cabcc_9 : decode cJ8_newLength_cabcc 9 = .ok (.iload_n 3, 1) := by decide +kernel
theorem dJ8_newLength_cabcc_10 : decode cJ8_newLength_cabcc 10 = .ok (.if_icmp .ge 11, 3) := by decide +kernel
theorem dJ8_newLength_cabcc_13 : decode cJ8_newLength_cabcc 13 = .ok (.iload_n 3, 1) := by decide +kernel
theorem dJ8_newLength_cabcc_14 : decode cJ8_newLength_cabcc 14 = .ok (.ldc 200, 2) := by decide +kernel
theorem dJ8_newLength_cabcc_16 : decode cJ8_newLength_cabcc 16 = .ok (.if_icmp .gt 5, 3) := by decide +kernel
theorem dJ8_newLength_cabcc_19 : decode cJ8_newLength_cabcc 19 = .ok (.iload_n 3, 1) := by decide +kernel
theorem dJ8_newLength_cabcc_20 : decode cJ8_newLength_cabcc 20 = .ok (.ireturn, 1) := by decide +kernel
theorem dJ8_newLength_cabcc_21 : decode cJ8_newLength_cabcc 21 = .ok (.iload_n 0, 1) := by decide +kernel
theorem dJ8_newLength_cabcc_22 : decode cJ8_newLength_cabcc 22 = .ok (.iload_n 1, 1) := by decide +kernel
theorem dJ8_newLength_cabcc_23 : decode cJ8_newLength_cabcc 23 = .ok (.invokestatic 201, 3) := by decide +kernel
theorem dJ8_newLength_cabcc_26 : decode cJ8_newLength_cabcc 26 = .ok (.ireturn, 1) := by decide +kernel
theorem dJ8_hugeLength_7cf53_0 : decode cJ8_hugeLength_7cf53 0 = .ok (.iload_n 0, 1) := by decide +kernel
theorem dJ8_hugeLength_7cf53_1 : decode cJ8_hugeLength_7cf53 1 = .ok (.iload_n 1, 1) := by decide +kernel
theorem dJ8_hugeLength_7cf53_2 : decode cJ8_hugeLength_7cf53 2 = .ok (.iadd, 1) := by decide +kernel
theorem dJ8_hugeLength_7cf53_3 : decode cJ8_hugeLength_7cf53 3 = .ok (.istore_n 2, 1) := by decide +kernel
theorem dJ8_hugeLength_7cf53_4 : decode cJ8_hugeLength_7cf53 4 = .ok (.iload_n 2, 1) := by decide +kernel
theorem dJ8_hugeLength_7cf53_5 : decode cJ8_hugeLength_7cf53 5 = .ok (.ifCond .ge 44, 3) := by decide +kernel
theorem dJ8_hugeLength_7cf53_8 : decode cJ8_hugeLength_7cf53 8 = .ok (.new 204, 3) := by decide +kernel
theorem dJ8_hugeLength_7cf53_11 : decode cJ8_hugeLength_7cf53 11 = .ok (.dup, 1) := by decide +kernel
theorem dJ8_hugeLength_7cf53_12 : decode cJ8_hugeLength_7cf53 12 = .ok (.new 89, 3) := by decide +kernel
theorem dJ8_hugeLength_7cf53_15 : decode cJ8_hugeLength_7cf53 15 = .ok (.dup, 1) := by decide +kernel
theorem dJ8_hugeLength_7cf53_16 : decode cJ8_hugeLength_7cf53 16 = .ok (.invokespecial 91, 3) := by decide +kernel
theorem dJ8_hugeLength_7cf53_19 : decode cJ8_hugeLength_7cf53 19 = .ok (.ldc 206, 2) := by decide +kernel
theorem dJ8_hugeLength_7cf53_21 : decode cJ8_hugeLength_7cf53 21 = .ok (.invokevirtual 94, 3) := by decide +kernel
theorem dJ8_hugeLength_7cf53_24 : decode cJ8_hugeLength_7cf53 24 = .ok (.iload_n 0, 1) := by decide +kernel
theorem dJ8_hugeLength_7cf53_25 : decode cJ8_hugeLength_7cf53 25 = .ok (.invokevirtual 98, 3) := by decide +kernel
theorem dJ8_hugeLength_7cf53_28 : decode cJ8_hugeLength_7cf53 28 = .ok (.ldc 208, 2) := by decide +kernel
theorem dJ8_hugeLength_7cf53_30 : decode cJ8_hugeLength_7cf53 30 = .ok (.invokevirtual 94, 3) := by decide +kernel
theorem dJ8_hugeLength_7cf53_33 : decode cJ8_hugeLength_7cf53 33 = .ok (.iload_n 1, 1) := by decide +kernel
theorem dJ8_hugeLength_7cf53_34 : decode cJ8_hugeLength_7cf53 34 = .ok (.invokevirtual 98, 3) := by decide +kernel
theorem dJ8_hugeLength_7cf53_37 : decode cJ8_hugeLength_7cf53 37 = .ok (.ldc 210, 2) := by decide +kernel
theorem dJ8_hugeLength_7cf53_39 : decode cJ8_hugeLength_7cf53 39 = .ok (.invokevirtual 94, 3) := by decide +kernel
theorem dJ8_hugeLength_7cf53_42 : decode cJ8_hugeLength_7cf53 42 = .ok (.invokevirtual 101, 3) := by decide +kernel
theorem dJ8_hugeLength_7cf53_45 : decode cJ8_hugeLength_7cf53 45 = .ok (.invokespecial 212, 3) := by decide +kernel
theorem dJ8_hugeLength_7cf53_48 : decode cJ8_hugeLength_7cf53 48 = .ok (.athrow, 1) := by decide +kernel
theorem dJ8_hugeLength_7cf53_49 : decode cJ8_hugeLength_7cf53 49 = .ok (.iload_n 2, 1) := by decide +kernel
theorem dJ8_hugeLength_7cf53_50 : decode cJ8_hugeLength_7cf53 50 = .ok (.ldc 200, 2) := by decide +kernel
theorem dJ8_hugeLength_7cf53_52 : decode cJ8_hugeLength_7cf53 52 = .ok (.if_icmp .gt 6, 3) := by decide +kernel
theorem dJ8_hugeLength_7cf53_55 : decode cJ8_hugeLength_7cf53 55 = .ok (.ldc 200, 2) := by decide +kernel
theorem dJ8_hugeLength_7cf53_57 : decode cJ8_hugeLength_7cf53 57 = .ok (.ireturn, 1) := by decide +kernel
theorem dJ8_hugeLength_7cf53_58 : decode cJ8_hugeLength_7cf53 58 = .ok (.iload_n 2, 1) := by decide +kernel
theorem dJ8_hugeLength_7cf53_59 : decode cJ8_hugeLength_7cf53 59 = .ok (.ireturn, 1) := by decide +kernel
theorem dJ3_checkIndex_8e157_0 : decode cJ3_checkIndex_8e157 0 = .ok (.iload_n 0, 1) := by decide +kernel
theorem dJ3_checkIndex_8e157_1 : decode cJ3_checkIndex_8e157 1 = .ok (.ifCond .lt 8, 3) := by decide +kernel
theorem dJ3_checkIndex_8e157_4 : decode cJ3_checkIndex_8e157 4 = .ok (.iload_n 0, 1) := by decide +kernel
theorem dJ3_checkIndex_8e157_5 : decode cJ3_checkIndex_8e157 5 = .ok (.iload_n 1, 1) := by decide +kernel
theorem dJ3_checkIndex_8e157_6 : decode cJ3_checkIndex_8e157 6 = .ok (.if_icmp .lt 10, 3) := by decide +kernel
theorem dJ3_checkIndex_8e157_9 : decode cJ3_checkIndex_8e157 9 = .ok (.aload_n 2, 1) := by decide +kernel
theorem dJ3_checkIndex_8e157_10 : decode cJ3_checkIndex_8e157 10 = .ok (.iload_n 0, 1) := by decide +kernel
theorem dJ3_checkIndex_8e157_11 : decode cJ3_checkIndex_8e157 11 = .ok (.iload_n 1, 1) := by decide +kernel
theorem dJ3_checkIndex_8e157_12 : decode cJ3_checkIndex_8e157 12 = .ok (.invokestatic 95, 3) := by decide +kernel
theorem dJ3_checkIndex_8e157_15 : decode cJ3_checkIndex_8e157 15 = .ok (.athrow, 1) := by decide +kernel
theorem dJ3_checkIndex_8e157_16 : decode cJ3_checkIndex_8e157 16 = .ok (.iload_n 0, 1) := by decide +kernel
theorem dJ3_checkIndex_8e157_17 : decode cJ3_checkIndex_8e157 17 = .ok (.ireturn, 1) := by decide +kernel
set_option maxRecDepth 20000 in
theorem ggL_law_X1_init : GoodIn wsL_law wsX1_init := goodIn_r _ [9, 10, 11, 12, 13, 14, 15, 16, 17, 18, 19, 20, 21, 22, 23, 24, 25, 26, 27, 28, 29, 30, 31, 32, 33, 34, 35, 36, 37, 38, 39, 40, 41, 42, 43, 44, 45, 46, 47, 48, 49, 50, 51, 538, 539, 540, 541, 542, 543, 544, 545, 546, 547, 548, 549, 550, 551, 579, 580, 581] (by decide +kernel) (by decide +kernel)
set_option maxRecDepth 20000 in
theorem gL_law_X1_init : GoodIn wsL_law (wsX1_init) := ggL_law_X1_init
set_option maxRecDepth 20000 in
theorem ggL_law_X2_init : GoodIn wsL_law wsX2_init := goodIn_r _ [54, 55, 11, 12, 13, 56, 57, 21, 58, 59, 60, 27, 61, 62, 63, 64, 65, 66, 67, 68, 69, 70, 71, 72, 73, 74, 75, 76, 552, 553, 554, 555, 556, 557, 558, 559, 560, 561, 562, 563, 564, 565, 566, 567, 568, 569, 570, 571, 572, 573, 574, 575, 576, 577, 578] (by decide +kernel) (by decide +kernel)
set_option maxRecDepth 20000 in
theorem gL_law_X2_init : GoodIn wsL_law (wsX2_init) := ggL_law_X2_init
set_option maxRecDepth 20000 in
theorem ggL_law_X1_node : GoodIn wsL_law wsX1_node := goodIn_r _ [80, 81, 23, 19, 538, 539, 540, 541, 542, 543, 544, 545, 546, 547, 548, 549, 550, 551] (by decide +kernel) (by decide +kernel)
set_option maxRecDepth 20000 in
theorem gL_law_X1_node : GoodIn wsL_law (wsV RL 15 RX1 yX1_node wsX1_node) := goodIn_app (goodIn_of _ (by decide +kernel)) ggL_law_X1_node
set_option maxRecDepth 20000 in
theorem ggL_law_X2_node : GoodIn wsL_law wsX2_node := goodIn_r _ [85, 86, 87, 56, 88, 89, 5, 90, 552, 553, 554, 555, 556, 557, 558, 559, 560, 561, 562, 563, 564, 565, 566, 567, 568, 569, 570, 571, 572, 573, 574, 575, 576, 577, 578] (by decide +kernel) (by decide +kernel)
set_option maxRecDepth 20000 in
theorem gL_law_X2_node : GoodIn wsL_law (wsV RL 19 RX2 yX2_node wsX2_node) := goodIn_app (goodIn_of _ (by decide +kernel)) ggL_law_X2_node
set_option maxRecDepth 20000 in
theorem ggL_law_X1_add : GoodIn wsL_law wsX1_add := goodIn_r _ [94, 95, 81, 19, 96, 97, 98, 99, 2, 100, 23, 538, 539, 540, 541, 542, 543, 544, 545, 546, 547, 548, 549, 550, 551] (by decide +kernel) (by decide +kernel)
set_option maxRecDepth 20000 in
theorem gL_law_X1_add : GoodIn wsL_law (wsV RL 20 RX1 yX1_add wsX1_add) := goodIn_app (goodIn_of _ (by decide +kernel)) ggL_law_X1_add
set_option maxRecDepth 20000 in
theorem ggL_law_X2_add : GoodIn wsL_law wsX2_add := goodIn_r _ [104, 105, 86, 56, 106, 107, 108, 109, 5, 110, 87, 88, 89, 90, 552, 553, 554, 555, 556, 557, 558, 559, 560, 561, 562, 563, 564, 565, 566, 567, 568, 569, 570, 571, 572, 573, 574, 575, 576, 577, 578] (by decide +kernel) (by decide +kernel)
set_option maxRecDepth 20000 in
theorem gL_law_X2_add : GoodIn wsL_law (wsV RL 24 RX2 yX2_add wsX2_add) := goodIn_app (goodIn_of _ (by decide +kernel)) ggL_law_X2_add
set_option maxRecDepth 20000 in
theorem ggL_law_X1_next : GoodIn wsL_law wsX1_next := goodIn_r _ [114, 24, 115, 116, 117, 2, 118, 23, 22, 19, 25, 26, 119, 120, 121, 538, 539, 540, 541, 542, 543, 544, 545, 546, 547, 548, 549, 550, 551] (by decide +kernel) (by decide +kernel)
set_option maxRecDepth 20000 in
theorem gL_law_X1_next : GoodIn wsL_law (wsV RL 25 RX1 yX1_next wsX1_next) := goodIn_app (goodIn_of _ (by decide +kernel)) ggL_law_X1_next
set_option maxRecDepth 20000 in
theorem ggL_law_X2_next : GoodIn wsL_law wsX2_next := goodIn_r _ [125, 126, 87, 58, 56, 59, 60, 552, 553, 554, 555, 556, 557, 558, 559, 560, 561, 562, 563, 564, 565, 566, 567, 568, 569, 570, 571, 572, 573, 574, 575, 576, 577, 578] (by decide +kernel) (by decide +kernel)
set_option maxRecDepth 20000 in
theorem gL_law_X2_next : GoodIn wsL_law (wsV RL 29 RX2 yX2_next wsX2_next) := goodIn_app (goodIn_of _ (by decide +kernel)) ggL_law_X2_next
set_option maxRecDepth 20000 in
theorem ggL_law_X1_set : GoodIn wsL_law wsX1_set := goodIn_r _ [130, 131, 132, 96, 18, 538, 539, 540, 541, 542, 543, 544, 545, 546, 547, 548, 549, 550, 551] (by decide +kernel) (by decide +kernel)
set_option maxRecDepth 20000 in
theorem gL_law_X1_set : GoodIn wsL_law (wsV RL 30 RX1 yX1_set wsX1_set) := goodIn_app (goodIn_of _ (by decide +kernel)) ggL_law_X1_set
set_option maxRecDepth 20000 in
theorem ggL_law_X2_set : GoodIn wsL_law wsX2_set := goodIn_r _ [136, 106, 137, 67, 138, 139, 68, 86, 140, 88, 89, 5, 90, 552, 553, 554, 555, 556, 557, 558, 559, 560, 561, 562, 563, 564, 565, 566, 567, 568, 569, 570, 571, 572, 573, 574, 575, 576, 577, 578] (by decide +kernel) (by decide +kernel)
set_option maxRecDepth 20000 in
theorem gL_law_X2_set : GoodIn wsL_law (wsV RL 33 RX2 yX2_set wsX2_set) := goodIn_app (goodIn_of _ (by decide +kernel)) ggL_law_X2_set
set_option maxRecDepth 20000 in
theorem ggL_law_X1_vote : GoodIn wsL_law wsX1_vote := goodIn_r _ [144, 29, 145, 146, 147, 2, 148, 25, 97, 98, 99, 100, 23, 149, 150, 151, 152, 24, 153, 154, 155, 156, 157, 158, 159, 119, 120, 121, 160, 161, 162, 163, 164, 165, 166, 28, 167, 168, 169, 170, 171, 172, 173, 174, 175, 176, 177, 178, 179, 180, 181, 182, 183, 184, 185, 186, 187, 188, 189, 26, 190, 191, 192, 193, 30, 31, 194, 195, 196, 197, 198, 199, 538, 539, 540, 541, 542, 543, 544, 545, 546, 547, 548, 549, 550, 551] (by decide +kernel) (by decide +kernel)
set_option maxRecDepth 20000 in
theorem gL_law_X1_vote : GoodIn wsL_law (wsV RL 34 RX1 yX1_vote wsX1_vote) := goodIn_app (goodIn_of _ (by decide +kernel)) ggL_law_X1_vote
set_option maxRecDepth 20000 in
theorem ggL_law_X2_vote : GoodIn wsL_law wsX2_vote := goodIn_r _ [203, 204, 61, 62, 63, 64, 65, 66, 205, 206, 207, 5, 208, 126, 209, 210, 59, 107, 108, 109, 110, 87, 88, 89, 90, 211, 212, 213, 214, 215, 216, 217, 552, 553, 554, 555, 556, 557, 558, 559, 560, 561, 562, 563, 564, 565, 566, 567, 568, 569, 570, 571, 572, 573, 574, 575, 576, 577, 578] (by decide +kernel) (by decide +kernel)
set_option maxRecDepth 20000 in
theorem gL_law_X2_vote : GoodIn wsL_law (wsV RL 38 RX2 yX2_vote wsX2_vote) := goodIn_app (goodIn_of _ (by decide +kernel)) ggL_law_X2_vote
set_option maxRecDepth 20000 in
theorem ggL_law_X1_may : GoodIn wsL_law wsX1_may := goodIn_r _ [221, 145, 146, 147, 2, 148, 25, 97, 98, 99, 100, 23, 149, 150, 151, 152, 24, 153, 154, 155, 156, 157, 158, 159, 119, 120, 121, 160, 161, 162, 222, 223, 224, 225, 29, 28, 226, 227, 228, 229, 230, 231, 232, 194, 195, 196, 171, 172, 173, 174, 175, 176, 197, 198, 199, 233, 234, 235, 236, 30, 237, 238, 239, 240, 241, 242, 243, 244, 245, 246, 247, 248, 249, 250, 251, 252, 253, 254, 255, 256, 257, 538, 539, 540, 541, 542, 543, 544, 545, 546, 547, 548, 549, 550, 551] (by decide +kernel) (by decide +kernel)
set_option maxRecDepth 20000 in
theorem gL_law_X1_may : GoodIn wsL_law (wsV RL 39 RX1 yX1_may wsX1_may) := goodIn_app (goodIn_of _ (by decide +kernel)) ggL_law_X1_may
set_option maxRecDepth 20000 in
theorem ggL_law_X2_may : GoodIn wsL_law wsX2_may := goodIn_r _ [261, 205, 206, 207, 5, 208, 126, 209, 210, 59, 107, 108, 109, 110, 87, 88, 89, 90, 262, 263, 264, 265, 66, 215, 216, 217, 266, 267, 268, 269, 270, 271, 272, 273, 274, 138, 60, 275, 276, 277, 278, 552, 553, 554, 555, 556, 557, 558, 559, 560, 561, 562, 563, 564, 565, 566, 567, 568, 569, 570, 571, 572, 573, 574, 575, 576, 577, 578] (by decide +kernel) (by decide +kernel)
set_option maxRecDepth 20000 in
theorem gL_law_X2_may : GoodIn wsL_law (wsV RL 42 RX2 yX2_may wsX2_may) := goodIn_app (goodIn_of _ (by decide +kernel)) ggL_law_X2_may
set_option maxRecDepth 20000 in
theorem ggL_law_X1_accuse : GoodIn wsL_law wsX1_accuse := goodIn_r _ [282, 283, 284, 285, 286, 287, 288, 289, 290, 291, 292, 2, 293, 28, 24, 18, 294, 295, 296, 297, 29, 298, 299, 300, 301, 97, 98, 99, 100, 23, 302, 303, 304, 226, 227, 228, 229, 230, 231, 232, 194, 195, 196, 171, 172, 173, 174, 175, 176, 197, 198, 199, 233, 234, 235, 236, 30, 237, 238, 239, 305, 306, 307, 308, 247, 248, 249, 250, 251, 252, 253, 240, 241, 242, 254, 255, 256, 257, 149, 150, 151, 152, 153, 154, 155, 156, 309, 310, 311, 312, 35, 313, 314, 315, 316, 34, 317, 318, 319, 320, 321, 322, 323, 324, 325, 326, 327, 328, 329, 330, 331, 332, 333, 334, 41, 335, 336, 337, 338, 19, 339, 17, 36, 20, 22, 340, 341, 342, 181, 182, 183, 343, 344, 345, 11, 12, 346, 347, 348, 349, 350, 351, 352, 353, 354, 355, 356, 357, 358, 359, 360, 361, 362, 363, 364, 365, 366, 367, 368, 369, 370, 40, 371, 372, 373, 374, 375, 376, 377, 378, 379, 380, 381, 382, 383, 384, 385, 386, 387, 388, 389, 390, 391, 392, 393, 394, 395, 396, 397, 398, 399, 538, 539, 540, 541, 542, 543, 544, 545, 546, 547, 548, 549, 550, 551, 582, 583, 584, 585, 586, 587, 588, 579, 580, 581] (by decide +kernel) (by decide +kernel)
set_option maxRecDepth 20000 in
theorem gL_law_X1_accuse : GoodIn wsL_law (wsV RL 43 RX1 yX1_accuse wsX1_accuse) := goodIn_app (goodIn_of _ (by decide +kernel)) ggL_law_X1_accuse
set_option maxRecDepth 20000 in
theorem ggL_law_X2_accuse : GoodIn wsL_law wsX2_accuse := goodIn_r _ [403, 105, 138, 106, 404, 62, 126, 405, 68, 406, 61, 76, 407, 56, 67, 137, 408, 57, 409, 58, 140, 69, 410, 70, 71, 72, 73, 74, 75, 411, 412, 413, 5, 414, 204, 107, 108, 109, 110, 87, 88, 89, 90, 415, 416, 417, 418, 419, 420, 421, 422, 63, 64, 65, 423, 424, 425, 426, 266, 267, 268, 269, 66, 215, 216, 217, 270, 271, 272, 273, 274, 60, 275, 276, 277, 278, 59, 427, 428, 429, 430, 552, 553, 554, 555, 556, 557, 558, 559, 560, 561, 562, 563, 564, 565, 566, 567, 568, 569, 570, 571, 572, 573, 574, 575, 576, 577, 578] (by decide +kernel) (by decide +kernel)
set_option maxRecDepth 20000 in
theorem gL_law_X2_accuse : GoodIn wsL_law (wsV RL 47 RX2 yX2_accuse wsX2_accuse) := goodIn_app (goodIn_of _ (by decide +kernel)) ggL_law_X2_accuse
set_option maxRecDepth 20000 in
theorem ggL_law_X1_about : GoodIn wsL_law wsX1_about := goodIn_r _ [434, 24, 23, 29, 35, 36, 18, 96, 314, 315, 316, 34, 317, 318, 538, 539, 540, 541, 542, 543, 544, 545, 546, 547, 548, 549, 550, 551, 579, 580, 581] (by decide +kernel) (by decide +kernel)
set_option maxRecDepth 20000 in
theorem gL_law_X1_about : GoodIn wsL_law (wsV RL 48 RX1 yX1_about wsX1_about) := goodIn_app (goodIn_of _ (by decide +kernel)) ggL_law_X1_about
set_option maxRecDepth 20000 in
theorem ggL_law_X2_about : GoodIn wsL_law wsX2_about := goodIn_r _ [438, 126, 87, 204, 410, 409, 68, 140, 67, 106, 552, 553, 554, 555, 556, 557, 558, 559, 560, 561, 562, 563, 564, 565, 566, 567, 568, 569, 570, 571, 572, 573, 574, 575, 576, 577, 578] (by decide +kernel) (by decide +kernel)
set_option maxRecDepth 20000 in
theorem gL_law_X2_about : GoodIn wsL_law (wsV RL 52 RX2 yX2_about wsX2_about) := goodIn_app (goodIn_of _ (by decide +kernel)) ggL_law_X2_about
set_option maxRecDepth 20000 in
theorem ggL_law_X1_holds : GoodIn wsL_law wsX1_holds := goodIn_r _ [442, 95, 19, 20, 22, 96, 97, 98, 99, 2, 100, 23, 443, 444, 445, 446, 35, 28, 313, 314, 315, 316, 34, 317, 318, 319, 320, 321, 322, 323, 324, 325, 326, 327, 328, 329, 330, 331, 332, 333, 334, 41, 181, 182, 183, 538, 539, 540, 541, 542, 543, 544, 545, 546, 547, 548, 549, 550, 551, 582, 583, 584, 585, 586, 587, 588, 579, 580, 581] (by decide +kernel) (by decide +kernel)
set_option maxRecDepth 20000 in
theorem gL_law_X1_holds : GoodIn wsL_law (wsV RL 53 RX1 yX1_holds wsX1_holds) := goodIn_app (goodIn_of _ (by decide +kernel)) ggL_law_X1_holds
set_option maxRecDepth 20000 in
theorem ggL_law_X2_holds : GoodIn wsL_law wsX2_holds := goodIn_r _ [450, 105, 56, 57, 58, 106, 410, 61, 70, 107, 108, 109, 5, 110, 87, 552, 553, 554, 555, 556, 557, 558, 559, 560, 561, 562, 563, 564, 565, 566, 567, 568, 569, 570, 571, 572, 573, 574, 575, 576, 577, 578] (by decide +kernel) (by decide +kernel)
set_option maxRecDepth 20000 in
theorem gL_law_X2_holds : GoodIn wsL_law (wsV RL 57 RX2 yX2_holds wsX2_holds) := goodIn_app (goodIn_of _ (by decide +kernel)) ggL_law_X2_holds
set_option maxRecDepth 20000 in
theorem ggL_law_X1_said : GoodIn wsL_law wsX1_said := goodIn_r _ [454, 28, 294, 295, 296, 2, 297, 29, 181, 182, 183, 174, 175, 176, 197, 198, 199, 194, 195, 196, 171, 172, 173, 538, 539, 540, 541, 542, 543, 544, 545, 546, 547, 548, 549, 550, 551] (by decide +kernel) (by decide +kernel)
set_option maxRecDepth 20000 in
theorem gL_law_X1_said : GoodIn wsL_law (wsV RL 58 RX1 yX1_said wsX1_said) := goodIn_app (goodIn_of _ (by decide +kernel)) ggL_law_X1_said
set_option maxRecDepth 20000 in
theorem ggL_law_X2_said : GoodIn wsL_law wsX2_said := goodIn_r _ [458, 61, 62, 63, 64, 65, 411, 412, 413, 5, 414, 204, 552, 553, 554, 555, 556, 557, 558, 559, 560, 561, 562, 563, 564, 565, 566, 567, 568, 569, 570, 571, 572, 573, 574, 575, 576, 577, 578] (by decide +kernel) (by decide +kernel)
set_option maxRecDepth 20000 in
theorem gL_law_X2_said : GoodIn wsL_law (wsV RL 62 RX2 yX2_said wsX2_said) := goodIn_app (goodIn_of _ (by decide +kernel)) ggL_law_X2_said
set_option maxRecDepth 20000 in
theorem ggL_law_X1_weight : GoodIn wsL_law wsX1_weight := goodIn_r _ [462, 95, 96, 26, 25, 298, 299, 300, 2, 301, 97, 98, 99, 100, 23, 153, 154, 155, 156, 24, 119, 120, 121, 538, 539, 540, 541, 542, 543, 544, 545, 546, 547, 548, 549, 550, 551] (by decide +kernel) (by decide +kernel)
set_option maxRecDepth 20000 in
theorem gL_law_X1_weight : GoodIn wsL_law (wsV RL 63 RX1 yX1_weight wsX1_weight) := goodIn_app (goodIn_of _ (by decide +kernel)) ggL_law_X1_weight
set_option maxRecDepth 20000 in
theorem ggL_law_X2_weight : GoodIn wsL_law wsX2_weight := goodIn_r _ [466, 105, 106, 60, 59, 107, 108, 109, 5, 110, 87, 467, 468, 469, 470, 126, 552, 553, 554, 555, 556, 557, 558, 559, 560, 561, 562, 563, 564, 565, 566, 567, 568, 569, 570, 571, 572, 573, 574, 575, 576, 577, 578] (by decide +kernel) (by decide +kernel)
set_option maxRecDepth 20000 in
theorem gL_law_X2_weight : GoodIn wsL_law (wsV RL 66 RX2 yX2_weight wsX2_weight) := goodIn_app (goodIn_of _ (by decide +kernel)) ggL_law_X2_weight
set_option maxRecDepth 20000 in
theorem ggL_law_X1_backed : GoodIn wsL_law wsX1_backed := goodIn_r _ [474, 96, 153, 154, 155, 2, 156, 24, 157, 158, 159, 160, 161, 162, 177, 178, 179, 180, 29, 28, 25, 174, 175, 176, 181, 182, 183, 119, 120, 121, 538, 539, 540, 541, 542, 543, 544, 545, 546, 547, 548, 549, 550, 551] (by decide +kernel) (by decide +kernel)
set_option maxRecDepth 20000 in
theorem gL_law_X1_backed : GoodIn wsL_law (wsV RL 67 RX1 yX1_backed wsX1_backed) := goodIn_app (goodIn_of _ (by decide +kernel)) ggL_law_X1_backed
set_option maxRecDepth 20000 in
theorem ggL_law_X2_backed : GoodIn wsL_law wsX2_backed := goodIn_r _ [478, 209, 210, 106, 66, 467, 468, 469, 5, 470, 126, 88, 89, 90, 215, 216, 217, 275, 276, 277, 278, 59, 552, 553, 554, 555, 556, 557, 558, 559, 560, 561, 562, 563, 564, 565, 566, 567, 568, 569, 570, 571, 572, 573, 574, 575, 576, 577, 578] (by decide +kernel) (by decide +kernel)
set_option maxRecDepth 20000 in
theorem gL_law_X2_backed : GoodIn wsL_law (wsV RL 70 RX2 yX2_backed wsX2_backed) := goodIn_app (goodIn_of _ (by decide +kernel)) ggL_law_X2_backed
set_option maxRecDepth 20000 in
theorem ggL_law_X1_certain : GoodIn wsL_law wsX1_certain := goodIn_r _ [482, 31, 153, 154, 155, 2, 156, 24, 237, 238, 239, 538, 539, 540, 541, 542, 543, 544, 545, 546, 547, 548, 549, 550, 551] (by decide +kernel) (by decide +kernel)
set_option maxRecDepth 20000 in
theorem gL_law_X1_certain : GoodIn wsL_law (wsV RL 71 RX1 yX1_certain wsX1_certain) := goodIn_app (goodIn_of _ (by decide +kernel)) ggL_law_X1_certain
set_option maxRecDepth 20000 in
theorem ggL_law_X2_certain : GoodIn wsL_law wsX2_certain := goodIn_r _ [486, 467, 468, 469, 5, 470, 126, 487, 488, 489, 490, 66, 215, 216, 217, 270, 271, 272, 273, 274, 138, 60, 275, 276, 277, 278, 59, 552, 553, 554, 555, 556, 557, 558, 559, 560, 561, 562, 563, 564, 565, 566, 567, 568, 569, 570, 571, 572, 573, 574, 575, 576, 577, 578] (by decide +kernel) (by decide +kernel)
set_option maxRecDepth 20000 in
theorem gL_law_X2_certain : GoodIn wsL_law (wsV RL 74 RX2 yX2_certain wsX2_certain) := goodIn_app (goodIn_of _ (by decide +kernel)) ggL_law_X2_certain
set_option maxRecDepth 20000 in
theorem ggL_law_X1_breaks : GoodIn wsL_law wsX1_breaks := goodIn_r _ [494, 29, 28, 153, 154, 155, 2, 156, 24, 302, 303, 304, 174, 175, 176, 495, 496, 497, 498, 226, 227, 228, 229, 230, 231, 232, 194, 195, 196, 171, 172, 173, 197, 198, 199, 233, 234, 235, 236, 30, 237, 238, 239, 240, 241, 242, 499, 500, 501, 305, 306, 307, 308, 247, 248, 249, 250, 251, 252, 253, 254, 255, 256, 257, 538, 539, 540, 541, 542, 543, 544, 545, 546, 547, 548, 549, 550, 551] (by decide +kernel) (by decide +kernel)
set_option maxRecDepth 20000 in
theorem gL_law_X1_breaks : GoodIn wsL_law (wsV RL 75 RX1 yX1_breaks wsX1_breaks) := goodIn_app (goodIn_of _ (by decide +kernel)) ggL_law_X1_breaks
set_option maxRecDepth 20000 in
theorem ggL_law_X2_breaks : GoodIn wsL_law wsX2_breaks := goodIn_r _ [505, 138, 204, 62, 467, 468, 469, 5, 470, 126, 88, 89, 90, 506, 507, 508, 509, 415, 416, 417, 418, 419, 420, 421, 422, 61, 63, 64, 65, 423, 424, 425, 426, 266, 267, 268, 269, 66, 215, 216, 217, 270, 271, 272, 273, 274, 60, 275, 276, 277, 278, 59, 427, 428, 429, 430, 552, 553, 554, 555, 556, 557, 558, 559, 560, 561, 562, 563, 564, 565, 566, 567, 568, 569, 570, 571, 572, 573, 574, 575, 576, 577, 578] (by decide +kernel) (by decide +kernel)
set_option maxRecDepth 20000 in
theorem gL_law_X2_breaks : GoodIn wsL_law (wsV RL 78 RX2 yX2_breaks wsX2_breaks) := goodIn_app (goodIn_of _ (by decide +kernel)) ggL_law_X2_breaks
set_option maxRecDepth 20000 in
theorem ggL_law_X1_broken : GoodIn wsL_law wsX1_broken := goodIn_r _ [513, 29, 28, 153, 154, 155, 2, 156, 24, 302, 303, 304, 174, 175, 176, 495, 496, 497, 498, 226, 227, 228, 229, 230, 231, 232, 194, 195, 196, 171, 172, 173, 197, 198, 199, 233, 234, 235, 236, 30, 237, 238, 239, 240, 241, 242, 499, 500, 501, 305, 306, 307, 308, 247, 248, 249, 250, 251, 252, 253, 254, 255, 256, 257, 514, 515, 516, 517, 538, 539, 540, 541, 542, 543, 544, 545, 546, 547, 548, 549, 550, 551] (by decide +kernel) (by decide +kernel)
set_option maxRecDepth 20000 in
theorem gL_law_X1_broken : GoodIn wsL_law (wsV RL 79 RX1 yX1_broken wsX1_broken) := goodIn_app (goodIn_of _ (by decide +kernel)) ggL_law_X1_broken
set_option maxRecDepth 20000 in
theorem ggL_law_X2_broken : GoodIn wsL_law wsX2_broken := goodIn_r _ [521, 138, 204, 62, 467, 468, 469, 5, 470, 126, 88, 89, 90, 506, 507, 508, 509, 415, 416, 417, 418, 419, 420, 421, 422, 61, 63, 64, 65, 423, 424, 425, 426, 266, 267, 268, 269, 66, 215, 216, 217, 270, 271, 272, 273, 274, 60, 275, 276, 277, 278, 59, 427, 428, 429, 430, 552, 553, 554, 555, 556, 557, 558, 559, 560, 561, 562, 563, 564, 565, 566, 567, 568, 569, 570, 571, 572, 573, 574, 575, 576, 577, 578] (by decide +kernel) (by decide +kernel)
set_option maxRecDepth 20000 in
theorem gL_law_X2_broken : GoodIn wsL_law (wsV RL 83 RX2 yX2_broken wsX2_broken) := goodIn_app (goodIn_of _ (by decide +kernel)) ggL_law_X2_broken
set_option maxRecDepth 20000 in
theorem ggL_law_X1_named : GoodIn wsL_law wsX1_named := goodIn_r _ [525, 29, 28, 153, 154, 155, 2, 156, 24, 181, 182, 183, 174, 175, 176, 222, 223, 224, 225, 226, 227, 228, 229, 230, 231, 232, 194, 195, 196, 171, 172, 173, 197, 198, 199, 233, 234, 235, 236, 30, 237, 238, 239, 240, 241, 242, 243, 244, 245, 246, 247, 248, 249, 250, 251, 252, 253, 254, 255, 256, 257, 538, 539, 540, 541, 542, 543, 544, 545, 546, 547, 548, 549, 550, 551] (by decide +kernel) (by decide +kernel)
set_option maxRecDepth 20000 in
theorem gL_law_X1_named : GoodIn wsL_law (wsV RL 84 RX1 yX1_named wsX1_named) := goodIn_app (goodIn_of _ (by decide +kernel)) ggL_law_X1_named
set_option maxRecDepth 20000 in
theorem ggL_law_X2_named : GoodIn wsL_law wsX2_named := goodIn_r _ [529, 204, 62, 61, 467, 468, 469, 5, 470, 126, 506, 507, 508, 509, 415, 416, 417, 418, 419, 420, 421, 422, 63, 64, 65, 423, 424, 425, 426, 266, 267, 268, 269, 66, 215, 216, 217, 270, 271, 272, 273, 274, 138, 60, 275, 276, 277, 278, 59, 427, 428, 429, 430, 552, 553, 554, 555, 556, 557, 558, 559, 560, 561, 562, 563, 564, 565, 566, 567, 568, 569, 570, 571, 572, 573, 574, 575, 576, 577, 578] (by decide +kernel) (by decide +kernel)
set_option maxRecDepth 20000 in
theorem gL_law_X2_named : GoodIn wsL_law (wsV RL 88 RX2 yX2_named wsX2_named) := goodIn_app (goodIn_of _ (by decide +kernel)) ggL_law_X2_named
set_option maxRecDepth 20000 in
theorem ggL_law_X1_taken : GoodIn wsL_law wsX1_taken := goodIn_r _ [533, 35, 95, 313, 96, 314, 315, 316, 34, 317, 318, 319, 320, 321, 322, 323, 324, 325, 326, 327, 328, 329, 330, 331, 332, 333, 334, 41, 538, 539, 540, 541, 542, 543, 544, 545, 546, 547, 548, 549, 550, 551, 582, 583, 584, 585, 586, 587, 588, 579, 580, 581] (by decide +kernel) (by decide +kernel)
set_option maxRecDepth 20000 in
theorem gL_law_X1_taken : GoodIn wsL_law (wsV RL 89 RX1 yX1_taken wsX1_taken) := goodIn_app (goodIn_of _ (by decide +kernel)) ggL_law_X1_taken
set_option maxRecDepth 20000 in
theorem ggL_law_X2_taken : GoodIn wsL_law wsX2_taken := goodIn_r _ [537, 410, 105, 69, 70, 71, 72, 73, 74, 75, 106, 552, 553, 554, 555, 556, 557, 558, 559, 560, 561, 562, 563, 564, 565, 566, 567, 568, 569, 570, 571, 572, 573, 574, 575, 576, 577, 578] (by decide +kernel) (by decide +kernel)
set_option maxRecDepth 20000 in
theorem gL_law_X2_taken : GoodIn wsL_law (wsV RL 92 RX2 yX2_taken wsX2_taken) := goodIn_app (goodIn_of _ (by decide +kernel)) ggL_law_X2_taken
theorem dL_law_0 : decode cL_law 0 = .ok (.new 7, 3) := by decide +kernel
theorem dL_law_3 : decode cL_law 3 = .ok (.dup, 1) := by decide +kernel
theorem dL_law_4 : decode cL_law 4 = .ok (.invokespecial 9, 3) := by decide +kernel
theorem dL_law_7 : decode cL_law 7 = .ok (.astore_n 1, 1) := by decide +kernel
theorem dL_law_8 : decode cL_law 8 = .ok (.new 10, 3) := by decide +kernel
theorem dL_law_11 : decode cL_law 11 = .ok (.dup, 1) := by decide +kernel
theorem dL_law_12 : decode cL_law 12 = .ok (.invokespecial 12, 3) := by decide +kernel
theorem dL_law_15 : decode cL_law 15 = .ok (.astore_n 2, 1) := by decide +kernel
theorem dL_law_16 : decode cL_law 16 = .ok (.iconst 0, 1) := by decide +kernel
theorem dL_law_17 : decode cL_law 17 = .ok (.istore_n 3, 1) := by decide +kernel
theorem dL_law_18 : decode cL_law 18 = .ok (.iload_n 3, 1) := by decide +kernel
theorem dL_law_19 : decode cL_law 19 = .ok (.aload_n 0, 1) := by decide +kernel
theorem dL_law_20 : decode cL_law 20 = .ok (.arraylength, 1) := by decide +kernel
theorem dL_law_21 : decode cL_law 21 = .ok (.bipush 6, 2) := by decide +kernel
theorem dL_law_23 : decode cL_law 23 = .ok (.isub, 1) := by decide +kernel
theorem dL_law_24 : decode cL_law 24 = .ok (.if_icmp .gt 827, 3) := by decide +kernel
theorem dL_law_27 : decode cL_law 27 = .ok (.aload_n 0, 1) := by decide +kernel
theorem dL_law_28 : decode cL_law 28 = .ok (.iload_n 3, 1) := by decide +kernel
theorem dL_law_29 : decode cL_law 29 = .ok (.iaload, 1) := by decide +kernel
theorem dL_law_30 : decode cL_law 30 = .ok (.bipush 31, 2) := by decide +kernel
theorem dL_law_32 : decode cL_law 32 = .ok (.iand, 1) := by decide +kernel
theorem dL_law_33 : decode cL_law 33 = .ok (.tableswitch 812 0 16 #[83, 136, 200, 213, 277, 340, 403, 457, 481, 515, 548, 582, 636, 669, 702, 755, 778], 83) := by decide +kernel
theorem dL_law_116 : decode cL_law 116 = .ok (.aload_n 1, 1) := by decide +kernel
theorem dL_law_117 : decode cL_law 117 = .ok (.aload_n 0, 1) := by decide +kernel
theorem dL_law_118 : decode cL_law 118 = .ok (.iload_n 3, 1) := by decide +kernel
end
section
theorem dL_law_119 : decode cL_law 119 = .ok (.iconst 1, 1) := by decide +kernel
theorem dL_law_120 : decode cL_law 120 = .ok (.iadd, 1) := by decide +kernel
theorem dL_law_121 : decode cL_law 121 = .ok (.iaload, 1) := by decide +kernel
theorem dL_law_122 : decode cL_law 122 = .ok (.i2l, 1) := by decide +kernel
theorem dL_law_123 : decode cL_law 123 = .ok (.bipush 32, 2) := by decide +kernel
theorem dL_law_125 : decode cL_law 125 = .ok (.lshl, 1) := by decide +kernel
theorem dL_law_126 : decode cL_law 126 = .ok (.aload_n 0, 1) := by decide +kernel
theorem dL_law_127 : decode cL_law 127 = .ok (.iload_n 3, 1) := by decide +kernel
theorem dL_law_128 : decode cL_law 128 = .ok (.iconst 2, 1) := by decide +kernel
theorem dL_law_129 : decode cL_law 129 = .ok (.iadd, 1) := by decide +kernel
theorem dL_law_130 : decode cL_law 130 = .ok (.iaload, 1) := by decide +kernel
theorem dL_law_131 : decode cL_law 131 = .ok (.i2l, 1) := by decide +kernel
theorem dL_law_132 : decode cL_law 132 = .ok (.ldc2_w 13, 3) := by decide +kernel
theorem dL_law_135 : decode cL_law 135 = .ok (.land, 1) := by decide +kernel
theorem dL_law_136 : decode cL_law 136 = .ok (.lor, 1) := by decide +kernel
theorem dL_law_137 : decode cL_law 137 = .ok (.invokevirtual 15, 3) := by decide +kernel
theorem dL_law_140 : decode cL_law 140 = .ok (.aload_n 2, 1) := by decide +kernel
theorem dL_law_141 : decode cL_law 141 = .ok (.aload_n 0, 1) := by decide +kernel
theorem dL_law_142 : decode cL_law 142 = .ok (.iload_n 3, 1) := by decide +kernel
theorem dL_law_143 : decode cL_law 143 = .ok (.iconst 1, 1) := by decide +kernel
theorem dL_law_144 : decode cL_law 144 = .ok (.iadd, 1) := by decide +kernel
theorem dL_law_145 : decode cL_law 145 = .ok (.iaload, 1) := by decide +kernel
theorem dL_law_146 : decode cL_law 146 = .ok (.i2l, 1) := by decide +kernel
theorem dL_law_147 : decode cL_law 147 = .ok (.bipush 32, 2) := by decide +kernel
theorem dL_law_149 : decode cL_law 149 = .ok (.lshl, 1) := by decide +kernel
theorem dL_law_150 : decode cL_law 150 = .ok (.aload_n 0, 1) := by decide +kernel
theorem dL_law_151 : decode cL_law 151 = .ok (.iload_n 3, 1) := by decide +kernel
theorem dL_law_152 : decode cL_law 152 = .ok (.iconst 2, 1) := by decide +kernel
theorem dL_law_153 : decode cL_law 153 = .ok (.iadd, 1) := by decide +kernel
theorem dL_law_154 : decode cL_law 154 = .ok (.iaload, 1) := by decide +kernel
theorem dL_law_155 : decode cL_law 155 = .ok (.i2l, 1) := by decide +kernel
theorem dL_law_156 : decode cL_law 156 = .ok (.ldc2_w 13, 3) := by decide +kernel
theorem dL_law_159 : decode cL_law 159 = .ok (.land, 1) := by decide +kernel
theorem dL_law_160 : decode cL_law 160 = .ok (.lor, 1) := by decide +kernel
theorem dL_law_161 : decode cL_law 161 = .ok (.invokevirtual 19, 3) := by decide +kernel
theorem dL_law_164 : decode cL_law 164 = .ok (.if_icmp .eq 681, 3) := by decide +kernel
theorem dL_law_167 : decode cL_law 167 = .ok (.iconst 0, 1) := by decide +kernel
theorem dL_law_168 : decode cL_law 168 = .ok (.ireturn, 1) := by decide +kernel
theorem dL_law_169 : decode cL_law 169 = .ok (.aload_n 1, 1) := by decide +kernel
theorem dL_law_170 : decode cL_law 170 = .ok (.aload_n 0, 1) := by decide +kernel
theorem dL_law_171 : decode cL_law 171 = .ok (.iload_n 3, 1) := by decide +kernel
theorem dL_law_172 : decode cL_law 172 = .ok (.iconst 1, 1) := by decide +kernel
theorem dL_law_173 : decode cL_law 173 = .ok (.iadd, 1) := by decide +kernel
theorem dL_law_174 : decode cL_law 174 = .ok (.iaload, 1) := by decide +kernel
theorem dL_law_175 : decode cL_law 175 = .ok (.aload_n 0, 1) := by decide +kernel
theorem dL_law_176 : decode cL_law 176 = .ok (.iload_n 3, 1) := by decide +kernel
theorem dL_law_177 : decode cL_law 177 = .ok (.iconst 2, 1) := by decide +kernel
theorem dL_law_178 : decode cL_law 178 = .ok (.iadd, 1) := by decide +kernel
theorem dL_law_179 : decode cL_law 179 = .ok (.iaload, 1) := by decide +kernel
theorem dL_law_180 : decode cL_law 180 = .ok (.i2l, 1) := by decide +kernel
theorem dL_law_181 : decode cL_law 181 = .ok (.bipush 32, 2) := by decide +kernel
theorem dL_law_183 : decode cL_law 183 = .ok (.lshl, 1) := by decide +kernel
theorem dL_law_184 : decode cL_law 184 = .ok (.aload_n 0, 1) := by decide +kernel
theorem dL_law_185 : decode cL_law 185 = .ok (.iload_n 3, 1) := by decide +kernel
theorem dL_law_186 : decode cL_law 186 = .ok (.iconst 3, 1) := by decide +kernel
theorem dL_law_187 : decode cL_law 187 = .ok (.iadd, 1) := by decide +kernel
theorem dL_law_188 : decode cL_law 188 = .ok (.iaload, 1) := by decide +kernel
theorem dL_law_189 : decode cL_law 189 = .ok (.i2l, 1) := by decide +kernel
theorem dL_law_190 : decode cL_law 190 = .ok (.ldc2_w 13, 3) := by decide +kernel
theorem dL_law_193 : decode cL_law 193 = .ok (.land, 1) := by decide +kernel
theorem dL_law_194 : decode cL_law 194 = .ok (.lor, 1) := by decide +kernel
theorem dL_law_195 : decode cL_law 195 = .ok (.invokevirtual 20, 3) := by decide +kernel
theorem dL_law_198 : decode cL_law 198 = .ok (.aload_n 2, 1) := by decide +kernel
theorem dL_law_199 : decode cL_law 199 = .ok (.aload_n 0, 1) := by decide +kernel
theorem dL_law_200 : decode cL_law 200 = .ok (.iload_n 3, 1) := by decide +kernel
theorem dL_law_201 : decode cL_law 201 = .ok (.iconst 1, 1) := by decide +kernel
theorem dL_law_202 : decode cL_law 202 = .ok (.iadd, 1) := by decide +kernel
theorem dL_law_203 : decode cL_law 203 = .ok (.iaload, 1) := by decide +kernel
theorem dL_law_204 : decode cL_law 204 = .ok (.aload_n 0, 1) := by decide +kernel
theorem dL_law_205 : decode cL_law 205 = .ok (.iload_n 3, 1) := by decide +kernel
theorem dL_law_206 : decode cL_law 206 = .ok (.iconst 2, 1) := by decide +kernel
theorem dL_law_207 : decode cL_law 207 = .ok (.iadd, 1) := by decide +kernel
theorem dL_law_208 : decode cL_law 208 = .ok (.iaload, 1) := by decide +kernel
theorem dL_law_209 : decode cL_law 209 = .ok (.i2l, 1) := by decide +kernel
theorem dL_law_210 : decode cL_law 210 = .ok (.bipush 32, 2) := by decide +kernel
theorem dL_law_212 : decode cL_law 212 = .ok (.lshl, 1) := by decide +kernel
theorem dL_law_213 : decode cL_law 213 = .ok (.aload_n 0, 1) := by decide +kernel
theorem dL_law_214 : decode cL_law 214 = .ok (.iload_n 3, 1) := by decide +kernel
theorem dL_law_215 : decode cL_law 215 = .ok (.iconst 3, 1) := by decide +kernel
theorem dL_law_216 : decode cL_law 216 = .ok (.iadd, 1) := by decide +kernel
theorem dL_law_217 : decode cL_law 217 = .ok (.iaload, 1) := by decide +kernel
theorem dL_law_218 : decode cL_law 218 = .ok (.i2l, 1) := by decide +kernel
theorem dL_law_219 : decode cL_law 219 = .ok (.ldc2_w 13, 3) := by decide +kernel
theorem dL_law_222 : decode cL_law 222 = .ok (.land, 1) := by decide +kernel
theorem dL_law_223 : decode cL_law 223 = .ok (.lor, 1) := by decide +kernel
theorem dL_law_224 : decode cL_law 224 = .ok (.invokevirtual 24, 3) := by decide +kernel
theorem dL_law_227 : decode cL_law 227 = .ok (.lcmp, 1) := by decide +kernel
theorem dL_law_228 : decode cL_law 228 = .ok (.ifCond .eq 617, 3) := by decide +kernel
theorem dL_law_231 : decode cL_law 231 = .ok (.iconst 0, 1) := by decide +kernel
theorem dL_law_232 : decode cL_law 232 = .ok (.ireturn, 1) := by decide +kernel
theorem dL_law_233 : decode cL_law 233 = .ok (.aload_n 1, 1) := by decide +kernel
theorem dL_law_234 : decode cL_law 234 = .ok (.invokevirtual 25, 3) := by decide +kernel
theorem dL_law_237 : decode cL_law 237 = .ok (.aload_n 2, 1) := by decide +kernel
theorem dL_law_238 : decode cL_law 238 = .ok (.invokevirtual 29, 3) := by decide +kernel
theorem dL_law_241 : decode cL_law 241 = .ok (.if_icmp .eq 604, 3) := by decide +kernel
theorem dL_law_244 : decode cL_law 244 = .ok (.iconst 0, 1) := by decide +kernel
theorem dL_law_245 : decode cL_law 245 = .ok (.ireturn, 1) := by decide +kernel
theorem dL_law_246 : decode cL_law 246 = .ok (.aload_n 1, 1) := by decide +kernel
theorem dL_law_247 : decode cL_law 247 = .ok (.aload_n 0, 1) := by decide +kernel
theorem dL_law_248 : decode cL_law 248 = .ok (.iload_n 3, 1) := by decide +kernel
theorem dL_law_249 : decode cL_law 249 = .ok (.iconst 1, 1) := by decide +kernel
theorem dL_law_250 : decode cL_law 250 = .ok (.iadd, 1) := by decide +kernel
theorem dL_law_251 : decode cL_law 251 = .ok (.iaload, 1) := by decide +kernel
theorem dL_law_252 : decode cL_law 252 = .ok (.aload_n 0, 1) := by decide +kernel
theorem dL_law_253 : decode cL_law 253 = .ok (.iload_n 3, 1) := by decide +kernel
theorem dL_law_254 : decode cL_law 254 = .ok (.iconst 2, 1) := by decide +kernel
theorem dL_law_255 : decode cL_law 255 = .ok (.iadd, 1) := by decide +kernel
theorem dL_law_256 : decode cL_law 256 = .ok (.iaload, 1) := by decide +kernel
theorem dL_law_257 : decode cL_law 257 = .ok (.i2l, 1) := by decide +kernel
theorem dL_law_258 : decode cL_law 258 = .ok (.bipush 32, 2) := by decide +kernel
theorem dL_law_260 : decode cL_law 260 = .ok (.lshl, 1) := by decide +kernel
theorem dL_law_261 : decode cL_law 261 = .ok (.aload_n 0, 1) := by decide +kernel
theorem dL_law_262 : decode cL_law 262 = .ok (.iload_n 3, 1) := by decide +kernel
theorem dL_law_263 : decode cL_law 263 = .ok (.iconst 3, 1) := by decide +kernel
theorem dL_law_264 : decode cL_law 264 = .ok (.iadd, 1) := by decide +kernel
theorem dL_law_265 : decode cL_law 265 = .ok (.iaload, 1) := by decide +kernel
theorem dL_law_266 : decode cL_law 266 = .ok (.i2l, 1) := by decide +kernel
theorem dL_law_267 : decode cL_law 267 = .ok (.ldc2_w 13, 3) := by decide +kernel
theorem dL_law_270 : decode cL_law 270 = .ok (.land, 1) := by decide +kernel
theorem dL_law_271 : decode cL_law 271 = .ok (.lor, 1) := by decide +kernel
theorem dL_law_272 : decode cL_law 272 = .ok (.invokevirtual 30, 3) := by decide +kernel
theorem dL_law_275 : decode cL_law 275 = .ok (.aload_n 2, 1) := by decide +kernel
theorem dL_law_276 : decode cL_law 276 = .ok (.aload_n 0, 1) := by decide +kernel
theorem dL_law_277 : decode cL_law 277 = .ok (.iload_n 3, 1) := by decide +kernel
theorem dL_law_278 : decode cL_law 278 = .ok (.iconst 1, 1) := by decide +kernel
theorem dL_law_279 : decode cL_law 279 = .ok (.iadd, 1) := by decide +kernel
theorem dL_law_280 : decode cL_law 280 = .ok (.iaload, 1) := by decide +kernel
theorem dL_law_281 : decode cL_law 281 = .ok (.aload_n 0, 1) := by decide +kernel
theorem dL_law_282 : decode cL_law 282 = .ok (.iload_n 3, 1) := by decide +kernel
theorem dL_law_283 : decode cL_law 283 = .ok (.iconst 2, 1) := by decide +kernel
theorem dL_law_284 : decode cL_law 284 = .ok (.iadd, 1) := by decide +kernel
theorem dL_law_285 : decode cL_law 285 = .ok (.iaload, 1) := by decide +kernel
theorem dL_law_286 : decode cL_law 286 = .ok (.i2l, 1) := by decide +kernel
theorem dL_law_287 : decode cL_law 287 = .ok (.bipush 32, 2) := by decide +kernel
theorem dL_law_289 : decode cL_law 289 = .ok (.lshl, 1) := by decide +kernel
theorem dL_law_290 : decode cL_law 290 = .ok (.aload_n 0, 1) := by decide +kernel
theorem dL_law_291 : decode cL_law 291 = .ok (.iload_n 3, 1) := by decide +kernel
theorem dL_law_292 : decode cL_law 292 = .ok (.iconst 3, 1) := by decide +kernel
theorem dL_law_293 : decode cL_law 293 = .ok (.iadd, 1) := by decide +kernel
theorem dL_law_294 : decode cL_law 294 = .ok (.iaload, 1) := by decide +kernel
theorem dL_law_295 : decode cL_law 295 = .ok (.i2l, 1) := by decide +kernel
theorem dL_law_296 : decode cL_law 296 = .ok (.ldc2_w 13, 3) := by decide +kernel
theorem dL_law_299 : decode cL_law 299 = .ok (.land, 1) := by decide +kernel
theorem dL_law_300 : decode cL_law 300 = .ok (.lor, 1) := by decide +kernel
theorem dL_law_301 : decode cL_law 301 = .ok (.invokevirtual 33, 3) := by decide +kernel
theorem dL_law_304 : decode cL_law 304 = .ok (.lcmp, 1) := by decide +kernel
theorem dL_law_305 : decode cL_law 305 = .ok (.ifCond .eq 540, 3) := by decide +kernel
theorem dL_law_308 : decode cL_law 308 = .ok (.iconst 0, 1) := by decide +kernel
theorem dL_law_309 : decode cL_law 309 = .ok (.ireturn, 1) := by decide +kernel
theorem dL_law_310 : decode cL_law 310 = .ok (.aload_n 1, 1) := by decide +kernel
theorem dL_law_311 : decode cL_law 311 = .ok (.aload_n 0, 1) := by decide +kernel
theorem dL_law_312 : decode cL_law 312 = .ok (.iload_n 3, 1) := by decide +kernel
theorem dL_law_313 : decode cL_law 313 = .ok (.iconst 1, 1) := by decide +kernel
theorem dL_law_314 : decode cL_law 314 = .ok (.iadd, 1) := by decide +kernel
theorem dL_law_315 : decode cL_law 315 = .ok (.iaload, 1) := by decide +kernel
theorem dL_law_316 : decode cL_law 316 = .ok (.aload_n 0, 1) := by decide +kernel
theorem dL_law_317 : decode cL_law 317 = .ok (.iload_n 3, 1) := by decide +kernel
theorem dL_law_318 : decode cL_law 318 = .ok (.iconst 2, 1) := by decide +kernel
theorem dL_law_319 : decode cL_law 319 = .ok (.iadd, 1) := by decide +kernel
theorem dL_law_320 : decode cL_law 320 = .ok (.iaload, 1) := by decide +kernel
theorem dL_law_321 : decode cL_law 321 = .ok (.aload_n 0, 1) := by decide +kernel
theorem dL_law_322 : decode cL_law 322 = .ok (.iload_n 3, 1) := by decide +kernel
theorem dL_law_323 : decode cL_law 323 = .ok (.iconst 3, 1) := by decide +kernel
theorem dL_law_324 : decode cL_law 324 = .ok (.iadd, 1) := by decide +kernel
theorem dL_law_325 : decode cL_law 325 = .ok (.iaload, 1) := by decide +kernel
theorem dL_law_326 : decode cL_law 326 = .ok (.aload_n 0, 1) := by decide +kernel
theorem dL_law_327 : decode cL_law 327 = .ok (.iload_n 3, 1) := by decide +kernel
theorem dL_law_328 : decode cL_law 328 = .ok (.iconst 4, 1) := by decide +kernel
theorem dL_law_329 : decode cL_law 329 = .ok (.iadd, 1) := by decide +kernel
theorem dL_law_330 : decode cL_law 330 = .ok (.iaload, 1) := by decide +kernel
theorem dL_law_331 : decode cL_law 331 = .ok (.aload_n 0, 1) := by decide +kernel
theorem dL_law_332 : decode cL_law 332 = .ok (.iload_n 3, 1) := by decide +kernel
theorem dL_law_333 : decode cL_law 333 = .ok (.iconst 5, 1) := by decide +kernel
theorem dL_law_334 : decode cL_law 334 = .ok (.iadd, 1) := by decide +kernel
theorem dL_law_335 : decode cL_law 335 = .ok (.iaload, 1) := by decide +kernel
theorem dL_law_336 : decode cL_law 336 = .ok (.invokevirtual 34, 3) := by decide +kernel
theorem dL_law_339 : decode cL_law 339 = .ok (.aload_n 2, 1) := by decide +kernel
theorem dL_law_340 : decode cL_law 340 = .ok (.aload_n 0, 1) := by decide +kernel
theorem dL_law_341 : decode cL_law 341 = .ok (.iload_n 3, 1) := by decide +kernel
theorem dL_law_342 : decode cL_law 342 = .ok (.iconst 1, 1) := by decide +kernel
theorem dL_law_343 : decode cL_law 343 = .ok (.iadd, 1) := by decide +kernel
theorem dL_law_344 : decode cL_law 344 = .ok (.iaload, 1) := by decide +kernel
theorem dL_law_345 : decode cL_law 345 = .ok (.aload_n 0, 1) := by decide +kernel
theorem dL_law_346 : decode cL_law 346 = .ok (.iload_n 3, 1) := by decide +kernel
theorem dL_law_347 : decode cL_law 347 = .ok (.iconst 2, 1) := by decide +kernel
theorem dL_law_348 : decode cL_law 348 = .ok (.iadd, 1) := by decide +kernel
theorem dL_law_349 : decode cL_law 349 = .ok (.iaload, 1) := by decide +kernel
theorem dL_law_350 : decode cL_law 350 = .ok (.aload_n 0, 1) := by decide +kernel
theorem dL_law_351 : decode cL_law 351 = .ok (.iload_n 3, 1) := by decide +kernel
theorem dL_law_352 : decode cL_law 352 = .ok (.iconst 3, 1) := by decide +kernel
theorem dL_law_353 : decode cL_law 353 = .ok (.iadd, 1) := by decide +kernel
theorem dL_law_354 : decode cL_law 354 = .ok (.iaload, 1) := by decide +kernel
theorem dL_law_355 : decode cL_law 355 = .ok (.aload_n 0, 1) := by decide +kernel
theorem dL_law_356 : decode cL_law 356 = .ok (.iload_n 3, 1) := by decide +kernel
theorem dL_law_357 : decode cL_law 357 = .ok (.iconst 4, 1) := by decide +kernel
theorem dL_law_358 : decode cL_law 358 = .ok (.iadd, 1) := by decide +kernel
theorem dL_law_359 : decode cL_law 359 = .ok (.iaload, 1) := by decide +kernel
theorem dL_law_360 : decode cL_law 360 = .ok (.aload_n 0, 1) := by decide +kernel
theorem dL_law_361 : decode cL_law 361 = .ok (.iload_n 3, 1) := by decide +kernel
theorem dL_law_362 : decode cL_law 362 = .ok (.iconst 5, 1) := by decide +kernel
theorem dL_law_363 : decode cL_law 363 = .ok (.iadd, 1) := by decide +kernel
theorem dL_law_364 : decode cL_law 364 = .ok (.iaload, 1) := by decide +kernel
theorem dL_law_365 : decode cL_law 365 = .ok (.invokevirtual 38, 3) := by decide +kernel
theorem dL_law_368 : decode cL_law 368 = .ok (.if_icmp .eq 477, 3) := by decide +kernel
theorem dL_law_371 : decode cL_law 371 = .ok (.iconst 0, 1) := by decide +kernel
theorem dL_law_372 : decode cL_law 372 = .ok (.ireturn, 1) := by decide +kernel
theorem dL_law_373 : decode cL_law 373 = .ok (.aload_n 1, 1) := by decide +kernel
theorem dL_law_374 : decode cL_law 374 = .ok (.aload_n 0, 1) := by decide +kernel
theorem dL_law_375 : decode cL_law 375 = .ok (.iload_n 3, 1) := by decide +kernel
theorem dL_law_376 : decode cL_law 376 = .ok (.iconst 1, 1) := by decide +kernel
theorem dL_law_377 : decode cL_law 377 = .ok (.iadd, 1) := by decide +kernel
theorem dL_law_378 : decode cL_law 378 = .ok (.iaload, 1) := by decide +kernel
theorem dL_law_379 : decode cL_law 379 = .ok (.aload_n 0, 1) := by decide +kernel
theorem dL_law_380 : decode cL_law 380 = .ok (.iload_n 3, 1) := by decide +kernel
theorem dL_law_381 : decode cL_law 381 = .ok (.iconst 2, 1) := by decide +kernel
theorem dL_law_382 : decode cL_law 382 = .ok (.iadd, 1) := by decide +kernel
theorem dL_law_383 : decode cL_law 383 = .ok (.iaload, 1) := by decide +kernel
theorem dL_law_384 : decode cL_law 384 = .ok (.aload_n 0, 1) := by decide +kernel
theorem dL_law_385 : decode cL_law 385 = .ok (.iload_n 3, 1) := by decide +kernel
theorem dL_law_386 : decode cL_law 386 = .ok (.iconst 3, 1) := by decide +kernel
theorem dL_law_387 : decode cL_law 387 = .ok (.iadd, 1) := by decide +kernel
theorem dL_law_388 : decode cL_law 388 = .ok (.iaload, 1) := by decide +kernel
theorem dL_law_389 : decode cL_law 389 = .ok (.aload_n 0, 1) := by decide +kernel
theorem dL_law_390 : decode cL_law 390 = .ok (.iload_n 3, 1) := by decide +kernel
theorem dL_law_391 : decode cL_law 391 = .ok (.iconst 4, 1) := by decide +kernel
theorem dL_law_392 : decode cL_law 392 = .ok (.iadd, 1) := by decide +kernel
theorem dL_law_393 : decode cL_law 393 = .ok (.iaload, 1) := by decide +kernel
theorem dL_law_394 : decode cL_law 394 = .ok (.aload_n 0, 1) := by decide +kernel
theorem dL_law_395 : decode cL_law 395 = .ok (.iload_n 3, 1) := by decide +kernel
theorem dL_law_396 : decode cL_law 396 = .ok (.iconst 5, 1) := by decide +kernel
theorem dL_law_397 : decode cL_law 397 = .ok (.iadd, 1) := by decide +kernel
theorem dL_law_398 : decode cL_law 398 = .ok (.iaload, 1) := by decide +kernel
theorem dL_law_399 : decode cL_law 399 = .ok (.invokevirtual 39, 3) := by decide +kernel
theorem dL_law_402 : decode cL_law 402 = .ok (.aload_n 2, 1) := by decide +kernel
theorem dL_law_403 : decode cL_law 403 = .ok (.aload_n 0, 1) := by decide +kernel
theorem dL_law_404 : decode cL_law 404 = .ok (.iload_n 3, 1) := by decide +kernel
theorem dL_law_405 : decode cL_law 405 = .ok (.iconst 1, 1) := by decide +kernel
theorem dL_law_406 : decode cL_law 406 = .ok (.iadd, 1) := by decide +kernel
theorem dL_law_407 : decode cL_law 407 = .ok (.iaload, 1) := by decide +kernel
theorem dL_law_408 : decode cL_law 408 = .ok (.aload_n 0, 1) := by decide +kernel
theorem dL_law_409 : decode cL_law 409 = .ok (.iload_n 3, 1) := by decide +kernel
theorem dL_law_410 : decode cL_law 410 = .ok (.iconst 2, 1) := by decide +kernel
theorem dL_law_411 : decode cL_law 411 = .ok (.iadd, 1) := by decide +kernel
theorem dL_law_412 : decode cL_law 412 = .ok (.iaload, 1) := by decide +kernel
theorem dL_law_413 : decode cL_law 413 = .ok (.aload_n 0, 1) := by decide +kernel
theorem dL_law_414 : decode cL_law 414 = .ok (.iload_n 3, 1) := by decide +kernel
theorem dL_law_415 : decode cL_law 415 = .ok (.iconst 3, 1) := by decide +kernel
theorem dL_law_416 : decode cL_law 416 = .ok (.iadd, 1) := by decide +kernel
theorem dL_law_417 : decode cL_law 417 = .ok (.iaload, 1) := by decide +kernel
theorem dL_law_418 : decode cL_law 418 = .ok (.aload_n 0, 1) := by decide +kernel
theorem dL_law_419 : decode cL_law 419 = .ok (.iload_n 3, 1) := by decide +kernel
theorem dL_law_420 : decode cL_law 420 = .ok (.iconst 4, 1) := by decide +kernel
theorem dL_law_421 : decode cL_law 421 = .ok (.iadd, 1) := by decide +kernel
theorem dL_law_422 : decode cL_law 422 = .ok (.iaload, 1) := by decide +kernel
theorem dL_law_423 : decode cL_law 423 = .ok (.aload_n 0, 1) := by decide +kernel
theorem dL_law_424 : decode cL_law 424 = .ok (.iload_n 3, 1) := by decide +kernel
theorem dL_law_425 : decode cL_law 425 = .ok (.iconst 5, 1) := by decide +kernel
theorem dL_law_426 : decode cL_law 426 = .ok (.iadd, 1) := by decide +kernel
theorem dL_law_427 : decode cL_law 427 = .ok (.iaload, 1) := by decide +kernel
theorem dL_law_428 : decode cL_law 428 = .ok (.invokevirtual 42, 3) := by decide +kernel
theorem dL_law_431 : decode cL_law 431 = .ok (.if_icmp .eq 414, 3) := by decide +kernel
theorem dL_law_434 : decode cL_law 434 = .ok (.iconst 0, 1) := by decide +kernel
theorem dL_law_435 : decode cL_law 435 = .ok (.ireturn, 1) := by decide +kernel
theorem dL_law_436 : decode cL_law 436 = .ok (.aload_n 1, 1) := by decide +kernel
theorem dL_law_437 : decode cL_law 437 = .ok (.aload_n 0, 1) := by decide +kernel
theorem dL_law_438 : decode cL_law 438 = .ok (.iload_n 3, 1) := by decide +kernel
theorem dL_law_439 : decode cL_law 439 = .ok (.iconst 1, 1) := by decide +kernel
theorem dL_law_440 : decode cL_law 440 = .ok (.iadd, 1) := by decide +kernel
theorem dL_law_441 : decode cL_law 441 = .ok (.iaload, 1) := by decide +kernel
theorem dL_law_442 : decode cL_law 442 = .ok (.aload_n 0, 1) := by decide +kernel
theorem dL_law_443 : decode cL_law 443 = .ok (.iload_n 3, 1) := by decide +kernel
theorem dL_law_444 : decode cL_law 444 = .ok (.iconst 2, 1) := by decide +kernel
theorem dL_law_445 : decode cL_law 445 = .ok (.iadd, 1) := by decide +kernel
theorem dL_law_446 : decode cL_law 446 = .ok (.iaload, 1) := by decide +kernel
theorem dL_law_447 : decode cL_law 447 = .ok (.aload_n 0, 1) := by decide +kernel
theorem dL_law_448 : decode cL_law 448 = .ok (.iload_n 3, 1) := by decide +kernel
theorem dL_law_449 : decode cL_law 449 = .ok (.iconst 3, 1) := by decide +kernel
theorem dL_law_450 : decode cL_law 450 = .ok (.iadd, 1) := by decide +kernel
theorem dL_law_451 : decode cL_law 451 = .ok (.iaload, 1) := by decide +kernel
theorem dL_law_452 : decode cL_law 452 = .ok (.aload_n 0, 1) := by decide +kernel
theorem dL_law_453 : decode cL_law 453 = .ok (.iload_n 3, 1) := by decide +kernel
theorem dL_law_454 : decode cL_law 454 = .ok (.iconst 4, 1) := by decide +kernel
theorem dL_law_455 : decode cL_law 455 = .ok (.iadd, 1) := by decide +kernel
theorem dL_law_456 : decode cL_law 456 = .ok (.iaload, 1) := by decide +kernel
theorem dL_law_457 : decode cL_law 457 = .ok (.invokevirtual 43, 3) := by decide +kernel
theorem dL_law_460 : decode cL_law 460 = .ok (.aload_n 2, 1) := by decide +kernel
theorem dL_law_461 : decode cL_law 461 = .ok (.aload_n 0, 1) := by decide +kernel
theorem dL_law_462 : decode cL_law 462 = .ok (.iload_n 3, 1) := by decide +kernel
theorem dL_law_463 : decode cL_law 463 = .ok (.iconst 1, 1) := by decide +kernel
theorem dL_law_464 : decode cL_law 464 = .ok (.iadd, 1) := by decide +kernel
theorem dL_law_465 : decode cL_law 465 = .ok (.iaload, 1) := by decide +kernel
theorem dL_law_466 : decode cL_law 466 = .ok (.aload_n 0, 1) := by decide +kernel
theorem dL_law_467 : decode cL_law 467 = .ok (.iload_n 3, 1) := by decide +kernel
theorem dL_law_468 : decode cL_law 468 = .ok (.iconst 2, 1) := by decide +kernel
theorem dL_law_469 : decode cL_law 469 = .ok (.iadd, 1) := by decide +kernel
theorem dL_law_470 : decode cL_law 470 = .ok (.iaload, 1) := by decide +kernel
theorem dL_law_471 : decode cL_law 471 = .ok (.aload_n 0, 1) := by decide +kernel
theorem dL_law_472 : decode cL_law 472 = .ok (.iload_n 3, 1) := by decide +kernel
theorem dL_law_473 : decode cL_law 473 = .ok (.iconst 3, 1) := by decide +kernel
theorem dL_law_474 : decode cL_law 474 = .ok (.iadd, 1) := by decide +kernel
theorem dL_law_475 : decode cL_law 475 = .ok (.iaload, 1) := by decide +kernel
theorem dL_law_476 : decode cL_law 476 = .ok (.aload_n 0, 1) := by decide +kernel
theorem dL_law_477 : decode cL_law 477 = .ok (.iload_n 3, 1) := by decide +kernel
theorem dL_law_478 : decode cL_law 478 = .ok (.iconst 4, 1) := by decide +kernel
theorem dL_law_479 : decode cL_law 479 = .ok (.iadd, 1) := by decide +kernel
theorem dL_law_480 : decode cL_law 480 = .ok (.iaload, 1) := by decide +kernel
theorem dL_law_481 : decode cL_law 481 = .ok (.invokevirtual 47, 3) := by decide +kernel
theorem dL_law_484 : decode cL_law 484 = .ok (.lcmp, 1) := by decide +kernel
theorem dL_law_485 : decode cL_law 485 = .ok (.ifCond .eq 360, 3) := by decide +kernel
theorem dL_law_488 : decode cL_law 488 = .ok (.iconst 0, 1) := by decide +kernel
theorem dL_law_489 : decode cL_law 489 = .ok (.ireturn, 1) := by decide +kernel
theorem dL_law_490 : decode cL_law 490 = .ok (.aload_n 1, 1) := by decide +kernel
theorem dL_law_491 : decode cL_law 491 = .ok (.aload_n 0, 1) := by decide +kernel
theorem dL_law_492 : decode cL_law 492 = .ok (.iload_n 3, 1) := by decide +kernel
theorem dL_law_493 : decode cL_law 493 = .ok (.iconst 1, 1) := by decide +kernel
theorem dL_law_494 : decode cL_law 494 = .ok (.iadd, 1) := by decide +kernel
theorem dL_law_495 : decode cL_law 495 = .ok (.iaload, 1) := by decide +kernel
theorem dL_law_496 : decode cL_law 496 = .ok (.invokevirtual 48, 3) := by decide +kernel
theorem dL_law_499 : decode cL_law 499 = .ok (.aload_n 2, 1) := by decide +kernel
theorem dL_law_500 : decode cL_law 500 = .ok (.aload_n 0, 1) := by decide +kernel
theorem dL_law_501 : decode cL_law 501 = .ok (.iload_n 3, 1) := by decide +kernel
theorem dL_law_502 : decode cL_law 502 = .ok (.iconst 1, 1) := by decide +kernel
theorem dL_law_503 : decode cL_law 503 = .ok (.iadd, 1) := by decide +kernel
theorem dL_law_504 : decode cL_law 504 = .ok (.iaload, 1) := by decide +kernel
theorem dL_law_505 : decode cL_law 505 = .ok (.invokevirtual 52, 3) := by decide +kernel
theorem dL_law_508 : decode cL_law 508 = .ok (.lcmp, 1) := by decide +kernel
theorem dL_law_509 : decode cL_law 509 = .ok (.ifCond .eq 336, 3) := by decide +kernel
theorem dL_law_512 : decode cL_law 512 = .ok (.iconst 0, 1) := by decide +kernel
theorem dL_law_513 : decode cL_law 513 = .ok (.ireturn, 1) := by decide +kernel
theorem dL_law_514 : decode cL_law 514 = .ok (.aload_n 1, 1) := by decide +kernel
theorem dL_law_515 : decode cL_law 515 = .ok (.aload_n 0, 1) := by decide +kernel
theorem dL_law_516 : decode cL_law 516 = .ok (.iload_n 3, 1) := by decide +kernel
theorem dL_law_517 : decode cL_law 517 = .ok (.iconst 1, 1) := by decide +kernel
theorem dL_law_518 : decode cL_law 518 = .ok (.iadd, 1) := by decide +kernel
theorem dL_law_519 : decode cL_law 519 = .ok (.iaload, 1) := by decide +kernel
theorem dL_law_520 : decode cL_law 520 = .ok (.aload_n 0, 1) := by decide +kernel
theorem dL_law_521 : decode cL_law 521 = .ok (.iload_n 3, 1) := by decide +kernel
theorem dL_law_522 : decode cL_law 522 = .ok (.iconst 2, 1) := by decide +kernel
theorem dL_law_523 : decode cL_law 523 = .ok (.iadd, 1) := by decide +kernel
theorem dL_law_524 : decode cL_law 524 = .ok (.iaload, 1) := by decide +kernel
theorem dL_law_525 : decode cL_law 525 = .ok (.invokevirtual 53, 3) := by decide +kernel
theorem dL_law_528 : decode cL_law 528 = .ok (.aload_n 2, 1) := by decide +kernel
theorem dL_law_529 : decode cL_law 529 = .ok (.aload_n 0, 1) := by decide +kernel
theorem dL_law_530 : decode cL_law 530 = .ok (.iload_n 3, 1) := by decide +kernel
theorem dL_law_531 : decode cL_law 531 = .ok (.iconst 1, 1) := by decide +kernel
theorem dL_law_532 : decode cL_law 532 = .ok (.iadd, 1) := by decide +kernel
theorem dL_law_533 : decode cL_law 533 = .ok (.iaload, 1) := by decide +kernel
theorem dL_law_534 : decode cL_law 534 = .ok (.aload_n 0, 1) := by decide +kernel
theorem dL_law_535 : decode cL_law 535 = .ok (.iload_n 3, 1) := by decide +kernel
theorem dL_law_536 : decode cL_law 536 = .ok (.iconst 2, 1) := by decide +kernel
theorem dL_law_537 : decode cL_law 537 = .ok (.iadd, 1) := by decide +kernel
theorem dL_law_538 : decode cL_law 538 = .ok (.iaload, 1) := by decide +kernel
theorem dL_law_539 : decode cL_law 539 = .ok (.invokevirtual 57, 3) := by decide +kernel
theorem dL_law_542 : decode cL_law 542 = .ok (.lcmp, 1) := by decide +kernel
theorem dL_law_543 : decode cL_law 543 = .ok (.ifCond .eq 302, 3) := by decide +kernel
theorem dL_law_546 : decode cL_law 546 = .ok (.iconst 0, 1) := by decide +kernel
theorem dL_law_547 : decode cL_law 547 = .ok (.ireturn, 1) := by decide +kernel
theorem dL_law_548 : decode cL_law 548 = .ok (.aload_n 1, 1) := by decide +kernel
theorem dL_law_549 : decode cL_law 549 = .ok (.aload_n 0, 1) := by decide +kernel
theorem dL_law_550 : decode cL_law 550 = .ok (.iload_n 3, 1) := by decide +kernel
theorem dL_law_551 : decode cL_law 551 = .ok (.iconst 1, 1) := by decide +kernel
theorem dL_law_552 : decode cL_law 552 = .ok (.iadd, 1) := by decide +kernel
theorem dL_law_553 : decode cL_law 553 = .ok (.iaload, 1) := by decide +kernel
theorem dL_law_554 : decode cL_law 554 = .ok (.aload_n 0, 1) := by decide +kernel
theorem dL_law_555 : decode cL_law 555 = .ok (.iload_n 3, 1) := by decide +kernel
theorem dL_law_556 : decode cL_law 556 = .ok (.iconst 2, 1) := by decide +kernel
theorem dL_law_557 : decode cL_law 557 = .ok (.iadd, 1) := by decide +kernel
theorem dL_law_558 : decode cL_law 558 = .ok (.iaload, 1) := by decide +kernel
theorem dL_law_559 : decode cL_law 559 = .ok (.invokevirtual 58, 3) := by decide +kernel
theorem dL_law_562 : decode cL_law 562 = .ok (.aload_n 2, 1) := by decide +kernel
theorem dL_law_563 : decode cL_law 563 = .ok (.aload_n 0, 1) := by decide +kernel
theorem dL_law_564 : decode cL_law 564 = .ok (.iload_n 3, 1) := by decide +kernel
theorem dL_law_565 : decode cL_law 565 = .ok (.iconst 1, 1) := by decide +kernel
theorem dL_law_566 : decode cL_law 566 = .ok (.iadd, 1) := by decide +kernel
theorem dL_law_567 : decode cL_law 567 = .ok (.iaload, 1) := by decide +kernel
theorem dL_law_568 : decode cL_law 568 = .ok (.aload_n 0, 1) := by decide +kernel
theorem dL_law_569 : decode cL_law 569 = .ok (.iload_n 3, 1) := by decide +kernel
theorem dL_law_570 : decode cL_law 570 = .ok (.iconst 2, 1) := by decide +kernel
theorem dL_law_571 : decode cL_law 571 = .ok (.iadd, 1) := by decide +kernel
theorem dL_law_572 : decode cL_law 572 = .ok (.iaload, 1) := by decide +kernel
theorem dL_law_573 : decode cL_law 573 = .ok (.invokevirtual 62, 3) := by decide +kernel
theorem dL_law_576 : decode cL_law 576 = .ok (.if_icmp .eq 269, 3) := by decide +kernel
theorem dL_law_579 : decode cL_law 579 = .ok (.iconst 0, 1) := by decide +kernel
theorem dL_law_580 : decode cL_law 580 = .ok (.ireturn, 1) := by decide +kernel
theorem dL_law_581 : decode cL_law 581 = .ok (.aload_n 1, 1) := by decide +kernel
theorem dL_law_582 : decode cL_law 582 = .ok (.aload_n 0, 1) := by decide +kernel
theorem dL_law_583 : decode cL_law 583 = .ok (.iload_n 3, 1) := by decide +kernel
theorem dL_law_584 : decode cL_law 584 = .ok (.iconst 1, 1) := by decide +kernel
theorem dL_law_585 : decode cL_law 585 = .ok (.iadd, 1) := by decide +kernel
theorem dL_law_586 : decode cL_law 586 = .ok (.iaload, 1) := by decide +kernel
theorem dL_law_587 : decode cL_law 587 = .ok (.aload_n 0, 1) := by decide +kernel
theorem dL_law_588 : decode cL_law 588 = .ok (.iload_n 3, 1) := by decide +kernel
theorem dL_law_589 : decode cL_law 589 = .ok (.iconst 2, 1) := by decide +kernel
theorem dL_law_590 : decode cL_law 590 = .ok (.iadd, 1) := by decide +kernel
theorem dL_law_591 : decode cL_law 591 = .ok (.iaload, 1) := by decide +kernel
theorem dL_law_592 : decode cL_law 592 = .ok (.invokevirtual 63, 3) := by decide +kernel
theorem dL_law_595 : decode cL_law 595 = .ok (.aload_n 2, 1) := by decide +kernel
theorem dL_law_596 : decode cL_law 596 = .ok (.aload_n 0, 1) := by decide +kernel
theorem dL_law_597 : decode cL_law 597 = .ok (.iload_n 3, 1) := by decide +kernel
theorem dL_law_598 : decode cL_law 598 = .ok (.iconst 1, 1) := by decide +kernel
theorem dL_law_599 : decode cL_law 599 = .ok (.iadd, 1) := by decide +kernel
theorem dL_law_600 : decode cL_law 600 = .ok (.iaload, 1) := by decide +kernel
theorem dL_law_601 : decode cL_law 601 = .ok (.aload_n 0, 1) := by decide +kernel
theorem dL_law_602 : decode cL_law 602 = .ok (.iload_n 3, 1) := by decide +kernel
theorem dL_law_603 : decode cL_law 603 = .ok (.iconst 2, 1) := by decide +kernel
theorem dL_law_604 : decode cL_law 604 = .ok (.iadd, 1) := by decide +kernel
theorem dL_law_605 : decode cL_law 605 = .ok (.iaload, 1) := by decide +kernel
theorem dL_law_606 : decode cL_law 606 = .ok (.invokevirtual 66, 3) := by decide +kernel
theorem dL_law_609 : decode cL_law 609 = .ok (.lcmp, 1) := by decide +kernel
theorem dL_law_610 : decode cL_law 610 = .ok (.ifCond .eq 235, 3) := by decide +kernel
theorem dL_law_613 : decode cL_law 613 = .ok (.iconst 0, 1) := by decide +kernel
theorem dL_law_614 : decode cL_law 614 = .ok (.ireturn, 1) := by decide +kernel
theorem dL_law_615 : decode cL_law 615 = .ok (.aload_n 1, 1) := by decide +kernel
theorem dL_law_616 : decode cL_law 616 = .ok (.aload_n 0, 1) := by decide +kernel
theorem dL_law_617 : decode cL_law 617 = .ok (.iload_n 3, 1) := by decide +kernel
theorem dL_law_618 : decode cL_law 618 = .ok (.iconst 1, 1) := by decide +kernel
theorem dL_law_619 : decode cL_law 619 = .ok (.iadd, 1) := by decide +kernel
theorem dL_law_620 : decode cL_law 620 = .ok (.iaload, 1) := by decide +kernel
theorem dL_law_621 : decode cL_law 621 = .ok (.aload_n 0, 1) := by decide +kernel
theorem dL_law_622 : decode cL_law 622 = .ok (.iload_n 3, 1) := by decide +kernel
theorem dL_law_623 : decode cL_law 623 = .ok (.iconst 2, 1) := by decide +kernel
theorem dL_law_624 : decode cL_law 624 = .ok (.iadd, 1) := by decide +kernel
theorem dL_law_625 : decode cL_law 625 = .ok (.iaload, 1) := by decide +kernel
theorem dL_law_626 : decode cL_law 626 = .ok (.aload_n 0, 1) := by decide +kernel
theorem dL_law_627 : decode cL_law 627 = .ok (.iload_n 3, 1) := by decide +kernel
theorem dL_law_628 : decode cL_law 628 = .ok (.iconst 3, 1) := by decide +kernel
theorem dL_law_629 : decode cL_law 629 = .ok (.iadd, 1) := by decide +kernel
theorem dL_law_630 : decode cL_law 630 = .ok (.iaload, 1) := by decide +kernel
theorem dL_law_631 : decode cL_law 631 = .ok (.aload_n 0, 1) := by decide +kernel
theorem dL_law_632 : decode cL_law 632 = .ok (.iload_n 3, 1) := by decide +kernel
theorem dL_law_633 : decode cL_law 633 = .ok (.iconst 4, 1) := by decide +kernel
theorem dL_law_634 : decode cL_law 634 = .ok (.iadd, 1) := by decide +kernel
theorem dL_law_635 : decode cL_law 635 = .ok (.iaload, 1) := by decide +kernel
theorem dL_law_636 : decode cL_law 636 = .ok (.invokevirtual 67, 3) := by decide +kernel
theorem dL_law_639 : decode cL_law 639 = .ok (.aload_n 2, 1) := by decide +kernel
theorem dL_law_640 : decode cL_law 640 = .ok (.aload_n 0, 1) := by decide +kernel
theorem dL_law_641 : decode cL_law 641 = .ok (.iload_n 3, 1) := by decide +kernel
theorem dL_law_642 : decode cL_law 642 = .ok (.iconst 1, 1) := by decide +kernel
theorem dL_law_643 : decode cL_law 643 = .ok (.iadd, 1) := by decide +kernel
theorem dL_law_644 : decode cL_law 644 = .ok (.iaload, 1) := by decide +kernel
theorem dL_law_645 : decode cL_law 645 = .ok (.aload_n 0, 1) := by decide +kernel
theorem dL_law_646 : decode cL_law 646 = .ok (.iload_n 3, 1) := by decide +kernel
theorem dL_law_647 : decode cL_law 647 = .ok (.iconst 2, 1) := by decide +kernel
theorem dL_law_648 : decode cL_law 648 = .ok (.iadd, 1) := by decide +kernel
theorem dL_law_649 : decode cL_law 649 = .ok (.iaload, 1) := by decide +kernel
theorem dL_law_650 : decode cL_law 650 = .ok (.aload_n 0, 1) := by decide +kernel
theorem dL_law_651 : decode cL_law 651 = .ok (.iload_n 3, 1) := by decide +kernel
theorem dL_law_652 : decode cL_law 652 = .ok (.iconst 3, 1) := by decide +kernel
theorem dL_law_653 : decode cL_law 653 = .ok (.iadd, 1) := by decide +kernel
theorem dL_law_654 : decode cL_law 654 = .ok (.iaload, 1) := by decide +kernel
theorem dL_law_655 : decode cL_law 655 = .ok (.aload_n 0, 1) := by decide +kernel
theorem dL_law_656 : decode cL_law 656 = .ok (.iload_n 3, 1) := by decide +kernel
theorem dL_law_657 : decode cL_law 657 = .ok (.iconst 4, 1) := by decide +kernel
theorem dL_law_658 : decode cL_law 658 = .ok (.iadd, 1) := by decide +kernel
theorem dL_law_659 : decode cL_law 659 = .ok (.iaload, 1) := by decide +kernel
theorem dL_law_660 : decode cL_law 660 = .ok (.invokevirtual 70, 3) := by decide +kernel
theorem dL_law_663 : decode cL_law 663 = .ok (.lcmp, 1) := by decide +kernel
theorem dL_law_664 : decode cL_law 664 = .ok (.ifCond .eq 181, 3) := by decide +kernel
theorem dL_law_667 : decode cL_law 667 = .ok (.iconst 0, 1) := by decide +kernel
theorem dL_law_668 : decode cL_law 668 = .ok (.ireturn, 1) := by decide +kernel
theorem dL_law_669 : decode cL_law 669 = .ok (.aload_n 1, 1) := by decide +kernel
theorem dL_law_670 : decode cL_law 670 = .ok (.aload_n 0, 1) := by decide +kernel
theorem dL_law_671 : decode cL_law 671 = .ok (.iload_n 3, 1) := by decide +kernel
theorem dL_law_672 : decode cL_law 672 = .ok (.iconst 1, 1) := by decide +kernel
theorem dL_law_673 : decode cL_law 673 = .ok (.iadd, 1) := by decide +kernel
theorem dL_law_674 : decode cL_law 674 = .ok (.iaload, 1) := by decide +kernel
theorem dL_law_675 : decode cL_law 675 = .ok (.aload_n 0, 1) := by decide +kernel
theorem dL_law_676 : decode cL_law 676 = .ok (.iload_n 3, 1) := by decide +kernel
theorem dL_law_677 : decode cL_law 677 = .ok (.iconst 2, 1) := by decide +kernel
theorem dL_law_678 : decode cL_law 678 = .ok (.iadd, 1) := by decide +kernel
theorem dL_law_679 : decode cL_law 679 = .ok (.iaload, 1) := by decide +kernel
theorem dL_law_680 : decode cL_law 680 = .ok (.invokevirtual 71, 3) := by decide +kernel
theorem dL_law_683 : decode cL_law 683 = .ok (.aload_n 2, 1) := by decide +kernel
theorem dL_law_684 : decode cL_law 684 = .ok (.aload_n 0, 1) := by decide +kernel
theorem dL_law_685 : decode cL_law 685 = .ok (.iload_n 3, 1) := by decide +kernel
theorem dL_law_686 : decode cL_law 686 = .ok (.iconst 1, 1) := by decide +kernel
theorem dL_law_687 : decode cL_law 687 = .ok (.iadd, 1) := by decide +kernel
theorem dL_law_688 : decode cL_law 688 = .ok (.iaload, 1) := by decide +kernel
theorem dL_law_689 : decode cL_law 689 = .ok (.aload_n 0, 1) := by decide +kernel
theorem dL_law_690 : decode cL_law 690 = .ok (.iload_n 3, 1) := by decide +kernel
theorem dL_law_691 : decode cL_law 691 = .ok (.iconst 2, 1) := by decide +kernel
theorem dL_law_692 : decode cL_law 692 = .ok (.iadd, 1) := by decide +kernel
theorem dL_law_693 : decode cL_law 693 = .ok (.iaload, 1) := by decide +kernel
theorem dL_law_694 : decode cL_law 694 = .ok (.invokevirtual 74, 3) := by decide +kernel
theorem dL_law_697 : decode cL_law 697 = .ok (.if_icmp .eq 148, 3) := by decide +kernel
theorem dL_law_700 : decode cL_law 700 = .ok (.iconst 0, 1) := by decide +kernel
theorem dL_law_701 : decode cL_law 701 = .ok (.ireturn, 1) := by decide +kernel
theorem dL_law_702 : decode cL_law 702 = .ok (.aload_n 1, 1) := by decide +kernel
theorem dL_law_703 : decode cL_law 703 = .ok (.aload_n 0, 1) := by decide +kernel
theorem dL_law_704 : decode cL_law 704 = .ok (.iload_n 3, 1) := by decide +kernel
theorem dL_law_705 : decode cL_law 705 = .ok (.iconst 1, 1) := by decide +kernel
theorem dL_law_706 : decode cL_law 706 = .ok (.iadd, 1) := by decide +kernel
theorem dL_law_707 : decode cL_law 707 = .ok (.iaload, 1) := by decide +kernel
theorem dL_law_708 : decode cL_law 708 = .ok (.aload_n 0, 1) := by decide +kernel
theorem dL_law_709 : decode cL_law 709 = .ok (.iload_n 3, 1) := by decide +kernel
theorem dL_law_710 : decode cL_law 710 = .ok (.iconst 2, 1) := by decide +kernel
theorem dL_law_711 : decode cL_law 711 = .ok (.iadd, 1) := by decide +kernel
theorem dL_law_712 : decode cL_law 712 = .ok (.iaload, 1) := by decide +kernel
theorem dL_law_713 : decode cL_law 713 = .ok (.invokevirtual 75, 3) := by decide +kernel
theorem dL_law_716 : decode cL_law 716 = .ok (.aload_n 2, 1) := by decide +kernel
theorem dL_law_717 : decode cL_law 717 = .ok (.aload_n 0, 1) := by decide +kernel
theorem dL_law_718 : decode cL_law 718 = .ok (.iload_n 3, 1) := by decide +kernel
theorem dL_law_719 : decode cL_law 719 = .ok (.iconst 1, 1) := by decide +kernel
theorem dL_law_720 : decode cL_law 720 = .ok (.iadd, 1) := by decide +kernel
theorem dL_law_721 : decode cL_law 721 = .ok (.iaload, 1) := by decide +kernel
theorem dL_law_722 : decode cL_law 722 = .ok (.aload_n 0, 1) := by decide +kernel
theorem dL_law_723 : decode cL_law 723 = .ok (.iload_n 3, 1) := by decide +kernel
theorem dL_law_724 : decode cL_law 724 = .ok (.iconst 2, 1) := by decide +kernel
theorem dL_law_725 : decode cL_law 725 = .ok (.iadd, 1) := by decide +kernel
theorem dL_law_726 : decode cL_law 726 = .ok (.iaload, 1) := by decide +kernel
theorem dL_law_727 : decode cL_law 727 = .ok (.invokevirtual 78, 3) := by decide +kernel
theorem dL_law_730 : decode cL_law 730 = .ok (.if_icmp .eq 115, 3) := by decide +kernel
theorem dL_law_733 : decode cL_law 733 = .ok (.iconst 0, 1) := by decide +kernel
theorem dL_law_734 : decode cL_law 734 = .ok (.ireturn, 1) := by decide +kernel
theorem dL_law_735 : decode cL_law 735 = .ok (.aload_n 1, 1) := by decide +kernel
theorem dL_law_736 : decode cL_law 736 = .ok (.aload_n 0, 1) := by decide +kernel
theorem dL_law_737 : decode cL_law 737 = .ok (.iload_n 3, 1) := by decide +kernel
theorem dL_law_738 : decode cL_law 738 = .ok (.iconst 1, 1) := by decide +kernel
theorem dL_law_739 : decode cL_law 739 = .ok (.iadd, 1) := by decide +kernel
theorem dL_law_740 : decode cL_law 740 = .ok (.iaload, 1) := by decide +kernel
theorem dL_law_741 : decode cL_law 741 = .ok (.aload_n 0, 1) := by decide +kernel
theorem dL_law_742 : decode cL_law 742 = .ok (.iload_n 3, 1) := by decide +kernel
theorem dL_law_743 : decode cL_law 743 = .ok (.iconst 2, 1) := by decide +kernel
theorem dL_law_744 : decode cL_law 744 = .ok (.iadd, 1) := by decide +kernel
theorem dL_law_745 : decode cL_law 745 = .ok (.iaload, 1) := by decide +kernel
theorem dL_law_746 : decode cL_law 746 = .ok (.aload_n 0, 1) := by decide +kernel
theorem dL_law_747 : decode cL_law 747 = .ok (.iload_n 3, 1) := by decide +kernel
theorem dL_law_748 : decode cL_law 748 = .ok (.iconst 3, 1) := by decide +kernel
theorem dL_law_749 : decode cL_law 749 = .ok (.iadd, 1) := by decide +kernel
theorem dL_law_750 : decode cL_law 750 = .ok (.iaload, 1) := by decide +kernel
theorem dL_law_751 : decode cL_law 751 = .ok (.aload_n 0, 1) := by decide +kernel
theorem dL_law_752 : decode cL_law 752 = .ok (.iload_n 3, 1) := by decide +kernel
theorem dL_law_753 : decode cL_law 753 = .ok (.iconst 4, 1) := by decide +kernel
theorem dL_law_754 : decode cL_law 754 = .ok (.iadd, 1) := by decide +kernel
theorem dL_law_755 : decode cL_law 755 = .ok (.iaload, 1) := by decide +kernel
theorem dL_law_756 : decode cL_law 756 = .ok (.invokevirtual 79, 3) := by decide +kernel
theorem dL_law_759 : decode cL_law 759 = .ok (.aload_n 2, 1) := by decide +kernel
theorem dL_law_760 : decode cL_law 760 = .ok (.aload_n 0, 1) := by decide +kernel
theorem dL_law_761 : decode cL_law 761 = .ok (.iload_n 3, 1) := by decide +kernel
theorem dL_law_762 : decode cL_law 762 = .ok (.iconst 1, 1) := by decide +kernel
theorem dL_law_763 : decode cL_law 763 = .ok (.iadd, 1) := by decide +kernel
theorem dL_law_764 : decode cL_law 764 = .ok (.iaload, 1) := by decide +kernel
theorem dL_law_765 : decode cL_law 765 = .ok (.aload_n 0, 1) := by decide +kernel
theorem dL_law_766 : decode cL_law 766 = .ok (.iload_n 3, 1) := by decide +kernel
theorem dL_law_767 : decode cL_law 767 = .ok (.iconst 2, 1) := by decide +kernel
theorem dL_law_768 : decode cL_law 768 = .ok (.iadd, 1) := by decide +kernel
theorem dL_law_769 : decode cL_law 769 = .ok (.iaload, 1) := by decide +kernel
theorem dL_law_770 : decode cL_law 770 = .ok (.aload_n 0, 1) := by decide +kernel
theorem dL_law_771 : decode cL_law 771 = .ok (.iload_n 3, 1) := by decide +kernel
theorem dL_law_772 : decode cL_law 772 = .ok (.iconst 3, 1) := by decide +kernel
theorem dL_law_773 : decode cL_law 773 = .ok (.iadd, 1) := by decide +kernel
theorem dL_law_774 : decode cL_law 774 = .ok (.iaload, 1) := by decide +kernel
theorem dL_law_775 : decode cL_law 775 = .ok (.aload_n 0, 1) := by decide +kernel
theorem dL_law_776 : decode cL_law 776 = .ok (.iload_n 3, 1) := by decide +kernel
theorem dL_law_777 : decode cL_law 777 = .ok (.iconst 4, 1) := by decide +kernel
theorem dL_law_778 : decode cL_law 778 = .ok (.iadd, 1) := by decide +kernel
theorem dL_law_779 : decode cL_law 779 = .ok (.iaload, 1) := by decide +kernel
theorem dL_law_780 : decode cL_law 780 = .ok (.invokevirtual 83, 3) := by decide +kernel
theorem dL_law_783 : decode cL_law 783 = .ok (.if_icmp .eq 62, 3) := by decide +kernel
theorem dL_law_786 : decode cL_law 786 = .ok (.iconst 0, 1) := by decide +kernel
theorem dL_law_787 : decode cL_law 787 = .ok (.ireturn, 1) := by decide +kernel
theorem dL_law_788 : decode cL_law 788 = .ok (.aload_n 1, 1) := by decide +kernel
theorem dL_law_789 : decode cL_law 789 = .ok (.aload_n 0, 1) := by decide +kernel
theorem dL_law_790 : decode cL_law 790 = .ok (.iload_n 3, 1) := by decide +kernel
theorem dL_law_791 : decode cL_law 791 = .ok (.iconst 1, 1) := by decide +kernel
theorem dL_law_792 : decode cL_law 792 = .ok (.iadd, 1) := by decide +kernel
theorem dL_law_793 : decode cL_law 793 = .ok (.iaload, 1) := by decide +kernel
theorem dL_law_794 : decode cL_law 794 = .ok (.invokevirtual 84, 3) := by decide +kernel
theorem dL_law_797 : decode cL_law 797 = .ok (.aload_n 2, 1) := by decide +kernel
theorem dL_law_798 : decode cL_law 798 = .ok (.aload_n 0, 1) := by decide +kernel
theorem dL_law_799 : decode cL_law 799 = .ok (.iload_n 3, 1) := by decide +kernel
theorem dL_law_800 : decode cL_law 800 = .ok (.iconst 1, 1) := by decide +kernel
theorem dL_law_801 : decode cL_law 801 = .ok (.iadd, 1) := by decide +kernel
theorem dL_law_802 : decode cL_law 802 = .ok (.iaload, 1) := by decide +kernel
theorem dL_law_803 : decode cL_law 803 = .ok (.invokevirtual 88, 3) := by decide +kernel
theorem dL_law_806 : decode cL_law 806 = .ok (.if_icmp .eq 39, 3) := by decide +kernel
theorem dL_law_809 : decode cL_law 809 = .ok (.iconst 0, 1) := by decide +kernel
theorem dL_law_810 : decode cL_law 810 = .ok (.ireturn, 1) := by decide +kernel
theorem dL_law_811 : decode cL_law 811 = .ok (.aload_n 1, 1) := by decide +kernel
theorem dL_law_812 : decode cL_law 812 = .ok (.aload_n 0, 1) := by decide +kernel
theorem dL_law_813 : decode cL_law 813 = .ok (.iload_n 3, 1) := by decide +kernel
theorem dL_law_814 : decode cL_law 814 = .ok (.iconst 1, 1) := by decide +kernel
theorem dL_law_815 : decode cL_law 815 = .ok (.iadd, 1) := by decide +kernel
theorem dL_law_816 : decode cL_law 816 = .ok (.iaload, 1) := by decide +kernel
theorem dL_law_817 : decode cL_law 817 = .ok (.aload_n 0, 1) := by decide +kernel
theorem dL_law_818 : decode cL_law 818 = .ok (.iload_n 3, 1) := by decide +kernel
theorem dL_law_819 : decode cL_law 819 = .ok (.iconst 2, 1) := by decide +kernel
theorem dL_law_820 : decode cL_law 820 = .ok (.iadd, 1) := by decide +kernel
theorem dL_law_821 : decode cL_law 821 = .ok (.iaload, 1) := by decide +kernel
theorem dL_law_822 : decode cL_law 822 = .ok (.invokevirtual 89, 3) := by decide +kernel
theorem dL_law_825 : decode cL_law 825 = .ok (.aload_n 2, 1) := by decide +kernel
theorem dL_law_826 : decode cL_law 826 = .ok (.aload_n 0, 1) := by decide +kernel
theorem dL_law_827 : decode cL_law 827 = .ok (.iload_n 3, 1) := by decide +kernel
theorem dL_law_828 : decode cL_law 828 = .ok (.iconst 1, 1) := by decide +kernel
theorem dL_law_829 : decode cL_law 829 = .ok (.iadd, 1) := by decide +kernel
theorem dL_law_830 : decode cL_law 830 = .ok (.iaload, 1) := by decide +kernel
theorem dL_law_831 : decode cL_law 831 = .ok (.aload_n 0, 1) := by decide +kernel
theorem dL_law_832 : decode cL_law 832 = .ok (.iload_n 3, 1) := by decide +kernel
theorem dL_law_833 : decode cL_law 833 = .ok (.iconst 2, 1) := by decide +kernel
theorem dL_law_834 : decode cL_law 834 = .ok (.iadd, 1) := by decide +kernel
theorem dL_law_835 : decode cL_law 835 = .ok (.iaload, 1) := by decide +kernel
theorem dL_law_836 : decode cL_law 836 = .ok (.invokevirtual 92, 3) := by decide +kernel
theorem dL_law_839 : decode cL_law 839 = .ok (.lcmp, 1) := by decide +kernel
theorem dL_law_840 : decode cL_law 840 = .ok (.ifCond .eq 5, 3) := by decide +kernel
theorem dL_law_843 : decode cL_law 843 = .ok (.iconst 0, 1) := by decide +kernel
theorem dL_law_844 : decode cL_law 844 = .ok (.ireturn, 1) := by decide +kernel
theorem dL_law_845 : decode cL_law 845 = .ok (.iinc 3 6, 3) := by decide +kernel
theorem dL_law_848 : decode cL_law 848 = .ok (.goto (-830), 3) := by decide +kernel
theorem dL_law_851 : decode cL_law 851 = .ok (.iconst 1, 1) := by decide +kernel
theorem dL_law_852 : decode cL_law 852 = .ok (.ireturn, 1) := by decide +kernel
abbrev vwCl : List vw_C := [(RJx4a65c, TJx4a65c, 3), (RX0, TX0, 7), (RX1, TX1, 14), (RX2, TX2, 27)]
end
section
def bI (b : Bool) : Int32 := if b = true then 1 else 0
theorem bI_t : bI true = 1 := rfl
theorem bI_f : bI false = 0 := rfl
theorem bI_nar (b : Bool) : narrow .boolean (.int (bI b)) = .int (bI b) := by cases b <;> rfl
theorem bI_vnar (b : Bool) : vp_nar .boolean (bI b) = bI b := by cases b <;> rfl
abbrev RoI (l : Launch) (y : MethodName) (ws : List Cond) (rm : Room) (As : List Value) (B : State → Prop) (v : Int32) : Prop := Met l y ws rm (va_Pc As B) (vp_Si (fun r => r = v)) 0 0 (fun _ => False)
abbrev RoL (l : Launch) (y : MethodName) (ws : List Cond) (rm : Room) (As : List Value) (B : State → Prop) (v : Int64) : Prop := Met l y ws rm (va_Pc As B) (vp_Sl (fun r => r = v)) 0 0 (fun _ => False)
def roB (D : va_G) (w : va_W) (tys : List (ClassId × FieldType)) : State → Prop := fun U => va_P D vwCl w U.heap ∧ va_K D vwCl tys U
def noB : State → Prop := fun _ => True
theorem roB_bl {D : va_G} {w : va_W} {tys : List (ClassId × FieldType)} (U : State) (g : JFrame) (mk : MethodId) (a : Array Value) (h : roB D w tys U) : roB D w tys (U.calling g mk a) := ⟨h.1, va_K.moved (u := U) (U := U.calling g mk a) (Vm.Alike.refl U.vm) h.2⟩
theorem noB_bl (U : State) (g : JFrame) (mk : MethodId) (a : Array Value) (_ : noB U) : noB (U.calling g mk a) := trivial
theorem roB_at {s : State} {H : Heap} {D : va_G} {w : va_W} {tys : List (ClassId × FieldType)} (hP : va_P D vwCl w H) (hK : va_K D vwCl tys s) : ∀ U : State, U.heap = H → s.WarmedH U.vm → roB D w tys U := fun U hU hW => ⟨by rw [hU]; exact hP, va_K.moved hW.alike hK⟩
theorem noB_at {s : State} {H : Heap} : ∀ U : State, U.heap = H → s.WarmedH U.vm → noB U := fun _ _ _ => trivial
theorem Ro_start {l : Launch} {y : MethodName} {ws ws' : List Cond} {rm : Room} {As : List Value} {B : State → Prop} {Qc : Array Value → State → Outcome → State → Prop} {cc : ByteArray} {maxL : Nat} {ret : Option FieldType} {mc ms : Nat} {free : Addr → Prop} {lv : List (Nat × Value)}
    (hy : plainName y.cls = true) (hw : ws = Cond.code y cc maxL ret :: ws') (hlen : (lg_sl As).length ≤ maxL) (hlv : lv_args 0 As = lv)
    (body : ∀ p e s m args below meth c, p.tables.exec = Jvm.exec → c.code = cc → meth.sig.returnType = ret → c.maxLocals = maxL → (∀ w ∈ ws, w.before args s = true) → s.vm.findClass y.cls = some m.cls → meth.locks = false → meth.name = y.name → B s → ∀ ls : Array Slot, lv_has ls maxL lv → W p l e rm s m args below meth c s.heap [] 0 0 (MQ below Qc args s mc ms free) (F0 m 0 ls [])) : Met l y ws rm (va_Pc As B) Qc mc ms free := by
  refine Met.ofW (cc := cc) (maxL := maxL) (ret := ret) hy hw ?_
  intro p e s m args below meth c s₁ Bd hml hv
  obtain ⟨rfl, hB⟩ := hv
  have hl := lv_entry As (n := maxL) hlen
  rw [hlv] at hl
  rw [lg_entry_eq]
  exact body p e s m _ below meth c Bd.exec Bd.bytes Bd.returns hml (atoms_spec (ws := ws) Bd.pre) (findClass_of_methodNamed Bd.named) Bd.notSynchronized (name_of_methodNamed Bd.named Bd.method).1 hB _ hl
section FI
variable {p : Program} {l : Launch} {e : Env} {R : Room} {s : State} {m : MethodId} {args : Array Value} {below : List Frame} {meth : Method} {c : Code} {H : Heap} {locs : List Loc} {cells slots : Nat} {Q : State → Prop} {cc : ByteArray} {pc : Nat} {ls : Array Slot} {rest : List Value}
theorem f_ti {x y : Int32} (h : x = y) (k : W p l e R s m args below meth c H locs cells slots Q (F0 m pc ls (.int y :: rest))) : W p l e R s m args below meth c H locs cells slots Q (F0 m pc ls (.int x :: rest)) := by rw [h]; exact k
theorem f_tl {x y : Int64} (h : x = y) (k : W p l e R s m args below meth c H locs cells slots Q (F0 m pc ls (.long y :: rest))) : W p l e R s m args below meth c H locs cells slots Q (F0 m pc ls (.long x :: rest)) := by rw [h]; exact k
theorem f_ige (hexec : p.tables.exec = Jvm.exec) (hb : c.code = cc) {x y : Int32} {a b : Int} (hx : x.toInt = a) (hy : y.toInt = b) {off : Int} {tgt : Nat} (hdg : decode cc pc = .ok (.if_icmp .ge off, 3)) (ht : (pc : Int) + off = (tgt : Int)) (kt : b ≤ a → W p l e R s m args below meth c H locs cells slots Q (F0 m tgt ls rest)) (kf : a < b → W p l e R s m args below meth c H locs cells slots Q (F0 m (pc + 3) ls rest)) : W p l e R s m args below meth c H locs cells slots Q (F0 m pc ls (.int y :: .int x :: rest)) :=
  lv_icmp_ge hexec hb hdg ht (fun h => kt (by simp only [Int32.le_iff_toInt_le, Int32.lt_iff_toInt_lt, ← Int32.toInt_inj] at h; omega)) (fun h => kf (by simp only [Int32.le_iff_toInt_le, Int32.lt_iff_toInt_lt, ← Int32.toInt_inj] at h; omega))
theorem f_z0 : (0 : Int32).toInt = 0 := rfl
theorem f_0ge (hexec : p.tables.exec = Jvm.exec) (hb : c.code = cc) {x : Int32} {a : Int} (hx : x.toInt = a) {off : Int} {tgt : Nat} (hdg : decode cc pc = .ok (.ifCond .ge off, 3)) (ht : (pc : Int) + off = (tgt : Int)) (kt : 0 ≤ a → W p l e R s m args below meth c H locs cells slots Q (F0 m tgt ls rest)) (kf : a < 0 → W p l e R s m args below meth c H locs cells slots Q (F0 m (pc + 3) ls rest)) : W p l e R s m args below meth c H locs cells slots Q (F0 m pc ls (.int x :: rest)) :=
  lv_if_ge hexec hb hdg ht (fun h => kt (by simp only [Int32.le_iff_toInt_le, Int32.lt_iff_toInt_lt, ← Int32.toInt_inj, f_z0] at h; omega)) (fun h => kf (by simp only [Int32.le_iff_toInt_le, Int32.lt_iff_toInt_lt, ← Int32.toInt_inj, f_z0] at h; omega))
theorem f_lge (hexec : p.tables.exec = Jvm.exec) (hb : c.code = cc) {x y : Int64} {a b : Int} (hx : x.toInt = a) (hy : y.toInt = b) {off : Int} {tgt : Nat} (hd0 : decode cc pc = .ok (.lcmp, 1)) (hdg : decode cc (pc + 1) = .ok (.ifCond .ge off, 3)) (ht : ((pc + 1 : Nat) : Int) + off = (tgt : Int)) (kt : b ≤ a → W p l e R s m args below meth c H locs cells slots Q (F0 m tgt ls rest)) (kf : a < b → W p l e R s m args below meth c H locs cells slots Q (F0 m (pc + 1 + 3) ls rest)) : W p l e R s m args below meth c H locs cells slots Q (F0 m pc ls (.long y :: .long x :: rest)) :=
  W.lcmp hexec hb hd0 (lv_if_ge hexec hb hdg ht (fun h => kt (by rw [lg_cmp_ge] at h; simp only [Int64.le_iff_toInt_le, Int64.lt_iff_toInt_lt, ← Int64.toInt_inj] at h; omega)) (fun h => kf (by rw [lg_cmp_ge] at h; simp only [Int64.le_iff_toInt_le, Int64.lt_iff_toInt_lt, ← Int64.toInt_inj] at h; omega)))
theorem f_ilt (hexec : p.tables.exec = Jvm.exec) (hb : c.code = cc) {x y : Int32} {a b : Int} (hx : x.toInt = a) (hy : y.toInt = b) {off : Int} {tgt : Nat} (hdg : decode cc pc = .ok (.if_icmp .lt off, 3)) (ht : (pc : Int) + off = (tgt : Int)) (kt : a < b → W p l e R s m args below meth c H locs cells slots Q (F0 m tgt ls rest)) (kf : b ≤ a → W p l e R s m args below meth c H locs cells slots Q (F0 m (pc + 3) ls rest)) : W p l e R s m args below meth c H locs cells slots Q (F0 m pc ls (.int y :: .int x :: rest)) :=
  lv_icmp_lt hexec hb hdg ht (fun h => kt (by simp only [Int32.le_iff_toInt_le, Int32.lt_iff_toInt_lt, ← Int32.toInt_inj] at h; omega)) (fun h => kf (by simp only [Int32.le_iff_toInt_le, Int32.lt_iff_toInt_lt, ← Int32.toInt_inj] at h; omega))
theorem f_0lt (hexec : p.tables.exec = Jvm.exec) (hb : c.code = cc) {x : Int32} {a : Int} (hx : x.toInt = a) {off : Int} {tgt : Nat} (hdg : decode cc pc = .ok (.ifCond .lt off, 3)) (ht : (pc : Int) + off = (tgt : Int)) (kt : a < 0 → W p l e R s m args below meth c H locs cells slots Q (F0 m tgt ls rest)) (kf : 0 ≤ a → W p l e R s m args below meth c H locs cells slots Q (F0 m (pc + 3) ls rest)) : W p l e R s m args below meth c H locs cells slots Q (F0 m pc ls (.int x :: rest)) :=
  lv_if_lt hexec hb hdg ht (fun h => kt (by simp only [Int32.le_iff_toInt_le, Int32.lt_iff_toInt_lt, ← Int32.toInt_inj, f_z0] at h; omega)) (fun h => kf (by simp only [Int32.le_iff_toInt_le, Int32.lt_iff_toInt_lt, ← Int32.toInt_inj, f_z0] at h; omega))
theorem f_llt (hexec : p.tables.exec = Jvm.exec) (hb : c.code = cc) {x y : Int64} {a b : Int} (hx : x.toInt = a) (hy : y.toInt = b) {off : Int} {tgt : Nat} (hd0 : decode cc pc = .ok (.lcmp, 1)) (hdg : decode cc (pc + 1) = .ok (.ifCond .lt off, 3)) (ht : ((pc + 1 : Nat) : Int) + off = (tgt : Int)) (kt : a < b → W p l e R s m args below meth c H locs cells slots Q (F0 m tgt ls rest)) (kf : b ≤ a → W p l e R s m args below meth c H locs cells slots Q (F0 m (pc + 1 + 3) ls rest)) : W p l e R s m args below meth c H locs cells slots Q (F0 m pc ls (.long y :: .long x :: rest)) :=
  W.lcmp hexec hb hd0 (lv_if_lt hexec hb hdg ht (fun h => kt (by rw [lg_cmp_lt] at h; simp only [Int64.le_iff_toInt_le, Int64.lt_iff_toInt_lt, ← Int64.toInt_inj] at h; omega)) (fun h => kf (by rw [lg_cmp_lt] at h; simp only [Int64.le_iff_toInt_le, Int64.lt_iff_toInt_lt, ← Int64.toInt_inj] at h; omega)))
theorem f_igt (hexec : p.tables.exec = Jvm.exec) (hb : c.code = cc) {x y : Int32} {a b : Int} (hx : x.toInt = a) (hy : y.toInt = b) {off : Int} {tgt : Nat} (hdg : decode cc pc = .ok (.if_icmp .gt off, 3)) (ht : (pc : Int) + off = (tgt : Int)) (kt : b < a → W p l e R s m args below meth c H locs cells slots Q (F0 m tgt ls rest)) (kf : a ≤ b → W p l e R s m args below meth c H locs cells slots Q (F0 m (pc + 3) ls rest)) : W p l e R s m args below meth c H locs cells slots Q (F0 m pc ls (.int y :: .int x :: rest)) :=
  lv_icmp_gt hexec hb hdg ht (fun h => kt (by simp only [Int32.le_iff_toInt_le, Int32.lt_iff_toInt_lt, ← Int32.toInt_inj] at h; omega)) (fun h => kf (by simp only [Int32.le_iff_toInt_le, Int32.lt_iff_toInt_lt, ← Int32.toInt_inj] at h; omega))
theorem f_0gt (hexec : p.tables.exec = Jvm.exec) (hb : c.code = cc) {x : Int32} {a : Int} (hx : x.toInt = a) {off : Int} {tgt : Nat} (hdg : decode cc pc = .ok (.ifCond .gt off, 3)) (ht : (pc : Int) + off = (tgt : Int)) (kt : 0 < a → W p l e R s m args below meth c H locs cells slots Q (F0 m tgt ls rest)) (kf : a ≤ 0 → W p l e R s m args below meth c H locs cells slots Q (F0 m (pc + 3) ls rest)) : W p l e R s m args below meth c H locs cells slots Q (F0 m pc ls (.int x :: rest)) :=
  lv_if_gt hexec hb hdg ht (fun h => kt (by simp only [Int32.le_iff_toInt_le, Int32.lt_iff_toInt_lt, ← Int32.toInt_inj, f_z0] at h; omega)) (fun h => kf (by simp only [Int32.le_iff_toInt_le, Int32.lt_iff_toInt_lt, ← Int32.toInt_inj, f_z0] at h; omega))
theorem f_lgt (hexec : p.tables.exec = Jvm.exec) (hb : c.code = cc) {x y : Int64} {a b : Int} (hx : x.toInt = a) (hy : y.toInt = b) {off : Int} {tgt : Nat} (hd0 : decode cc pc = .ok (.lcmp, 1)) (hdg : decode cc (pc + 1) = .ok (.ifCond .gt off, 3)) (ht : ((pc + 1 : Nat) : Int) + off = (tgt : Int)) (kt : b < a → W p l e R s m args below meth c H locs cells slots Q (F0 m tgt ls rest)) (kf : a ≤ b → W p l e R s m args below meth c H locs cells slots Q (F0 m (pc + 1 + 3) ls rest)) : W p l e R s m args below meth c H locs cells slots Q (F0 m pc ls (.long y :: .long x :: rest)) :=
  W.lcmp hexec hb hd0 (lv_if_gt hexec hb hdg ht (fun h => kt (by rw [lg_cmp_gt] at h; simp only [Int64.le_iff_toInt_le, Int64.lt_iff_toInt_lt, ← Int64.toInt_inj] at h; omega)) (fun h => kf (by rw [lg_cmp_gt] at h; simp only [Int64.le_iff_toInt_le, Int64.lt_iff_toInt_lt, ← Int64.toInt_inj] at h; omega)))
theorem f_ile (hexec : p.tables.exec = Jvm.exec) (hb : c.code = cc) {x y : Int32} {a b : Int} (hx : x.toInt = a) (hy : y.toInt = b) {off : Int} {tgt : Nat} (hdg : decode cc pc = .ok (.if_icmp .le off, 3)) (ht : (pc : Int) + off = (tgt : Int)) (kt : a ≤ b → W p l e R s m args below meth c H locs cells slots Q (F0 m tgt ls rest)) (kf : b < a → W p l e R s m args below meth c H locs cells slots Q (F0 m (pc + 3) ls rest)) : W p l e R s m args below meth c H locs cells slots Q (F0 m pc ls (.int y :: .int x :: rest)) :=
  lv_icmp_le hexec hb hdg ht (fun h => kt (by simp only [Int32.le_iff_toInt_le, Int32.lt_iff_toInt_lt, ← Int32.toInt_inj] at h; omega)) (fun h => kf (by simp only [Int32.le_iff_toInt_le, Int32.lt_iff_toInt_lt, ← Int32.toInt_inj] at h; omega))
theorem f_0le (hexec : p.tables.exec = Jvm.exec) (hb : c.code = cc) {x : Int32} {a : Int} (hx : x.toInt = a) {off : Int} {tgt : Nat} (hdg : decode cc pc = .ok (.ifCond .le off, 3)) (ht : (pc : Int) + off = (tgt : Int)) (kt : a ≤ 0 → W p l e R s m args below meth c H locs cells slots Q (F0 m tgt ls rest)) (kf : 0 < a → W p l e R s m args below meth c H locs cells slots Q (F0 m (pc + 3) ls rest)) : W p l e R s m args below meth c H locs cells slots Q (F0 m pc ls (.int x :: rest)) :=
  lv_if_le hexec hb hdg ht (fun h => kt (by simp only [Int32.le_iff_toInt_le, Int32.lt_iff_toInt_lt, ← Int32.toInt_inj, f_z0] at h; omega)) (fun h => kf (by simp only [Int32.le_iff_toInt_le, Int32.lt_iff_toInt_lt, ← Int32.toInt_inj, f_z0] at h; omega))
theorem f_lle (hexec : p.tables.exec = Jvm.exec) (hb : c.code = cc) {x y : Int64} {a b : Int} (hx : x.toInt = a) (hy : y.toInt = b) {off : Int} {tgt : Nat} (hd0 : decode cc pc = .ok (.lcmp, 1)) (hdg : decode cc (pc + 1) = .ok (.ifCond .le off, 3)) (ht : ((pc + 1 : Nat) : Int) + off = (tgt : Int)) (kt : a ≤ b → W p l e R s m args below meth c H locs cells slots Q (F0 m tgt ls rest)) (kf : b < a → W p l e R s m args below meth c H locs cells slots Q (F0 m (pc + 1 + 3) ls rest)) : W p l e R s m args below meth c H locs cells slots Q (F0 m pc ls (.long y :: .long x :: rest)) :=
  W.lcmp hexec hb hd0 (lv_if_le hexec hb hdg ht (fun h => kt (by rw [lg_cmp_le] at h; simp only [Int64.le_iff_toInt_le, Int64.lt_iff_toInt_lt, ← Int64.toInt_inj] at h; omega)) (fun h => kf (by rw [lg_cmp_le] at h; simp only [Int64.le_iff_toInt_le, Int64.lt_iff_toInt_lt, ← Int64.toInt_inj] at h; omega)))
theorem f_ieq (hexec : p.tables.exec = Jvm.exec) (hb : c.code = cc) {x y : Int32} {a b : Int} (hx : x.toInt = a) (hy : y.toInt = b) {off : Int} {tgt : Nat} (hdg : decode cc pc = .ok (.if_icmp .eq off, 3)) (ht : (pc : Int) + off = (tgt : Int)) (kt : a = b → W p l e R s m args below meth c H locs cells slots Q (F0 m tgt ls rest)) (kf : a ≠ b → W p l e R s m args below meth c H locs cells slots Q (F0 m (pc + 3) ls rest)) : W p l e R s m args below meth c H locs cells slots Q (F0 m pc ls (.int y :: .int x :: rest)) :=
  lv_icmp_eq hexec hb hdg ht (fun h => kt (by simp only [Int32.le_iff_toInt_le, Int32.lt_iff_toInt_lt, ← Int32.toInt_inj] at h; omega)) (fun h => kf (by simp only [Int32.le_iff_toInt_le, Int32.lt_iff_toInt_lt, ← Int32.toInt_inj] at h; omega))
theorem f_0eq (hexec : p.tables.exec = Jvm.exec) (hb : c.code = cc) {x : Int32} {a : Int} (hx : x.toInt = a) {off : Int} {tgt : Nat} (hdg : decode cc pc = .ok (.ifCond .eq off, 3)) (ht : (pc : Int) + off = (tgt : Int)) (kt : a = 0 → W p l e R s m args below meth c H locs cells slots Q (F0 m tgt ls rest)) (kf : a ≠ 0 → W p l e R s m args below meth c H locs cells slots Q (F0 m (pc + 3) ls rest)) : W p l e R s m args below meth c H locs cells slots Q (F0 m pc ls (.int x :: rest)) :=
  lv_if_eq hexec hb hdg ht (fun h => kt (by simp only [Int32.le_iff_toInt_le, Int32.lt_iff_toInt_lt, ← Int32.toInt_inj, f_z0] at h; omega)) (fun h => kf (by simp only [Int32.le_iff_toInt_le, Int32.lt_iff_toInt_lt, ← Int32.toInt_inj, f_z0] at h; omega))
theorem f_leq (hexec : p.tables.exec = Jvm.exec) (hb : c.code = cc) {x y : Int64} {a b : Int} (hx : x.toInt = a) (hy : y.toInt = b) {off : Int} {tgt : Nat} (hd0 : decode cc pc = .ok (.lcmp, 1)) (hdg : decode cc (pc + 1) = .ok (.ifCond .eq off, 3)) (ht : ((pc + 1 : Nat) : Int) + off = (tgt : Int)) (kt : a = b → W p l e R s m args below meth c H locs cells slots Q (F0 m tgt ls rest)) (kf : a ≠ b → W p l e R s m args below meth c H locs cells slots Q (F0 m (pc + 1 + 3) ls rest)) : W p l e R s m args below meth c H locs cells slots Q (F0 m pc ls (.long y :: .long x :: rest)) :=
  W.lcmp hexec hb hd0 (lv_if_eq hexec hb hdg ht (fun h => kt (by rw [lg_cmp_eq] at h; simp only [Int64.le_iff_toInt_le, Int64.lt_iff_toInt_lt, ← Int64.toInt_inj] at h; omega)) (fun h => kf (by rw [lg_cmp_eq] at h; simp only [Int64.le_iff_toInt_le, Int64.lt_iff_toInt_lt, ← Int64.toInt_inj] at h; omega)))
theorem f_ine (hexec : p.tables.exec = Jvm.exec) (hb : c.code = cc) {x y : Int32} {a b : Int} (hx : x.toInt = a) (hy : y.toInt = b) {off : Int} {tgt : Nat} (hdg : decode cc pc = .ok (.if_icmp .ne off, 3)) (ht : (pc : Int) + off = (tgt : Int)) (kt : a ≠ b → W p l e R s m args below meth c H locs cells slots Q (F0 m tgt ls rest)) (kf : a = b → W p l e R s m args below meth c H locs cells slots Q (F0 m (pc + 3) ls rest)) : W p l e R s m args below meth c H locs cells slots Q (F0 m pc ls (.int y :: .int x :: rest)) :=
  lv_icmp_ne hexec hb hdg ht (fun h => kt (by simp only [Int32.le_iff_toInt_le, Int32.lt_iff_toInt_lt, ← Int32.toInt_inj] at h; omega)) (fun h => kf (by simp only [Int32.le_iff_toInt_le, Int32.lt_iff_toInt_lt, ← Int32.toInt_inj] at h; omega))
theorem f_0ne (hexec : p.tables.exec = Jvm.exec) (hb : c.code = cc) {x : Int32} {a : Int} (hx : x.toInt = a) {off : Int} {tgt : Nat} (hdg : decode cc pc = .ok (.ifCond .ne off, 3)) (ht : (pc : Int) + off = (tgt : Int)) (kt : a ≠ 0 → W p l e R s m args below meth c H locs cells slots Q (F0 m tgt ls rest)) (kf : a = 0 → W p l e R s m args below meth c H locs cells slots Q (F0 m (pc + 3) ls rest)) : W p l e R s m args below meth c H locs cells slots Q (F0 m pc ls (.int x :: rest)) :=
  lv_if_ne hexec hb hdg ht (fun h => kt (by simp only [Int32.le_iff_toInt_le, Int32.lt_iff_toInt_lt, ← Int32.toInt_inj, f_z0] at h; omega)) (fun h => kf (by simp only [Int32.le_iff_toInt_le, Int32.lt_iff_toInt_lt, ← Int32.toInt_inj, f_z0] at h; omega))
theorem f_lne (hexec : p.tables.exec = Jvm.exec) (hb : c.code = cc) {x y : Int64} {a b : Int} (hx : x.toInt = a) (hy : y.toInt = b) {off : Int} {tgt : Nat} (hd0 : decode cc pc = .ok (.lcmp, 1)) (hdg : decode cc (pc + 1) = .ok (.ifCond .ne off, 3)) (ht : ((pc + 1 : Nat) : Int) + off = (tgt : Int)) (kt : a ≠ b → W p l e R s m args below meth c H locs cells slots Q (F0 m tgt ls rest)) (kf : a = b → W p l e R s m args below meth c H locs cells slots Q (F0 m (pc + 1 + 3) ls rest)) : W p l e R s m args below meth c H locs cells slots Q (F0 m pc ls (.long y :: .long x :: rest)) :=
  W.lcmp hexec hb hd0 (lv_if_ne hexec hb hdg ht (fun h => kt (by rw [lg_cmp_eq] at h; simp only [← Int64.toInt_inj] at h; omega)) (fun h => kf (by rw [lg_cmp_eq] at h; simp only [← Int64.toInt_inj] at h; omega)))
theorem f_beq (hexec : p.tables.exec = Jvm.exec) (hb : c.code = cc) {b : Bool} {off : Int} {tgt : Nat} (hdg : decode cc pc = .ok (.ifCond .eq off, 3)) (ht : (pc : Int) + off = (tgt : Int)) (kt : b = false → W p l e R s m args below meth c H locs cells slots Q (F0 m tgt ls rest)) (kf : b = true → W p l e R s m args below meth c H locs cells slots Q (F0 m (pc + 3) ls rest)) : W p l e R s m args below meth c H locs cells slots Q (F0 m pc ls (.int (bI b) :: rest)) :=
  lv_if_eq hexec hb hdg ht (fun h => kt (by cases b <;> simp [bI] at h ⊢)) (fun h => kf (by cases b <;> simp [bI] at h ⊢))
theorem f_bne (hexec : p.tables.exec = Jvm.exec) (hb : c.code = cc) {b : Bool} {off : Int} {tgt : Nat} (hdg : decode cc pc = .ok (.ifCond .ne off, 3)) (ht : (pc : Int) + off = (tgt : Int)) (kt : b = true → W p l e R s m args below meth c H locs cells slots Q (F0 m tgt ls rest)) (kf : b = false → W p l e R s m args below meth c H locs cells slots Q (F0 m (pc + 3) ls rest)) : W p l e R s m args below meth c H locs cells slots Q (F0 m pc ls (.int (bI b) :: rest)) :=
  lv_if_ne hexec hb hdg ht (fun h => kt (by cases b <;> simp [bI] at h ⊢)) (fun h => kf (by cases b <;> simp [bI] at h ⊢))
theorem f_iald {D : va_G} {cl : List vw_C} {tys : List (ClassId × FieldType)} {ws : va_W} {a : Nat} (hexec : p.tables.exec = Jvm.exec) (hb : c.code = cc) (hK : va_K D cl tys s) (hP : va_P D cl ws H) (q0 t0 : Nat) {cA : ClassId} {n : Nat} {f : Nat → Int32} (ha : ws[q0]? = some (a, .inl (cA, n, .inl f))) (ht : tys[t0]? = some (cA, .int)) {k : Nat} (hk : k < n) (hn : n < 2 ^ 31) {v : Int32} (hv : f k = v) (hdg : decode cc pc = .ok (.iaload, 1))
    (kk : W p l e R s m args below meth c H locs cells slots Q (F0 m (pc + 1) ls (.int v :: rest))) : W p l e R s m args below meth c H locs cells slots Q (F0 m pc ls (.int (nI k) :: .ref a :: rest)) := by
  refine va_iald hexec hb hK hP q0 t0 ha ht (vp_in_nI hk hn) hdg ?_
  rw [nI_clamp (Nat.lt_trans hk hn), hv]
  exact kk
theorem f_zald {D : va_G} {cl : List vw_C} {tys : List (ClassId × FieldType)} {ws : va_W} {a : Nat} (hexec : p.tables.exec = Jvm.exec) (hb : c.code = cc) (hK : va_K D cl tys s) (hP : va_P D cl ws H) (q0 t0 : Nat) {cA : ClassId} {n : Nat} {f : Nat → Int32} (ha : ws[q0]? = some (a, .inl (cA, n, .inl f))) (ht : tys[t0]? = some (cA, .boolean)) {k : Nat} (hk : k < n) (hn : n < 2 ^ 31) {v : Int32} (hv : f k = v) (hdg : decode cc pc = .ok (.baload, 1))
    (kk : W p l e R s m args below meth c H locs cells slots Q (F0 m (pc + 1) ls (.int v :: rest))) : W p l e R s m args below meth c H locs cells slots Q (F0 m pc ls (.int (nI k) :: .ref a :: rest)) := by
  refine va_zald hexec hb hK hP q0 t0 ha ht (vp_in_nI hk hn) hdg ?_
  rw [nI_clamp (Nat.lt_trans hk hn), hv]
  exact kk
theorem f_lald {D : va_G} {cl : List vw_C} {tys : List (ClassId × FieldType)} {ws : va_W} {a : Nat} (hexec : p.tables.exec = Jvm.exec) (hb : c.code = cc) (hK : va_K D cl tys s) (hP : va_P D cl ws H) (q0 t0 : Nat) {cA : ClassId} {n : Nat} {f : Nat → Int64} (ha : ws[q0]? = some (a, .inl (cA, n, .inr (.inl f)))) (ht : tys[t0]? = some (cA, .long)) {k : Nat} (hk : k < n) (hn : n < 2 ^ 31) {v : Int64} (hv : f k = v) (hdg : decode cc pc = .ok (.laload, 1))
    (kk : W p l e R s m args below meth c H locs cells slots Q (F0 m (pc + 1) ls (.long v :: rest))) : W p l e R s m args below meth c H locs cells slots Q (F0 m pc ls (.int (nI k) :: .ref a :: rest)) := by
  refine va_lald hexec hb hK hP q0 t0 ha ht (vp_in_nI hk hn) hdg ?_
  rw [nI_clamp (Nat.lt_trans hk hn), hv]
  exact kk
theorem f_cVi {nL index n maxL : Nat} {own C : String} {y : MethodName} {bytes : ByteArray} {ret : Option FieldType} {ws Ts : List Cond} {rm : Room} {b : Nat} {As st0 : List Value} {B : State → Prop} {v : Int32} (S : CallFix p m c cc nL s args Ts own) (hM : RoI l y ws rm (.ref b :: As) B v) (cw : CallW R s args own C index y bytes maxL ret ws rm 0 0 n) (hbl : ∀ (U : State) (g : JFrame) (mk : MethodId) (a : Array Value), B U → B (U.calling g mk a)) (hrc : ∃ cellB : Cell, H[b]? = some cellB ∧ cellB.vm.isStatics = false ∧ s.vm.findClass C = some cellB.cls) (hB : ∀ U : State, U.heap = H → s.WarmedH U.vm → B U) (hn : As.length = n) (hsize : ls.size = nL) (hst : st0 = As.reverse ++ .ref b :: rest) (hroom : (rest.map fun v => v.category).sum ≤ 8) (hdg : decode cc pc = .ok (.invokevirtual index, 3)) (hf : cells ≤ R.cells ∧ slots ≤ R.slots)
    (kk : W p l e R s m args below meth c H locs cells slots Q (F0 m (pc + 3) ls (.int v :: rest))) : W p l e R s m args below meth c H locs cells slots Q (F0 m pc ls st0) := by
  refine vp_callSi (W.runV (As := As) (rest := rest) S hM cw ⟨fun a U g mk q => ⟨q.1, hbl U g mk a q.2⟩, hrc, fun U hU hW => ⟨rfl, hB U hU hW⟩⟩ rfl hn hsize hst (lv_room hroom) hdg hf) (fun r h => ?_)
  rw [h]
  exact kk
theorem f_cSi {nL index n maxL : Nat} {own : String} {y : MethodName} {bytes : ByteArray} {ret : Option FieldType} {ws Ts : List Cond} {rm : Room} {As st0 : List Value} {B : State → Prop} {v : Int32} (S : CallFix p m c cc nL s args Ts own) (hM : RoI l y ws rm As B v) (cw : CallB R s args own index y bytes maxL ret ws rm 0 0 n ∧ (Cond.static y).before args s = true) (hbl : ∀ (U : State) (g : JFrame) (mk : MethodId) (a : Array Value), B U → B (U.calling g mk a)) (hB : ∀ U : State, U.heap = H → s.WarmedH U.vm → B U) (hn : As.length = n) (hsize : ls.size = nL) (hst : st0 = As.reverse ++ rest) (hroom : (rest.map fun v => v.category).sum ≤ 8) (hdg : decode cc pc = .ok (.invokestatic index, 3)) (hf : cells ≤ R.cells ∧ slots ≤ R.slots)
    (kk : W p l e R s m args below meth c H locs cells slots Q (F0 m (pc + 3) ls (.int v :: rest))) : W p l e R s m args below meth c H locs cells slots Q (F0 m pc ls st0) := by
  refine vp_callSi (W.runS (As := As) (rest := rest) S hM cw ⟨fun a U g mk q => ⟨q.1, hbl U g mk a q.2⟩, fun U hU hW => ⟨rfl, hB U hU hW⟩⟩ rfl hn hsize hst (lv_room hroom) hdg hf) (fun r h => ?_)
  rw [h]
  exact kk
theorem f_cVl {nL index n maxL : Nat} {own C : String} {y : MethodName} {bytes : ByteArray} {ret : Option FieldType} {ws Ts : List Cond} {rm : Room} {b : Nat} {As st0 : List Value} {B : State → Prop} {v : Int64} (S : CallFix p m c cc nL s args Ts own) (hM : RoL l y ws rm (.ref b :: As) B v) (cw : CallW R s args own C index y bytes maxL ret ws rm 0 0 n) (hbl : ∀ (U : State) (g : JFrame) (mk : MethodId) (a : Array Value), B U → B (U.calling g mk a)) (hrc : ∃ cellB : Cell, H[b]? = some cellB ∧ cellB.vm.isStatics = false ∧ s.vm.findClass C = some cellB.cls) (hB : ∀ U : State, U.heap = H → s.WarmedH U.vm → B U) (hn : As.length = n) (hsize : ls.size = nL) (hst : st0 = As.reverse ++ .ref b :: rest) (hroom : (rest.map fun v => v.category).sum ≤ 8) (hdg : decode cc pc = .ok (.invokevirtual index, 3)) (hf : cells ≤ R.cells ∧ slots ≤ R.slots)
    (kk : W p l e R s m args below meth c H locs cells slots Q (F0 m (pc + 3) ls (.long v :: rest))) : W p l e R s m args below meth c H locs cells slots Q (F0 m pc ls st0) := by
  refine vp_callSl (W.runV (As := As) (rest := rest) S hM cw ⟨fun a U g mk q => ⟨q.1, hbl U g mk a q.2⟩, hrc, fun U hU hW => ⟨rfl, hB U hU hW⟩⟩ rfl hn hsize hst (lv_room hroom) hdg hf) (fun r h => ?_)
  rw [h]
  exact kk
theorem f_cSl {nL index n maxL : Nat} {own : String} {y : MethodName} {bytes : ByteArray} {ret : Option FieldType} {ws Ts : List Cond} {rm : Room} {As st0 : List Value} {B : State → Prop} {v : Int64} (S : CallFix p m c cc nL s args Ts own) (hM : RoL l y ws rm As B v) (cw : CallB R s args own index y bytes maxL ret ws rm 0 0 n ∧ (Cond.static y).before args s = true) (hbl : ∀ (U : State) (g : JFrame) (mk : MethodId) (a : Array Value), B U → B (U.calling g mk a)) (hB : ∀ U : State, U.heap = H → s.WarmedH U.vm → B U) (hn : As.length = n) (hsize : ls.size = nL) (hst : st0 = As.reverse ++ rest) (hroom : (rest.map fun v => v.category).sum ≤ 8) (hdg : decode cc pc = .ok (.invokestatic index, 3)) (hf : cells ≤ R.cells ∧ slots ≤ R.slots)
    (kk : W p l e R s m args below meth c H locs cells slots Q (F0 m (pc + 3) ls (.long v :: rest))) : W p l e R s m args below meth c H locs cells slots Q (F0 m pc ls st0) := by
  refine vp_callSl (W.runS (As := As) (rest := rest) S hM cw ⟨fun a U g mk q => ⟨q.1, hbl U g mk a q.2⟩, fun U hU hW => ⟨rfl, hB U hU hW⟩⟩ rfl hn hsize hst (lv_room hroom) hdg hf) (fun r h => ?_)
  rw [h]
  exact kk
theorem f_ri {v w : Int32} (hx : p.tables.exec = Jvm.exec) (hb : c.code = cc) (hr : meth.sig.returnType = some .int) (hlocks : meth.locks = false) (h : v = w) (hdg : decode cc pc = .ok (.ireturn, 1)) : W p l e R s m args below meth c s.heap [] 0 0 (MQ below (vp_Si (fun r => r = w)) args s 0 0 (fun _ => False)) (F0 m pc ls [.int v]) := W.iret hx hb hr (fun t ht hW => ⟨v, rfl, h, ht⟩) (fun q hq => by simp at hq) hdg hlocks
theorem f_rl {v w : Int64} (hx : p.tables.exec = Jvm.exec) (hb : c.code = cc) (hr : meth.sig.returnType = some .long) (hlocks : meth.locks = false) (h : v = w) (hdg : decode cc pc = .ok (.lreturn, 1)) : W p l e R s m args below meth c s.heap [] 0 0 (MQ below (vp_Sl (fun r => r = w)) args s 0 0 (fun _ => False)) (F0 m pc ls [.long v]) := W.lret hx hb hr (fun t ht hW => ⟨v, rfl, h, ht⟩) (fun q hq => by simp at hq) hdg hlocks
theorem f_rb {b w : Bool} (hx : p.tables.exec = Jvm.exec) (hb : c.code = cc) (hr : meth.sig.returnType = some .boolean) (hlocks : meth.locks = false) (h : b = w) (hdg : decode cc pc = .ok (.ireturn, 1)) : W p l e R s m args below meth c s.heap [] 0 0 (MQ below (vp_Si (fun r => r = bI w)) args s 0 0 (fun _ => False)) (F0 m pc ls [.int (bI b)]) := W.zret hx hb hr (bI_nar b) (fun t ht hW => ⟨bI b, rfl, by rw [h], ht⟩) (fun q hq => by simp at hq) hdg hlocks
theorem f_r1 {w : Bool} (hx : p.tables.exec = Jvm.exec) (hb : c.code = cc) (hr : meth.sig.returnType = some .boolean) (hlocks : meth.locks = false) (h : w = true) (hdg : decode cc pc = .ok (.ireturn, 1)) : W p l e R s m args below meth c s.heap [] 0 0 (MQ below (vp_Si (fun r => r = bI w)) args s 0 0 (fun _ => False)) (F0 m pc ls [.int (nI 1)]) := f_rb (b := true) hx hb hr hlocks h.symm hdg
theorem f_r0 {w : Bool} (hx : p.tables.exec = Jvm.exec) (hb : c.code = cc) (hr : meth.sig.returnType = some .boolean) (hlocks : meth.locks = false) (h : w = false) (hdg : decode cc pc = .ok (.ireturn, 1)) : W p l e R s m args below meth c s.heap [] 0 0 (MQ below (vp_Si (fun r => r = bI w)) args s 0 0 (fun _ => False)) (F0 m pc ls [.int (nI 0)]) := f_rb (b := false) hx hb hr hlocks h.symm hdg
end FI
end
section
/-! the state that both sides hold, in one value; and what is said of it -/
abbrev St : Type := (Nat → Nat) × (Nat → Nat) × (Nat → Nat) × (Nat → Bool) × Nat × Nat × (Nat → Nat) × (Nat → Nat) × (Nat → Nat) × Nat × Nat × Nat × (Nat → Nat) × (Nat → Nat) × (Nat → Int32) × (Nat → Int32) × (Nat → Nat) × (Nat → Nat) × (Nat → Nat)
abbrev sRul (S : St) : Nat → Nat := S.1
abbrev sStk (S : St) : Nat → Nat := S.2.1
abbrev sPrs (S : St) : Nat → Nat := S.2.2.1
abbrev sOut (S : St) : Nat → Bool := S.2.2.2.1
abbrev sNn (S : St) : Nat := S.2.2.2.2.1
abbrev sHh (S : St) : Nat := S.2.2.2.2.2.1
abbrev sWts (S : St) : Nat → Nat := S.2.2.2.2.2.2.1
abbrev sTot (S : St) : Nat → Nat := S.2.2.2.2.2.2.2.1
abbrev sVts (S : St) : Nat → Nat := S.2.2.2.2.2.2.2.2.1
abbrev sVn (S : St) : Nat := S.2.2.2.2.2.2.2.2.2.1
abbrev sBrn (S : St) : Nat := S.2.2.2.2.2.2.2.2.2.2.1
abbrev sTn (S : St) : Nat := S.2.2.2.2.2.2.2.2.2.2.2.1
abbrev sTk (S : St) : Nat → Nat := S.2.2.2.2.2.2.2.2.2.2.2.2.1
abbrev sTa (S : St) : Nat → Nat := S.2.2.2.2.2.2.2.2.2.2.2.2.2.1
abbrev sTb (S : St) : Nat → Int32 := S.2.2.2.2.2.2.2.2.2.2.2.2.2.2.1
abbrev sTy (S : St) : Nat → Int32 := S.2.2.2.2.2.2.2.2.2.2.2.2.2.2.2.1
abbrev sTt (S : St) : Nat → Nat := S.2.2.2.2.2.2.2.2.2.2.2.2.2.2.2.2.1
abbrev sTc (S : St) : Nat → Nat := S.2.2.2.2.2.2.2.2.2.2.2.2.2.2.2.2.2.1
abbrev sTs (S : St) : Nat → Nat := S.2.2.2.2.2.2.2.2.2.2.2.2.2.2.2.2.2.2
/-- sums, and 'one of them' -/
def sm (n : Nat) (f : Nat → Nat) : Nat := match n with
  | 0 => 0
  | k + 1 => sm k f + f k
def ex (n : Nat) (f : Nat → Bool) : Bool := match n with
  | 0 => false
  | k + 1 => ex k f || f k
theorem ex_iff {n : Nat} {f : Nat → Bool} : ex n f = true ↔ ∃ i, i < n ∧ f i = true := by
  induction n with
  | zero => simp [ex]
  | succ n ih =>
    simp only [ex, Bool.or_eq_true, ih]
    constructor
    · rintro (⟨i, h, hf⟩ | h)
      · exact ⟨i, by omega, hf⟩
      · exact ⟨n, by omega, h⟩
    · rintro ⟨i, h, hf⟩
      rcases Nat.lt_or_ge i n with q | q
      · exact Or.inl ⟨i, q, hf⟩
      · have : i = n := by omega
        subst this; exact Or.inr hf
theorem ex_no {n : Nat} {f : Nat → Bool} (h : ∀ i, i < n → f i = false) : ex n f = false := by
  cases hh : ex n f with
  | false => rfl
  | true =>
    obtain ⟨i, hi, hf⟩ := ex_iff.mp hh
    rw [h i hi] at hf
    exact absurd hf (by decide)
theorem ex_yes {n : Nat} {f : Nat → Bool} (i : Nat) (hi : i < n) (h : f i = true) : ex n f = true := ex_iff.mpr ⟨i, hi, h⟩
theorem ex_notmem {n : Nat} {f : Nat → Bool} (h : ex n f = false) {i : Nat} (hi : i < n) : f i = false := by
  cases hf : f i with
  | false => rfl
  | true => rw [ex_yes i hi hf] at h; exact absurd h (by decide)
theorem sm_congr {n : Nat} {f g : Nat → Nat} (h : ∀ i, i < n → f i = g i) : sm n f = sm n g := by
  induction n with
  | zero => rfl
  | succ n ih => simp only [sm]; rw [ih (fun i hi => h i (by omega)), h n (by omega)]
theorem ex_congr {n : Nat} {f g : Nat → Bool} (h : ∀ i, i < n → f i = g i) : ex n f = ex n g := by
  induction n with
  | zero => rfl
  | succ n ih => simp only [ex]; rw [ih (fun i hi => h i (by omega)), h n (by omega)]
theorem sm_le {n : Nat} {f : Nat → Nat} {B : Nat} (h : ∀ i, i < n → f i ≤ B) : sm n f ≤ n * B := by
  induction n with
  | zero => simp [sm]
  | succ n ih =>
    have h1 := ih (fun i hi => h i (by omega))
    have h2 := h n (by omega)
    simp only [sm, Nat.succ_mul]
    omega
/-- numbers that name something, by what an int says -/
def isNd (S : St) (x : Int32) : Bool := decide (0 ≤ x.toInt) && decide (x.toInt < (sNn S : Int))
def isVt (S : St) (x : Int32) : Bool := decide (0 ≤ x.toInt) && decide (x.toInt < (sVn S : Int))
def isNN (S : St) (x : Int32) : Bool := decide (x.toInt = -1) || isNd S x
def isKd (x : Int32) : Bool := decide (0 ≤ x.toInt) && decide (x.toInt < 3)
def isSy (r t b : Int32) : Bool := decide (0 ≤ r.toInt) && decide (r.toInt < 8) && decide (0 ≤ t.toInt) && decide (t.toInt < 2) && decide (0 ≤ b.toInt) && decide (b.toInt < 10)
def isBg (S : St) (x : Int32) : Bool := decide (1 ≤ x.toInt) && decide (x.toInt ≤ (sHh S : Int))
def isOp (S : St) (x : Int32) : Bool := isBg S x && decide ((sHh S : Int) - x.toInt ≤ 1)
/-- a vote as one number -/
def vC (k h r t b : Nat) : Nat := h * 2048 + k * 256 + r * 32 + t * 16 + b
def hasV (S : St) (c : Nat) : Bool := ex (sVn S) (fun v => decide (sVts S v = c))
/-- what the nodes weigh that have a vote -/
def wS (S : St) (h r t b : Nat) : Nat := sm 8 (fun k => if hasV S (vC k h r t b) = true then sWts S (8 * h + k) else 0)
def mostF (S : St) (h w : Nat) : Bool := decide (2 * sTot S h < 3 * w)
def bkF (S : St) (h r b : Nat) : Bool := decide (0 < b) && mostF S h (wS S h r 0 b)
def ctF (S : St) (h b : Nat) : Bool := decide (0 < b) && ex 8 (fun r => mostF S h (wS S h r 1 b))
/-- a set of blocks as bits -/
def bitS (n : Nat) (f : Nat → Bool) : Nat := sm n (fun b => if f b = true then 2 ^ b else 0)
def bbF (S : St) (j : Nat) : Nat := bitS 10 (fun b => bkF S (j / 8) (j % 8) b)
def cbF (S : St) (j : Nat) : Nat := bitS 10 (fun b => ctF S j b)
def lkg (c : Nat) : Bool := decide (c / 16 % 2 = 1) && decide (0 < c % 16)
def twF (c d : Nat) : Bool := decide (c ≠ d) && decide (c / 16 = d / 16)
def ulT (S : St) (h b f r : Nat) : Bool := decide (f ≤ r) && bkF S h r b
def ulF (S : St) (h b f t : Nat) : Bool := ex t (ulT S h b f)
def lkF (S : St) (c d : Nat) : Bool := lkg c && decide (c / 256 = d / 256) && decide (c / 32 % 8 < d / 32 % 8) && decide (d / 16 % 2 = 0) && decide (0 < d % 16) && decide (d % 16 ≠ c % 16) && !ulF S (d / 2048) (d % 16) (c / 32 % 8) (d / 32 % 8)
def brF (S : St) (c : Nat) : Bool := lkg c && !bkF S (c / 2048) (c / 32 % 8) (c % 16)
def prF (S : St) (kd c d : Nat) : Bool := if kd = 0 then twF c d else lkF S c d
def clF (S : St) (c d : Nat) : Bool := twF c d || lkF S c d || lkF S d c
/-- whether a vote, kept or not, is part of a break -/
def mkT (S : St) (c v : Nat) : Bool := decide (sVts S v / 256 = c / 256) && clF S c (sVts S v)
def mkF (S : St) (c : Nat) : Bool := brF S c || ex (sVn S) (mkT S c)
/-- the first place where something holds, else n -/
def fi (n : Nat) (f : Nat → Bool) : Nat := match n with
  | 0 => 0
  | k + 1 => if fi k f < k then fi k f else if f k = true then k else k + 1
theorem fi_no {n : Nat} {f : Nat → Bool} (h : ∀ i, i < n → f i = false) : fi n f = n := by
  induction n with
  | zero => rfl
  | succ n ih =>
    have e := ih (fun i hi => h i (by omega))
    simp [fi, e, h n (by omega)]
theorem fi_at {n q : Nat} {f : Nat → Bool} (h : ∀ i, i < q → f i = false) (hq : f q = true) (hn : q < n) : fi n f = q := by
  induction n with
  | zero => omega
  | succ n ih =>
    rcases Nat.lt_or_ge q n with g | g
    · have e := ih g
      simp [fi, e, g]
    · have e : q = n := by omega
      subst e
      have e := fi_no h
      simp [fi, e, hq]
def numT (S : St) (c v : Nat) : Bool := decide (sVts S v = c)
/-- the number of a vote, or -1 -/
def numF (S : St) (c : Nat) : Int32 := if fi (sVn S) (numT S c) < sVn S then nI (fi (sVn S) (numT S c)) else -1
def vrF (S : St) (x y r t b : Int32) : Int32 := if isNd S x = false then -101 else if (isOp S y && isSy r t b) = false then -102 else if sWts S (y.toInt.toNat * 8 + x.toInt.toNat) = 0 then -103 else nI 0
def wfT (S : St) (c v : Nat) : Nat := if sVts S v - sVts S v / 256 % 8 * 256 = c - c / 256 % 8 * 256 then sWts S (c / 2048 * 8 + sVts S v / 256 % 8) else 0
def wfF (S : St) (c : Nat) : Nat := sm (sVn S) (wfT S c)
def cfT (S : St) (q a b : Nat) : Nat := if (if q = 0 then a + 1 else 0) ≤ b ∧ prF S q (sVts S a) (sVts S b) = true then 1 else 0
/-- how many breaks of a kind have a vote as their first one -/
def cfF (S : St) (q a : Nat) : Nat := if q = 2 then (if brF S (sVts S a) = true then 1 else 0) else sm (sVn S) (cfT S q a)
def ptT (S : St) (q a i b : Nat) : Bool := decide (cfT S q a b = 1) && decide (sm b (cfT S q a) = i)
def ptF (S : St) (q a i : Nat) : Int32 := if q = 2 then -1 else if fi (sVn S) (ptT S q a i) < sVn S then nI (fi (sVn S) (ptT S q a i)) else -1
/-- what holds of every state that is reached -/
def Inv (S : St) : Prop := (sNn S ≤ 8 ∧ sHh S ≤ 40 ∧ sVn S ≤ 300) ∧ (∀ v, v < sVn S → sVts S v < 83968 ∧ 2048 ≤ sVts S v ∧ sVts S v % 16 < 10 ∧ sVts S v / 2048 ≤ sHh S ∧ sVts S v / 256 % 8 < sNn S) ∧ (∀ i j, i < sVn S → j < sVn S → sVts S i = sVts S j → i = j) ∧ (∀ k, sStk S k ≤ 1000000000) ∧ (∀ k, sWts S k ≤ 1000000000) ∧ (∀ h, sTot S h ≤ 8000000000) ∧ ((∀ k, k < 3 → sRul S k ≤ 1000) ∧ (2 ≤ sRul S 3 ∧ sRul S 3 ≤ 20) ∧ sRul S 4 ≤ 1000000000) ∧ (∀ i, i < sTn S → sTk S i < 3 ∧ sTa S i < sVn S ∧ sTt S i ≤ 40)
theorem Inv.n {S : St} (I : Inv S) : sNn S ≤ 8 ∧ sHh S ≤ 40 ∧ sVn S ≤ 300 := I.1
theorem Inv.v {S : St} (I : Inv S) {v : Nat} (h : v < sVn S) : sVts S v < 83968 ∧ 2048 ≤ sVts S v ∧ sVts S v % 16 < 10 ∧ sVts S v / 2048 ≤ sHh S ∧ sVts S v / 256 % 8 < sNn S := I.2.1 v h
theorem Inv.inj {S : St} (I : Inv S) {i j : Nat} (hi : i < sVn S) (hj : j < sVn S) (h : sVts S i = sVts S j) : i = j := I.2.2.1 i j hi hj h
theorem Inv.s {S : St} (I : Inv S) (k : Nat) : sStk S k ≤ 1000000000 := I.2.2.2.1 k
theorem Inv.w {S : St} (I : Inv S) (k : Nat) : sWts S k ≤ 1000000000 := I.2.2.2.2.1 k
theorem Inv.t {S : St} (I : Inv S) (h : Nat) : sTot S h ≤ 8000000000 := I.2.2.2.2.2.1 h
theorem Inv.r {S : St} (I : Inv S) : (∀ k, k < 3 → sRul S k ≤ 1000) ∧ (2 ≤ sRul S 3 ∧ sRul S 3 ≤ 20) ∧ sRul S 4 ≤ 1000000000 := I.2.2.2.2.2.2.1
theorem Inv.k {S : St} (I : Inv S) {i : Nat} (h : i < sTn S) : sTk S i < 3 ∧ sTa S i < sVn S ∧ sTt S i ≤ 40 := I.2.2.2.2.2.2.2 i h
theorem wS_le {S : St} (I : Inv S) (h r t b : Nat) : wS S h r t b ≤ 8000000000 := by
  have := sm_le (n := 8) (f := fun k => if hasV S (vC k h r t b) = true then sWts S (8 * h + k) else 0) (B := 1000000000) (fun i _ => by
    have := I.w (8 * h + i)
    split <;> omega)
  unfold wS
  omega
theorem bitS_lt (n : Nat) (f : Nat → Bool) : bitS n f < 2 ^ n := by
  unfold bitS
  induction n with
  | zero => simp [sm]
  | succ n ih =>
    have : (if f n = true then 2 ^ n else 0) ≤ 2 ^ n := by split <;> omega
    simp only [sm, Nat.pow_succ]
    omega
theorem bitS_tb (n : Nat) (f : Nat → Bool) (b : Nat) : (bitS n f).testBit b = (decide (b < n) && f b) := by
  induction n with
  | zero => simp [bitS, sm]
  | succ n ih =>
    have h1 := bitS_lt n f
    have e : bitS (n + 1) f = bitS n f + (if f n = true then 2 ^ n else 0) := rfl
    rw [e]
    cases hf : f n with
    | false =>
      rw [if_neg (by decide), Nat.add_zero, ih]
      by_cases hb : b = n
      · subst hb; simp [hf]
      · have : (b < n) ↔ (b < n + 1) := by omega
        simp [this]
    | true =>
      rw [if_pos rfl, show bitS n f + 2 ^ n = 2 ^ n * 1 + bitS n f by omega, Nat.testBit_two_pow_mul_add 1 h1]
      by_cases hb : b < n
      · rw [if_pos hb, ih]
        have h2 : b < n + 1 := by omega
        simp [hb, h2]
      · rw [if_neg hb]
        cases hk : b - n with
        | zero =>
          have hbn : b = n := by omega
          subst hbn
          simp [hf]
        | succ k =>
          have h2 : ¬ b < n + 1 := by omega
          simp [h2, Nat.testBit_succ]
/-- the cells of the one object -/
abbrev xfs (ad : Nat → Nat) (S : St) : List Value := [.ref (ad 1), .ref (ad 2), .ref (ad 3), .ref (ad 4), .int (nI (sNn S)), .int (nI (sHh S)), .ref (ad 5), .ref (ad 6), .ref (ad 7), .int (nI (sVn S)), .ref (ad 8), .ref (ad 9), .ref (ad 10), .long (lN (sBrn S))]
abbrev xw (ad : Nat → Nat) (cy : Nat → ClassId) (S : St) : va_W := [(ad 0, .inr (2, xfs ad S)), (ad 1, .inl (cy 1, 5, .inr (.inl (fun j => lN (sRul S j))))), (ad 2, .inl (cy 2, 8, .inr (.inl (fun j => lN (sStk S j))))), (ad 3, .inl (cy 3, 8, .inr (.inl (fun j => lN (sPrs S j))))), (ad 4, .inl (cy 4, 8, .inl (fun j => bI (sOut S j)))), (ad 5, .inl (cy 5, 328, .inr (.inl (fun j => lN (sWts S j))))), (ad 6, .inl (cy 6, 41, .inr (.inl (fun j => lN (sTot S j))))), (ad 7, .inl (cy 7, 300, .inl (fun j => nI (sVts S j)))), (ad 8, .inl (cy 8, 328, .inl (fun j => nI (bbF S j)))), (ad 9, .inl (cy 9, 41, .inl (fun j => nI (cbF S j))))]
abbrev xty (cy : Nat → ClassId) : List (ClassId × FieldType) := [(cy 1, .long), (cy 2, .long), (cy 3, .long), (cy 4, .boolean), (cy 5, .long), (cy 6, .long), (cy 7, .int), (cy 8, .int), (cy 9, .int)]
abbrev xB (dC : Nat → ClassId) (dI : Nat → Nat → Nat) (ad : Nat → Nat) (cy : Nat → ClassId) (S : St) : State → Prop := roB (dC, dI) (xw ad cy S) (xty cy)
theorem f_i2l (x : Int32) : (Int32.toInt64 x).toInt = x.toInt := Int32.toInt_toInt64 x
theorem in_nI {x : Int32} {n : Nat} (h0 : 0 ≤ x.toInt) (h : x.toInt < (n : Int)) : ∃ k : Nat, k < n ∧ x = nI k := by
  refine ⟨x.toInt.toNat, by omega, ?_⟩
  apply Int32.toInt_inj.mp
  have := x.toInt_lt
  rw [nI_toInt (by omega)]
  omega
theorem f_dec {k : Nat} (h : 0 < k) : nI k + Int32.ofInt (-1) = nI (k - 1) := by
  obtain ⟨j, rfl⟩ : ∃ j, k = j + 1 := ⟨k - 1, by omega⟩
  exact pk_m1 j
theorem sm_zero {n : Nat} {f : Nat → Nat} (h : ∀ i, i < n → f i = 0) : sm n f = 0 := by
  induction n with
  | zero => rfl
  | succ n ih => simp only [sm]; rw [ih (fun i hi => h i (by omega)), h n (by omega)]
theorem prF_vo {S : St} {q c d : Nat} (h : c / 256 ≠ d / 256) : prF S q c d = false := by
  unfold prF
  split
  · rw [← Bool.not_eq_true]; simp only [twF, Bool.and_eq_true, decide_eq_true_eq]; omega
  · rw [← Bool.not_eq_true]; simp [lkF, h]
theorem prF_lk {S : St} {c d : Nat} (h : lkg c = false) : prF S 1 c d = false := by
  simp [prF, lkF, h]
end
section
/-! numbers and bits -/
theorem f_bv (n : Nat) : (nI n).toBitVec = BitVec.ofNat 32 n := rfl
theorem nx_and (a b : Nat) : nI a &&& nI b = nI (a &&& b) := by
  apply Int32.toBitVec_inj.mp
  rw [Int32.toBitVec_and, f_bv, f_bv, f_bv]
  apply BitVec.eq_of_toNat_eq
  simp only [BitVec.toNat_and, BitVec.toNat_ofNat, Nat.and_mod_two_pow]
theorem nx_or (a b : Nat) : nI a ||| nI b = nI (a ||| b) := by
  apply Int32.toBitVec_inj.mp
  rw [Int32.toBitVec_or, f_bv, f_bv, f_bv]
  apply BitVec.eq_of_toNat_eq
  simp only [BitVec.toNat_or, BitVec.toNat_ofNat, Nat.or_mod_two_pow]
theorem f_or {x b a : Nat} (i : Nat) (hx : x = a * 2 ^ i) (h : b < 2 ^ i) : nI x ||| nI b = nI (x + b) := by
  rw [nx_or, hx, Nat.mul_comm, ← Nat.two_pow_add_eq_or_of_lt h]
theorem f_sl : ∀ n, n < 32 → ((nI n &&& 31).toBitVec.smod 32).toNat = n := by decide
theorem f_shl1 {b : Nat} (h : b < 31) : nI 1 <<< (nI b &&& 31) = nI (2 ^ b) := by
  have hp : 2 ^ b < 2 ^ 32 := Nat.pow_lt_pow_right (by decide) (by omega)
  have := pk_shlN (n := 1) (nI b &&& 31) b (f_sl b (by omega)) (by omega)
  rw [this, Nat.one_mul]
theorem f_shrv {x b : Nat} (hx : x < 2 ^ 31) (h : b < 31) : nI x >>> (nI b &&& 31) = nI (x / 2 ^ b) := pk_shrN hx _ b (f_sl b (by omega))
theorem f_tb {x b : Nat} (h : x &&& 2 ^ b = 0) : x.testBit b = false := by
  have e : (x &&& 2 ^ b).testBit b = (0 : Nat).testBit b := by rw [h]
  rw [Nat.testBit_and, Nat.testBit_two_pow_self, Nat.zero_testBit, Bool.and_true] at e
  exact e
theorem f_tb1 {x b : Nat} (h : x &&& 2 ^ b ≠ 0) : x.testBit b = true := by
  cases hh : x.testBit b with
  | true => rfl
  | false =>
    refine absurd ?_ h
    apply Nat.eq_of_testBit_eq
    intro i
    rw [Nat.testBit_and, Nat.zero_testBit, Nat.testBit_two_pow]
    by_cases hi : b = i
    · subst hi; simp [hh]
    · simp [hi]
/-- the node's bits taken out of a vote -/
theorem f_nm (c : Nat) (h : c < 83968) : nI c &&& (-1793) = nI (c - c / 256 % 8 * 256) := by
  have e : (-1793 : Int32) = nI 4294965503 := by decide
  rw [e, nx_and]
  congr 1
  have h1 : (4294965503 : Nat) = 2097151 * 2 ^ 11 + 255 := by decide
  apply Nat.eq_of_testBit_eq
  intro i
  rw [Nat.testBit_and]
  have hc : c - c / 256 % 8 * 256 = c / 2048 * 2 ^ 11 + c % 256 := by omega
  rw [hc]
  have t1 : (c / 2048 * 2 ^ 11 + c % 256).testBit i = if i < 11 then (c % 256).testBit i else (c / 2048).testBit (i - 11) := by
    rw [Nat.mul_comm]
    exact Nat.testBit_two_pow_mul_add _ (by omega) i
  have t2 : (4294965503 : Nat).testBit i = if i < 11 then (255 : Nat).testBit i else (2097151 : Nat).testBit (i - 11) := by
    rw [h1, Nat.mul_comm]
    exact Nat.testBit_two_pow_mul_add _ (by decide) i
  rw [t1, t2]
  have e8 : (255 : Nat) = 2 ^ 8 - 1 := by decide
  have e21 : (2097151 : Nat) = 2 ^ 21 - 1 := by decide
  by_cases hi : i < 11
  · rw [if_pos hi, if_pos hi, e8, Nat.testBit_two_pow_sub_one]
    have : c % 256 = c % 2 ^ 8 := by rfl
    rw [this, Nat.testBit_mod_two_pow, Bool.and_comm]
  · rw [if_neg hi, if_neg hi, e21, Nat.testBit_two_pow_sub_one]
    have : c / 2048 = c / 2 ^ 11 := by rfl
    rw [this, Nat.testBit_div_two_pow]
    have hii : i - 11 + 11 = i := by omega
    rw [hii]
    by_cases h2 : i - 11 < 21
    · simp [h2]
    · have : c.testBit i = false := Nat.testBit_lt_two_pow (Nat.lt_of_lt_of_le (show c < 2 ^ 32 by omega) (Nat.pow_le_pow_right (by decide) (by omega)))
      simp [this]
theorem bb_at (S : St) {h r b : Nat} (hr : r < 8) (hb : b < 10) : (bbF S (h * 8 + r)).testBit b = bkF S h r b := by
  unfold bbF
  rw [bitS_tb]
  have e1 : (h * 8 + r) / 8 = h := by omega
  have e2 : (h * 8 + r) % 8 = r := by omega
  rw [e1, e2]
  simp [hb]
theorem bb_lt (S : St) (j : Nat) : bbF S j < 1024 := bitS_lt 10 _
theorem cb_at (S : St) {h b : Nat} (hb : b < 10) : (cbF S h).testBit b = ctF S h b := by
  unfold cbF
  rw [bitS_tb]
  simp [hb]
theorem cb_lt (S : St) (j : Nat) : cbF S j < 1024 := bitS_lt 10 _
end
section
abbrev rm_X1_packed : Room := { frames := 0, cells := 0, slots := 0, locals := 0 }
set_option maxHeartbeats 4000000 in
set_option maxRecDepth 100000 in
theorem c_X1_packed (l : Launch) (k : Nat) (h : Nat) (r : Nat) (t : Nat) (b : Nat) (hk : k < 8) (hh : h ≤ 40) (hr1 : r < 8) (ht : t < 2) (hb1 : b < 16) : RoI l yX1_packed wsX1_packed rm_X1_packed [.int (nI k), .int (nI h), .int (nI r), .int (nI t), .int (nI b)] (noB) (nI (vC k h r t b)) := by
  refine Ro_start (cc := cX1_packed) (maxL := 5) (ret := (some .int)) (lv := [(0, .int (nI k)), (1, .int (nI h)), (2, .int (nI r)), (3, .int (nI t)), (4, .int (nI b))]) (by decide) rfl (Nat.le_of_ble_eq_true rfl) rfl ?_
  intro pp ee ss mm aa bl me co hx hb hr hml hts hown hlocks hnm hB ls hl
  refine lv_iload_n hx hb dX1_packed_0 rfl (lv_at hl 1 rfl) ?_
  refine lv_bipush (v := (nI 11)) hx hb dX1_packed_1 (by decide) ?_
  refine lv_ishl hx hb dX1_packed_3 ?_
  refine f_ti (y := (nI (h * 2048))) (pk_shlN _ 11 (by decide) (by omega)) ?_
  refine lv_iload_n hx hb dX1_packed_4 rfl (lv_at hl 0 rfl) ?_
  refine lv_bipush (v := (nI 8)) hx hb dX1_packed_5 (by decide) ?_
  refine lv_ishl hx hb dX1_packed_7 ?_
  refine f_ti (y := (nI (k * 256))) (pk_shlN _ 8 (by decide) (by omega)) ?_
  refine lv_ior hx hb dX1_packed_8 ?_
  refine f_ti (y := (nI (h * 2048 + k * 256))) (f_or (a := h) 11 rfl (by omega)) ?_
  refine lv_iload_n hx hb dX1_packed_9 rfl (lv_at hl 2 rfl) ?_
  refine lv_iconst (v := (nI 5)) hx hb dX1_packed_10 (by decide) ?_
  refine lv_ishl hx hb dX1_packed_11 ?_
  refine f_ti (y := (nI (r * 32))) (pk_shlN _ 5 (by decide) (by omega)) ?_
  refine lv_ior hx hb dX1_packed_12 ?_
  refine f_ti (y := (nI (h * 2048 + k * 256 + r * 32))) (f_or (a := h * 8 + k) 8 (by omega) (by omega)) ?_
  refine lv_iload_n hx hb dX1_packed_13 rfl (lv_at hl 3 rfl) ?_
  refine lv_iconst (v := (nI 4)) hx hb dX1_packed_14 (by decide) ?_
  refine lv_ishl hx hb dX1_packed_15 ?_
  refine f_ti (y := (nI (t * 16))) (pk_shlN _ 4 (by decide) (by omega)) ?_
  refine lv_ior hx hb dX1_packed_16 ?_
  refine f_ti (y := (nI (h * 2048 + k * 256 + r * 32 + t * 16))) (f_or (a := (h * 8 + k) * 8 + r) 5 (by omega) (by omega)) ?_
  refine lv_iload hx hb dX1_packed_17 (lv_at hl 4 rfl) ?_
  refine lv_ior hx hb dX1_packed_19 ?_
  refine f_ti (y := (nI (h * 2048 + k * 256 + r * 32 + t * 16 + b))) (f_or (a := ((h * 8 + k) * 8 + r) * 2 + t) 4 (by omega) (by omega)) ?_
  exact f_ri hx hb hr hlocks (by rw [vC]) dX1_packed_20

abbrev rm_X1_heightOf : Room := { frames := 0, cells := 0, slots := 0, locals := 0 }
set_option maxHeartbeats 4000000 in
set_option maxRecDepth 100000 in
theorem c_X1_heightOf (l : Launch) (c : Nat) (hc : c < 2147483648) : RoI l yX1_heightOf wsX1_heightOf rm_X1_heightOf [.int (nI c)] (noB) (nI (c / 2048)) := by
  refine Ro_start (cc := cX1_heightOf) (maxL := 1) (ret := (some .int)) (lv := [(0, .int (nI c))]) (by decide) rfl (Nat.le_of_ble_eq_true rfl) rfl ?_
  intro pp ee ss mm aa bl me co hx hb hr hml hts hown hlocks hnm hB ls hl
  refine lv_iload_n hx hb dX1_heightOf_0 rfl (lv_at hl 0 rfl) ?_
  refine lv_bipush (v := (nI 11)) hx hb dX1_heightOf_1 (by decide) ?_
  refine lv_ishr hx hb dX1_heightOf_3 ?_
  refine f_ti (y := (nI (c / 2048))) (pk_shrN (by omega) _ 11 (by decide)) ?_
  exact f_ri hx hb hr hlocks (rfl) dX1_heightOf_4

abbrev rm_X1_nodeOf : Room := { frames := 0, cells := 0, slots := 0, locals := 0 }
set_option maxHeartbeats 4000000 in
set_option maxRecDepth 100000 in
theorem c_X1_nodeOf (l : Launch) (c : Nat) (hc : c < 2147483648) : RoI l yX1_nodeOf wsX1_nodeOf rm_X1_nodeOf [.int (nI c)] (noB) (nI (c / 256 % 8)) := by
  refine Ro_start (cc := cX1_nodeOf) (maxL := 1) (ret := (some .int)) (lv := [(0, .int (nI c))]) (by decide) rfl (Nat.le_of_ble_eq_true rfl) rfl ?_
  intro pp ee ss mm aa bl me co hx hb hr hml hts hown hlocks hnm hB ls hl
  refine lv_iload_n hx hb dX1_nodeOf_0 rfl (lv_at hl 0 rfl) ?_
  refine lv_bipush (v := (nI 8)) hx hb dX1_nodeOf_1 (by decide) ?_
  refine lv_ishr hx hb dX1_nodeOf_3 ?_
  refine f_ti (y := (nI (c / 256))) (pk_shrN (by omega) _ 8 (by decide)) ?_
  refine lv_bipush (v := (nI 7)) hx hb dX1_nodeOf_4 (by decide) ?_
  refine lv_iand hx hb dX1_nodeOf_6 ?_
  refine f_ti (y := (nI ((c / 256) % 8))) (pk_andN (by omega) 3 (by decide)) ?_
  exact f_ri hx hb hr hlocks (rfl) dX1_nodeOf_7

abbrev rm_X1_roundOf : Room := { frames := 0, cells := 0, slots := 0, locals := 0 }
set_option maxHeartbeats 4000000 in
set_option maxRecDepth 100000 in
theorem c_X1_roundOf (l : Launch) (c : Nat) (hc : c < 2147483648) : RoI l yX1_roundOf wsX1_roundOf rm_X1_roundOf [.int (nI c)] (noB) (nI (c / 32 % 8)) := by
  refine Ro_start (cc := cX1_roundOf) (maxL := 1) (ret := (some .int)) (lv := [(0, .int (nI c))]) (by decide) rfl (Nat.le_of_ble_eq_true rfl) rfl ?_
  intro pp ee ss mm aa bl me co hx hb hr hml hts hown hlocks hnm hB ls hl
  refine lv_iload_n hx hb dX1_roundOf_0 rfl (lv_at hl 0 rfl) ?_
  refine lv_iconst (v := (nI 5)) hx hb dX1_roundOf_1 (by decide) ?_
  refine lv_ishr hx hb dX1_roundOf_2 ?_
  refine f_ti (y := (nI (c / 32))) (pk_shrN (by omega) _ 5 (by decide)) ?_
  refine lv_bipush (v := (nI 7)) hx hb dX1_roundOf_3 (by decide) ?_
  refine lv_iand hx hb dX1_roundOf_5 ?_
  refine f_ti (y := (nI ((c / 32) % 8))) (pk_andN (by omega) 3 (by decide)) ?_
  exact f_ri hx hb hr hlocks (rfl) dX1_roundOf_6

abbrev rm_X1_stepOf : Room := { frames := 0, cells := 0, slots := 0, locals := 0 }
set_option maxHeartbeats 4000000 in
set_option maxRecDepth 100000 in
theorem c_X1_stepOf (l : Launch) (c : Nat) (hc : c < 2147483648) : RoI l yX1_stepOf wsX1_stepOf rm_X1_stepOf [.int (nI c)] (noB) (nI (c / 16 % 2)) := by
  refine Ro_start (cc := cX1_stepOf) (maxL := 1) (ret := (some .int)) (lv := [(0, .int (nI c))]) (by decide) rfl (Nat.le_of_ble_eq_true rfl) rfl ?_
  intro pp ee ss mm aa bl me co hx hb hr hml hts hown hlocks hnm hB ls hl
  refine lv_iload_n hx hb dX1_stepOf_0 rfl (lv_at hl 0 rfl) ?_
  refine lv_iconst (v := (nI 4)) hx hb dX1_stepOf_1 (by decide) ?_
  refine lv_ishr hx hb dX1_stepOf_2 ?_
  refine f_ti (y := (nI (c / 16))) (pk_shrN (by omega) _ 4 (by decide)) ?_
  refine lv_iconst (v := (nI 1)) hx hb dX1_stepOf_3 (by decide) ?_
  refine lv_iand hx hb dX1_stepOf_4 ?_
  refine f_ti (y := (nI ((c / 16) % 2))) (pk_andN (by omega) 1 (by decide)) ?_
  exact f_ri hx hb hr hlocks (rfl) dX1_stepOf_5

abbrev rm_X1_blockOf : Room := { frames := 0, cells := 0, slots := 0, locals := 0 }
set_option maxHeartbeats 4000000 in
set_option maxRecDepth 100000 in
theorem c_X1_blockOf (l : Launch) (c : Nat) (hc : c < 2147483648) : RoI l yX1_blockOf wsX1_blockOf rm_X1_blockOf [.int (nI c)] (noB) (nI (c % 16)) := by
  refine Ro_start (cc := cX1_blockOf) (maxL := 1) (ret := (some .int)) (lv := [(0, .int (nI c))]) (by decide) rfl (Nat.le_of_ble_eq_true rfl) rfl ?_
  intro pp ee ss mm aa bl me co hx hb hr hml hts hown hlocks hnm hB ls hl
  refine lv_iload_n hx hb dX1_blockOf_0 rfl (lv_at hl 0 rfl) ?_
  refine lv_bipush (v := (nI 15)) hx hb dX1_blockOf_1 (by decide) ?_
  refine lv_iand hx hb dX1_blockOf_3 ?_
  refine f_ti (y := (nI (c % 16))) (pk_andN (by omega) 4 (by decide)) ?_
  exact f_ri hx hb hr hlocks (rfl) dX1_blockOf_4

abbrev rm_X1_voterOf : Room := { frames := 0, cells := 0, slots := 0, locals := 0 }
set_option maxHeartbeats 4000000 in
set_option maxRecDepth 100000 in
theorem c_X1_voterOf (l : Launch) (c : Nat) (hc : c < 2147483648) : RoI l yX1_voterOf wsX1_voterOf rm_X1_voterOf [.int (nI c)] (noB) (nI (c / 256)) := by
  refine Ro_start (cc := cX1_voterOf) (maxL := 1) (ret := (some .int)) (lv := [(0, .int (nI c))]) (by decide) rfl (Nat.le_of_ble_eq_true rfl) rfl ?_
  intro pp ee ss mm aa bl me co hx hb hr hml hts hown hlocks hnm hB ls hl
  refine lv_iload_n hx hb dX1_voterOf_0 rfl (lv_at hl 0 rfl) ?_
  refine lv_bipush (v := (nI 8)) hx hb dX1_voterOf_1 (by decide) ?_
  refine lv_ishr hx hb dX1_voterOf_3 ?_
  refine f_ti (y := (nI (c / 256))) (pk_shrN (by omega) _ 8 (by decide)) ?_
  exact f_ri hx hb hr hlocks (rfl) dX1_voterOf_4

abbrev rm_X1_weightIndex : Room := { frames := 0, cells := 0, slots := 0, locals := 0 }
set_option maxHeartbeats 4000000 in
set_option maxRecDepth 100000 in
theorem c_X1_weightIndex (l : Launch) (h : Nat) (k : Nat) : RoI l yX1_weightIndex wsX1_weightIndex rm_X1_weightIndex [.int (nI h), .int (nI k)] (noB) (nI (h * 8 + k)) := by
  refine Ro_start (cc := cX1_weightIndex) (maxL := 2) (ret := (some .int)) (lv := [(0, .int (nI h)), (1, .int (nI k))]) (by decide) rfl (Nat.le_of_ble_eq_true rfl) rfl ?_
  intro pp ee ss mm aa bl me co hx hb hr hml hts hown hlocks hnm hB ls hl
  refine lv_iload_n hx hb dX1_weightIndex_0 rfl (lv_at hl 0 rfl) ?_
  refine lv_bipush (v := (nI 8)) hx hb dX1_weightIndex_1 (by decide) ?_
  refine lv_imul hx hb dX1_weightIndex_3 ?_
  refine f_ti (y := (nI (h * 8))) (pk_mul _ _) ?_
  refine lv_iload_n hx hb dX1_weightIndex_4 rfl (lv_at hl 1 rfl) ?_
  refine lv_iadd hx hb dX1_weightIndex_5 ?_
  refine f_ti (y := (nI ((h * 8) + k))) (nI_add _ _) ?_
  exact f_ri hx hb hr hlocks (rfl) dX1_weightIndex_6

abbrev rm_X1_isKind : Room := { frames := 0, cells := 0, slots := 0, locals := 0 }
set_option maxHeartbeats 4000000 in
set_option maxRecDepth 100000 in
theorem c_X1_isKind (l : Launch) (x : Int32) : RoI l yX1_isKind wsX1_isKind rm_X1_isKind [.int x] (noB) (bI (isKd x)) := by
  refine Ro_start (cc := cX1_isKind) (maxL := 1) (ret := (some .boolean)) (lv := [(0, .int x)]) (by decide) rfl (Nat.le_of_ble_eq_true rfl) rfl ?_
  intro pp ee ss mm aa bl me co hx hb hr hml hts hown hlocks hnm hB ls hl
  refine lv_iload_n hx hb dX1_isKind_0 rfl (lv_at hl 0 rfl) ?_
  refine f_0lt (tgt := 13) hx hb (rfl) dX1_isKind_1 (by decide) (fun c_1 => ?_) (fun c_1 => ?_)
  · refine lv_iconst (v := (nI 0)) hx hb dX1_isKind_13 (by decide) ?_
    exact f_r0 hx hb hr hlocks (by rw [← Bool.not_eq_true]; simp only [isKd, Bool.and_eq_true, Bool.or_eq_true, Bool.not_eq_true', decide_eq_true_eq]; omega) dX1_isKind_14
  · refine lv_iload_n hx hb dX1_isKind_4 rfl (lv_at hl 0 rfl) ?_
    refine lv_iconst (v := (nI 3)) hx hb dX1_isKind_5 (by decide) ?_
    refine f_ige (tgt := 13) hx hb (rfl) (nI_toInt (by omega)) dX1_isKind_6 (by decide) (fun c_2 => ?_) (fun c_2 => ?_)
    · refine lv_iconst (v := (nI 0)) hx hb dX1_isKind_13 (by decide) ?_
      exact f_r0 hx hb hr hlocks (by rw [← Bool.not_eq_true]; simp only [isKd, Bool.and_eq_true, Bool.or_eq_true, Bool.not_eq_true', decide_eq_true_eq]; omega) dX1_isKind_14
    · refine lv_iconst (v := (nI 1)) hx hb dX1_isKind_9 (by decide) ?_
      refine lv_goto (tgt := 14) hx hb dX1_isKind_10 (by decide) ?_
      exact f_r1 hx hb hr hlocks (by simp only [isKd, Bool.and_eq_true, Bool.or_eq_true, Bool.not_eq_true', decide_eq_true_eq]; omega) dX1_isKind_14

abbrev rm_X1_isSayable : Room := { frames := 0, cells := 0, slots := 0, locals := 0 }
set_option maxHeartbeats 4000000 in
set_option maxRecDepth 100000 in
theorem c_X1_isSayable (l : Launch) (x : Int32) (y : Int32) (z : Int32) : RoI l yX1_isSayable wsX1_isSayable rm_X1_isSayable [.int x, .int y, .int z] (noB) (bI (isSy x y z)) := by
  refine Ro_start (cc := cX1_isSayable) (maxL := 3) (ret := (some .boolean)) (lv := [(0, .int x), (1, .int y), (2, .int z)]) (by decide) rfl (Nat.le_of_ble_eq_true rfl) rfl ?_
  intro pp ee ss mm aa bl me co hx hb hr hml hts hown hlocks hnm hB ls hl
  refine lv_iload_n hx hb dX1_isSayable_0 rfl (lv_at hl 0 rfl) ?_
  refine f_0lt (tgt := 33) hx hb (rfl) dX1_isSayable_1 (by decide) (fun c_1 => ?_) (fun c_1 => ?_)
  · refine lv_iconst (v := (nI 0)) hx hb dX1_isSayable_33 (by decide) ?_
    exact f_r0 hx hb hr hlocks (by rw [← Bool.not_eq_true]; simp only [isSy, Bool.and_eq_true, Bool.or_eq_true, Bool.not_eq_true', decide_eq_true_eq]; omega) dX1_isSayable_34
  · refine lv_iload_n hx hb dX1_isSayable_4 rfl (lv_at hl 0 rfl) ?_
    refine lv_bipush (v := (nI 8)) hx hb dX1_isSayable_5 (by decide) ?_
    refine f_ige (tgt := 33) hx hb (rfl) (nI_toInt (by omega)) dX1_isSayable_7 (by decide) (fun c_2 => ?_) (fun c_2 => ?_)
    · refine lv_iconst (v := (nI 0)) hx hb dX1_isSayable_33 (by decide) ?_
      exact f_r0 hx hb hr hlocks (by rw [← Bool.not_eq_true]; simp only [isSy, Bool.and_eq_true, Bool.or_eq_true, Bool.not_eq_true', decide_eq_true_eq]; omega) dX1_isSayable_34
    · refine lv_iload_n hx hb dX1_isSayable_10 rfl (lv_at hl 1 rfl) ?_
      refine f_0lt (tgt := 33) hx hb (rfl) dX1_isSayable_11 (by decide) (fun c_3 => ?_) (fun c_3 => ?_)
      · refine lv_iconst (v := (nI 0)) hx hb dX1_isSayable_33 (by decide) ?_
        exact f_r0 hx hb hr hlocks (by rw [← Bool.not_eq_true]; simp only [isSy, Bool.and_eq_true, Bool.or_eq_true, Bool.not_eq_true', decide_eq_true_eq]; omega) dX1_isSayable_34
      · refine lv_iload_n hx hb dX1_isSayable_14 rfl (lv_at hl 1 rfl) ?_
        refine lv_iconst (v := (nI 2)) hx hb dX1_isSayable_15 (by decide) ?_
        refine f_ige (tgt := 33) hx hb (rfl) (nI_toInt (by omega)) dX1_isSayable_16 (by decide) (fun c_4 => ?_) (fun c_4 => ?_)
        · refine lv_iconst (v := (nI 0)) hx hb dX1_isSayable_33 (by decide) ?_
          exact f_r0 hx hb hr hlocks (by rw [← Bool.not_eq_true]; simp only [isSy, Bool.and_eq_true, Bool.or_eq_true, Bool.not_eq_true', decide_eq_true_eq]; omega) dX1_isSayable_34
        · refine lv_iload_n hx hb dX1_isSayable_19 rfl (lv_at hl 2 rfl) ?_
          refine f_0lt (tgt := 33) hx hb (rfl) dX1_isSayable_20 (by decide) (fun c_5 => ?_) (fun c_5 => ?_)
          · refine lv_iconst (v := (nI 0)) hx hb dX1_isSayable_33 (by decide) ?_
            exact f_r0 hx hb hr hlocks (by rw [← Bool.not_eq_true]; simp only [isSy, Bool.and_eq_true, Bool.or_eq_true, Bool.not_eq_true', decide_eq_true_eq]; omega) dX1_isSayable_34
          · refine lv_iload_n hx hb dX1_isSayable_23 rfl (lv_at hl 2 rfl) ?_
            refine lv_bipush (v := (nI 10)) hx hb dX1_isSayable_24 (by decide) ?_
            refine f_ige (tgt := 33) hx hb (rfl) (nI_toInt (by omega)) dX1_isSayable_26 (by decide) (fun c_6 => ?_) (fun c_6 => ?_)
            · refine lv_iconst (v := (nI 0)) hx hb dX1_isSayable_33 (by decide) ?_
              exact f_r0 hx hb hr hlocks (by rw [← Bool.not_eq_true]; simp only [isSy, Bool.and_eq_true, Bool.or_eq_true, Bool.not_eq_true', decide_eq_true_eq]; omega) dX1_isSayable_34
            · refine lv_iconst (v := (nI 1)) hx hb dX1_isSayable_29 (by decide) ?_
              refine lv_goto (tgt := 34) hx hb dX1_isSayable_30 (by decide) ?_
              exact f_r1 hx hb hr hlocks (by simp only [isSy, Bool.and_eq_true, Bool.or_eq_true, Bool.not_eq_true', decide_eq_true_eq]; omega) dX1_isSayable_34

abbrev rm_X1_hasBlock : Room := { frames := 0, cells := 0, slots := 0, locals := 0 }
set_option maxHeartbeats 4000000 in
set_option maxRecDepth 100000 in
theorem c_X1_hasBlock (l : Launch) (x : Nat) (b : Nat) (hx1 : x < 1024) (hb1 : b < 10) : RoI l yX1_hasBlock wsX1_hasBlock rm_X1_hasBlock [.int (nI x), .int (nI b)] (noB) (bI (Nat.testBit x b)) := by
  refine Ro_start (cc := cX1_hasBlock) (maxL := 2) (ret := (some .boolean)) (lv := [(0, .int (nI x)), (1, .int (nI b))]) (by decide) rfl (Nat.le_of_ble_eq_true rfl) rfl ?_
  intro pp ee ss mm aa bl me co hx hb hr hml hts hown hlocks hnm hB ls hl
  have hp : 2 ^ b < 2 ^ 10 := Nat.pow_lt_pow_right (by decide) hb1
  refine lv_iload_n hx hb dX1_hasBlock_0 rfl (lv_at hl 0 rfl) ?_
  refine lv_iconst (v := (nI 1)) hx hb dX1_hasBlock_1 (by decide) ?_
  refine lv_iload_n hx hb dX1_hasBlock_2 rfl (lv_at hl 1 rfl) ?_
  refine lv_ishl hx hb dX1_hasBlock_3 ?_
  refine f_ti (y := (nI (2 ^ b))) (f_shl1 (by omega)) ?_
  refine lv_iand hx hb dX1_hasBlock_4 ?_
  refine f_ti (y := (nI (x &&& 2 ^ b))) (nx_and _ _) ?_
  have hq : x &&& 2 ^ b ≤ x := Nat.and_le_left
  refine f_0eq (tgt := 12) hx hb (nI_toInt (by omega)) dX1_hasBlock_5 (by decide) (fun c_1 => ?_) (fun c_1 => ?_)
  · refine lv_iconst (v := (nI 0)) hx hb dX1_hasBlock_12 (by decide) ?_
    exact f_r0 hx hb hr hlocks (f_tb (by omega)) dX1_hasBlock_13
  · refine lv_iconst (v := (nI 1)) hx hb dX1_hasBlock_8 (by decide) ?_
    refine lv_goto (tgt := 13) hx hb dX1_hasBlock_9 (by decide) ?_
    exact f_r1 hx hb hr hlocks (f_tb1 (by omega)) dX1_hasBlock_13

abbrev rm_X1_isTwice : Room := { frames := 0, cells := 0, slots := 0, locals := 0 }
set_option maxHeartbeats 4000000 in
set_option maxRecDepth 100000 in
theorem c_X1_isTwice (l : Launch) (c : Nat) (d : Nat) (hc : c < 2147483648) (hd : d < 2147483648) : RoI l yX1_isTwice wsX1_isTwice rm_X1_isTwice [.int (nI c), .int (nI d)] (noB) (bI (twF c d)) := by
  refine Ro_start (cc := cX1_isTwice) (maxL := 2) (ret := (some .boolean)) (lv := [(0, .int (nI c)), (1, .int (nI d))]) (by decide) rfl (Nat.le_of_ble_eq_true rfl) rfl ?_
  intro pp ee ss mm aa bl me co hx hb hr hml hts hown hlocks hnm hB ls hl
  refine lv_iload_n hx hb dX1_isTwice_0 rfl (lv_at hl 0 rfl) ?_
  refine lv_iload_n hx hb dX1_isTwice_1 rfl (lv_at hl 1 rfl) ?_
  refine f_ieq (tgt := 18) hx hb (nI_toInt (by omega)) (nI_toInt (by omega)) dX1_isTwice_2 (by decide) (fun c_1 => ?_) (fun c_1 => ?_)
  · refine lv_iconst (v := (nI 0)) hx hb dX1_isTwice_18 (by decide) ?_
    exact f_r0 hx hb hr hlocks (by rw [← Bool.not_eq_true]; simp only [twF, ne_eq, Bool.and_eq_true, Bool.or_eq_true, Bool.not_eq_true', decide_eq_true_eq]; omega) dX1_isTwice_19
  · refine lv_iload_n hx hb dX1_isTwice_5 rfl (lv_at hl 0 rfl) ?_
    refine lv_iconst (v := (nI 4)) hx hb dX1_isTwice_6 (by decide) ?_
    refine lv_ishr hx hb dX1_isTwice_7 ?_
    refine f_ti (y := (nI (c / 16))) (pk_shrN (by omega) _ 4 (by decide)) ?_
    refine lv_iload_n hx hb dX1_isTwice_8 rfl (lv_at hl 1 rfl) ?_
    refine lv_iconst (v := (nI 4)) hx hb dX1_isTwice_9 (by decide) ?_
    refine lv_ishr hx hb dX1_isTwice_10 ?_
    refine f_ti (y := (nI (d / 16))) (pk_shrN (by omega) _ 4 (by decide)) ?_
    refine f_ine (tgt := 18) hx hb (nI_toInt (by omega)) (nI_toInt (by omega)) dX1_isTwice_11 (by decide) (fun c_2 => ?_) (fun c_2 => ?_)
    · refine lv_iconst (v := (nI 0)) hx hb dX1_isTwice_18 (by decide) ?_
      exact f_r0 hx hb hr hlocks (by rw [← Bool.not_eq_true]; simp only [twF, ne_eq, Bool.and_eq_true, Bool.or_eq_true, Bool.not_eq_true', decide_eq_true_eq]; omega) dX1_isTwice_19
    · refine lv_iconst (v := (nI 1)) hx hb dX1_isTwice_14 (by decide) ?_
      refine lv_goto (tgt := 19) hx hb dX1_isTwice_15 (by decide) ?_
      exact f_r1 hx hb hr hlocks (by simp only [twF, ne_eq, Bool.and_eq_true, Bool.or_eq_true, Bool.not_eq_true', decide_eq_true_eq]; omega) dX1_isTwice_19

abbrev rm_X1_isLocking : Room := { frames := 1, cells := 0, slots := 0, locals := 20 }
set_option maxHeartbeats 4000000 in
set_option maxRecDepth 100000 in
theorem c_X1_isLocking (l : Launch) (c : Nat) (hc : c < 2147483648) : RoI l yX1_isLocking wsX1_isLocking rm_X1_isLocking [.int (nI c)] (noB) (bI (lkg c)) := by
  refine Ro_start (cc := cX1_isLocking) (maxL := 1) (ret := (some .boolean)) (lv := [(0, .int (nI c))]) (by decide) rfl (Nat.le_of_ble_eq_true rfl) rfl ?_
  intro pp ee ss mm aa bl me co hx hb hr hml hts hown hlocks hnm hB ls hl
  refine lv_iload_n hx hb dX1_isLocking_0 rfl (lv_at hl 0 rfl) ?_
  refine f_cSi (As := [.int (nI c)]) (rest := []) ⟨hx, hb, hml, hown, hts⟩ (c_X1_stepOf l c (by omega)) (va_cwS 1 hts gX1_isLocking_X1_stepOf rfl rfl rfl (by decide +kernel) ⟨Nat.le_of_ble_eq_true rfl, Nat.le_of_ble_eq_true rfl⟩) noB_bl noB_at rfl hl.1 rfl (Nat.le_of_ble_eq_true rfl) dX1_isLocking_1 ⟨Nat.zero_le _, Nat.zero_le _⟩ ?_
  refine lv_iconst (v := (nI 1)) hx hb dX1_isLocking_4 (by decide) ?_
  refine f_ine (tgt := 19) hx hb (nI_toInt (by omega)) (nI_toInt (by omega)) dX1_isLocking_5 (by decide) (fun c_1 => ?_) (fun c_1 => ?_)
  · refine lv_iconst (v := (nI 0)) hx hb dX1_isLocking_19 (by decide) ?_
    exact f_r0 hx hb hr hlocks (by rw [← Bool.not_eq_true]; simp only [lkg, Bool.and_eq_true, Bool.or_eq_true, Bool.not_eq_true', decide_eq_true_eq]; omega) dX1_isLocking_20
  · refine lv_iload_n hx hb dX1_isLocking_8 rfl (lv_at hl 0 rfl) ?_
    refine f_cSi (As := [.int (nI c)]) (rest := []) ⟨hx, hb, hml, hown, hts⟩ (c_X1_blockOf l c (by omega)) (va_cwS 1 hts gX1_isLocking_X1_blockOf rfl rfl rfl (by decide +kernel) ⟨Nat.le_of_ble_eq_true rfl, Nat.le_of_ble_eq_true rfl⟩) noB_bl noB_at rfl hl.1 rfl (Nat.le_of_ble_eq_true rfl) dX1_isLocking_9 ⟨Nat.zero_le _, Nat.zero_le _⟩ ?_
    refine f_0le (tgt := 19) hx hb (nI_toInt (by omega)) dX1_isLocking_12 (by decide) (fun c_2 => ?_) (fun c_2 => ?_)
    · refine lv_iconst (v := (nI 0)) hx hb dX1_isLocking_19 (by decide) ?_
      exact f_r0 hx hb hr hlocks (by rw [← Bool.not_eq_true]; simp only [lkg, Bool.and_eq_true, Bool.or_eq_true, Bool.not_eq_true', decide_eq_true_eq]; omega) dX1_isLocking_20
    · refine lv_iconst (v := (nI 1)) hx hb dX1_isLocking_15 (by decide) ?_
      refine lv_goto (tgt := 20) hx hb dX1_isLocking_16 (by decide) ?_
      exact f_r1 hx hb hr hlocks (by simp only [lkg, Bool.and_eq_true, Bool.or_eq_true, Bool.not_eq_true', decide_eq_true_eq]; omega) dX1_isLocking_20

abbrev rm_X1_firstPartner : Room := { frames := 0, cells := 0, slots := 0, locals := 0 }
set_option maxHeartbeats 4000000 in
set_option maxRecDepth 100000 in
theorem c_X1_firstPartner (l : Launch) (q : Nat) (a : Nat) (hq : q < 3) : RoI l yX1_firstPartner wsX1_firstPartner rm_X1_firstPartner [.int (nI q), .int (nI a)] (noB) (nI (if q = 0 then a + 1 else 0)) := by
  refine Ro_start (cc := cX1_firstPartner) (maxL := 2) (ret := (some .int)) (lv := [(0, .int (nI q)), (1, .int (nI a))]) (by decide) rfl (Nat.le_of_ble_eq_true rfl) rfl ?_
  intro pp ee ss mm aa bl me co hx hb hr hml hts hown hlocks hnm hB ls hl
  refine lv_iload_n hx hb dX1_firstPartner_0 rfl (lv_at hl 0 rfl) ?_
  refine f_0ne (tgt := 10) hx hb (nI_toInt (by omega)) dX1_firstPartner_1 (by decide) (fun c_1 => ?_) (fun c_1 => ?_)
  · refine lv_iconst (v := (nI 0)) hx hb dX1_firstPartner_10 (by decide) ?_
    exact f_ri hx hb hr hlocks (by split <;> first | rfl | (exfalso; omega)) dX1_firstPartner_11
  · refine lv_iload_n hx hb dX1_firstPartner_4 rfl (lv_at hl 1 rfl) ?_
    refine lv_iconst (v := (nI 1)) hx hb dX1_firstPartner_5 (by decide) ?_
    refine lv_iadd hx hb dX1_firstPartner_6 ?_
    refine f_ti (y := (nI (a + 1))) (nI_add _ _) ?_
    refine lv_goto (tgt := 11) hx hb dX1_firstPartner_7 (by decide) ?_
    exact f_ri hx hb hr hlocks (by split <;> first | rfl | (exfalso; omega)) dX1_firstPartner_11

abbrev rm_X1_isNode : Room := { frames := 0, cells := 0, slots := 0, locals := 0 }
set_option maxHeartbeats 4000000 in
set_option maxRecDepth 100000 in
theorem c_X1_isNode (l : Launch) (dC : Nat → ClassId) (dI : Nat → Nat → Nat) (ad : Nat → Nat) (cy : Nat → ClassId) (S : St) (x : Int32) (I : Inv S) : RoI l yX1_isNode wsX1_isNode rm_X1_isNode [.ref (ad 0), .int x] (xB dC dI ad cy S) (bI (isNd S x)) := by
  refine Ro_start (cc := cX1_isNode) (maxL := 2) (ret := (some .boolean)) (lv := [(0, .ref (ad 0)), (1, .int x)]) (by decide) rfl (Nat.le_of_ble_eq_true rfl) rfl ?_
  intro pp ee ss mm aa bl me co hx hb hr hml hts hown hlocks hnm hB ls hl
  obtain ⟨hP, hK⟩ := hB
  have hin : ∀ w ∈ wsX10, w ∈ wsX1_isNode := fun w h => List.mem_cons_of_mem _ (List.mem_append_right _ h)
  have hf_31 := hts (.fieldLink RX1 31 "FaultEvidence" "nodeCount" "I") (by decide +kernel)
  have I1 := I.n
  refine lv_iload_n hx hb dX1_isNode_0 rfl (lv_at hl 1 rfl) ?_
  refine f_0lt (tgt := 16) hx hb (rfl) dX1_isNode_1 (by decide) (fun c_1 => ?_) (fun c_1 => ?_)
  · refine lv_iconst (v := (nI 0)) hx hb dX1_isNode_16 (by decide) ?_
    exact f_r0 hx hb hr hlocks (by rw [← Bool.not_eq_true]; simp only [isNd, Bool.and_eq_true, Bool.or_eq_true, Bool.not_eq_true', decide_eq_true_eq]; omega) dX1_isNode_17
  · refine lv_iload_n hx hb dX1_isNode_4 rfl (lv_at hl 1 rfl) ?_
    refine lv_aload_n hx hb dX1_isNode_5 rfl (lv_at hl 0 rfl) ?_
    refine va_get (D := (dC, dI)) (ci := 2) (v := .int (nI (sNn S))) (C := RX1) (T := TX1) (N := 14) hx hb hts hin hown hK hP 0 rfl rfl 4 (by decide) hf_31 (fun _ h9 => h9) rfl dX1_isNode_6 ?_
    refine f_ige (tgt := 16) hx hb (rfl) (nI_toInt (by omega)) dX1_isNode_9 (by decide) (fun c_2 => ?_) (fun c_2 => ?_)
    · refine lv_iconst (v := (nI 0)) hx hb dX1_isNode_16 (by decide) ?_
      exact f_r0 hx hb hr hlocks (by rw [← Bool.not_eq_true]; simp only [isNd, Bool.and_eq_true, Bool.or_eq_true, Bool.not_eq_true', decide_eq_true_eq]; omega) dX1_isNode_17
    · refine lv_iconst (v := (nI 1)) hx hb dX1_isNode_12 (by decide) ?_
      refine lv_goto (tgt := 17) hx hb dX1_isNode_13 (by decide) ?_
      exact f_r1 hx hb hr hlocks (by simp only [isNd, Bool.and_eq_true, Bool.or_eq_true, Bool.not_eq_true', decide_eq_true_eq]; omega) dX1_isNode_17

abbrev rm_X1_isVote : Room := { frames := 0, cells := 0, slots := 0, locals := 0 }
set_option maxHeartbeats 4000000 in
set_option maxRecDepth 100000 in
theorem c_X1_isVote (l : Launch) (dC : Nat → ClassId) (dI : Nat → Nat → Nat) (ad : Nat → Nat) (cy : Nat → ClassId) (S : St) (x : Int32) (I : Inv S) : RoI l yX1_isVote wsX1_isVote rm_X1_isVote [.ref (ad 0), .int x] (xB dC dI ad cy S) (bI (isVt S x)) := by
  refine Ro_start (cc := cX1_isVote) (maxL := 2) (ret := (some .boolean)) (lv := [(0, .ref (ad 0)), (1, .int x)]) (by decide) rfl (Nat.le_of_ble_eq_true rfl) rfl ?_
  intro pp ee ss mm aa bl me co hx hb hr hml hts hown hlocks hnm hB ls hl
  obtain ⟨hP, hK⟩ := hB
  have hin : ∀ w ∈ wsX10, w ∈ wsX1_isVote := fun w h => List.mem_cons_of_mem _ (List.mem_append_right _ h)
  have hf_48 := hts (.fieldLink RX1 48 "FaultEvidence" "voteCount" "I") (by decide +kernel)
  have I1 := I.n
  refine lv_iload_n hx hb dX1_isVote_0 rfl (lv_at hl 1 rfl) ?_
  refine f_0lt (tgt := 16) hx hb (rfl) dX1_isVote_1 (by decide) (fun c_1 => ?_) (fun c_1 => ?_)
  · refine lv_iconst (v := (nI 0)) hx hb dX1_isVote_16 (by decide) ?_
    exact f_r0 hx hb hr hlocks (by rw [← Bool.not_eq_true]; simp only [isVt, Bool.and_eq_true, Bool.or_eq_true, Bool.not_eq_true', decide_eq_true_eq]; omega) dX1_isVote_17
  · refine lv_iload_n hx hb dX1_isVote_4 rfl (lv_at hl 1 rfl) ?_
    refine lv_aload_n hx hb dX1_isVote_5 rfl (lv_at hl 0 rfl) ?_
    refine va_get (D := (dC, dI)) (ci := 2) (v := .int (nI (sVn S))) (C := RX1) (T := TX1) (N := 14) hx hb hts hin hown hK hP 0 rfl rfl 9 (by decide) hf_48 (fun _ h9 => h9) rfl dX1_isVote_6 ?_
    refine f_ige (tgt := 16) hx hb (rfl) (nI_toInt (by omega)) dX1_isVote_9 (by decide) (fun c_2 => ?_) (fun c_2 => ?_)
    · refine lv_iconst (v := (nI 0)) hx hb dX1_isVote_16 (by decide) ?_
      exact f_r0 hx hb hr hlocks (by rw [← Bool.not_eq_true]; simp only [isVt, Bool.and_eq_true, Bool.or_eq_true, Bool.not_eq_true', decide_eq_true_eq]; omega) dX1_isVote_17
    · refine lv_iconst (v := (nI 1)) hx hb dX1_isVote_12 (by decide) ?_
      refine lv_goto (tgt := 17) hx hb dX1_isVote_13 (by decide) ?_
      exact f_r1 hx hb hr hlocks (by simp only [isVt, Bool.and_eq_true, Bool.or_eq_true, Bool.not_eq_true', decide_eq_true_eq]; omega) dX1_isVote_17

abbrev rm_X1_isNodeOrNone : Room := { frames := 1, cells := 0, slots := 0, locals := 21 }
set_option maxHeartbeats 4000000 in
set_option maxRecDepth 100000 in
theorem c_X1_isNodeOrNone (l : Launch) (dC : Nat → ClassId) (dI : Nat → Nat → Nat) (ad : Nat → Nat) (cy : Nat → ClassId) (S : St) (x : Int32) (I : Inv S) : RoI l yX1_isNodeOrNone wsX1_isNodeOrNone rm_X1_isNodeOrNone [.ref (ad 0), .int x] (xB dC dI ad cy S) (bI (isNN S x)) := by
  refine Ro_start (cc := cX1_isNodeOrNone) (maxL := 2) (ret := (some .boolean)) (lv := [(0, .ref (ad 0)), (1, .int x)]) (by decide) rfl (Nat.le_of_ble_eq_true rfl) rfl ?_
  intro pp ee ss mm aa bl me co hx hb hr hml hts hown hlocks hnm hB ls hl
  obtain ⟨hP, hK⟩ := hB
  have I1 := I.n
  refine lv_iload_n hx hb dX1_isNodeOrNone_0 rfl (lv_at hl 1 rfl) ?_
  refine lv_iconst (v := (-1)) hx hb dX1_isNodeOrNone_1 (by decide) ?_
  refine f_ieq (tgt := 13) hx hb (rfl) ((by decide : ((-1) : Int32).toInt = -1)) dX1_isNodeOrNone_2 (by decide) (fun c_1 => ?_) (fun c_1 => ?_)
  · refine lv_iconst (v := (nI 1)) hx hb dX1_isNodeOrNone_13 (by decide) ?_
    refine lv_goto (tgt := 18) hx hb dX1_isNodeOrNone_14 (by decide) ?_
    exact f_r1 hx hb hr hlocks (by simp [isNN] <;> omega) dX1_isNodeOrNone_18
  · refine lv_aload_n hx hb dX1_isNodeOrNone_5 rfl (lv_at hl 0 rfl) ?_
    refine lv_iload_n hx hb dX1_isNodeOrNone_6 rfl (lv_at hl 1 rfl) ?_
    refine f_cVi (As := [.int x]) (rest := []) ⟨hx, hb, hml, hown, hts⟩ (c_X1_isNode l dC dI ad cy S x I) (cwV 1 hts gX1_isNodeOrNone_X1_isNode rfl rfl rfl (by decide +kernel) ⟨Nat.le_of_ble_eq_true rfl, Nat.le_of_ble_eq_true rfl⟩) roB_bl (va_recv hK hP (ci := 2) (q0 := 0) rfl rfl) (roB_at hP hK) rfl hl.1 rfl (Nat.le_of_ble_eq_true rfl) dX1_isNodeOrNone_7 ⟨Nat.zero_le _, Nat.zero_le _⟩ ?_
    refine f_beq (tgt := 17) hx hb dX1_isNodeOrNone_10 (by decide) (fun c_2 => ?_) (fun c_2 => ?_)
    · refine lv_iconst (v := (nI 0)) hx hb dX1_isNodeOrNone_17 (by decide) ?_
      exact f_r0 hx hb hr hlocks (by simp [isNN, c_2] <;> omega) dX1_isNodeOrNone_18
    · refine lv_iconst (v := (nI 1)) hx hb dX1_isNodeOrNone_13 (by decide) ?_
      refine lv_goto (tgt := 18) hx hb dX1_isNodeOrNone_14 (by decide) ?_
      exact f_r1 hx hb hr hlocks (by simp [isNN, c_2] <;> omega) dX1_isNodeOrNone_18

abbrev rm_X1_hasBegun : Room := { frames := 0, cells := 0, slots := 0, locals := 0 }
set_option maxHeartbeats 4000000 in
set_option maxRecDepth 100000 in
theorem c_X1_hasBegun (l : Launch) (dC : Nat → ClassId) (dI : Nat → Nat → Nat) (ad : Nat → Nat) (cy : Nat → ClassId) (S : St) (x : Int32) (I : Inv S) : RoI l yX1_hasBegun wsX1_hasBegun rm_X1_hasBegun [.ref (ad 0), .int x] (xB dC dI ad cy S) (bI (isBg S x)) := by
  refine Ro_start (cc := cX1_hasBegun) (maxL := 2) (ret := (some .boolean)) (lv := [(0, .ref (ad 0)), (1, .int x)]) (by decide) rfl (Nat.le_of_ble_eq_true rfl) rfl ?_
  intro pp ee ss mm aa bl me co hx hb hr hml hts hown hlocks hnm hB ls hl
  obtain ⟨hP, hK⟩ := hB
  have hin : ∀ w ∈ wsX10, w ∈ wsX1_hasBegun := fun w h => List.mem_cons_of_mem _ (List.mem_append_right _ h)
  have hf_35 := hts (.fieldLink RX1 35 "FaultEvidence" "currentHeight" "I") (by decide +kernel)
  have I1 := I.n
  refine lv_iload_n hx hb dX1_hasBegun_0 rfl (lv_at hl 1 rfl) ?_
  refine lv_iconst (v := (nI 1)) hx hb dX1_hasBegun_1 (by decide) ?_
  refine f_ilt (tgt := 17) hx hb (rfl) (nI_toInt (by omega)) dX1_hasBegun_2 (by decide) (fun c_1 => ?_) (fun c_1 => ?_)
  · refine lv_iconst (v := (nI 0)) hx hb dX1_hasBegun_17 (by decide) ?_
    exact f_r0 hx hb hr hlocks (by rw [← Bool.not_eq_true]; simp only [isBg, Bool.and_eq_true, Bool.or_eq_true, Bool.not_eq_true', decide_eq_true_eq]; omega) dX1_hasBegun_18
  · refine lv_iload_n hx hb dX1_hasBegun_5 rfl (lv_at hl 1 rfl) ?_
    refine lv_aload_n hx hb dX1_hasBegun_6 rfl (lv_at hl 0 rfl) ?_
    refine va_get (D := (dC, dI)) (ci := 2) (v := .int (nI (sHh S))) (C := RX1) (T := TX1) (N := 14) hx hb hts hin hown hK hP 0 rfl rfl 5 (by decide) hf_35 (fun _ h9 => h9) rfl dX1_hasBegun_7 ?_
    refine f_igt (tgt := 17) hx hb (rfl) (nI_toInt (by omega)) dX1_hasBegun_10 (by decide) (fun c_2 => ?_) (fun c_2 => ?_)
    · refine lv_iconst (v := (nI 0)) hx hb dX1_hasBegun_17 (by decide) ?_
      exact f_r0 hx hb hr hlocks (by rw [← Bool.not_eq_true]; simp only [isBg, Bool.and_eq_true, Bool.or_eq_true, Bool.not_eq_true', decide_eq_true_eq]; omega) dX1_hasBegun_18
    · refine lv_iconst (v := (nI 1)) hx hb dX1_hasBegun_13 (by decide) ?_
      refine lv_goto (tgt := 18) hx hb dX1_hasBegun_14 (by decide) ?_
      exact f_r1 hx hb hr hlocks (by simp only [isBg, Bool.and_eq_true, Bool.or_eq_true, Bool.not_eq_true', decide_eq_true_eq]; omega) dX1_hasBegun_18

abbrev rm_X1_isOpen : Room := { frames := 1, cells := 0, slots := 0, locals := 21 }
set_option maxHeartbeats 4000000 in
set_option maxRecDepth 100000 in
theorem c_X1_isOpen (l : Launch) (dC : Nat → ClassId) (dI : Nat → Nat → Nat) (ad : Nat → Nat) (cy : Nat → ClassId) (S : St) (x : Int32) (I : Inv S) : RoI l yX1_isOpen wsX1_isOpen rm_X1_isOpen [.ref (ad 0), .int x] (xB dC dI ad cy S) (bI (isOp S x)) := by
  refine Ro_start (cc := cX1_isOpen) (maxL := 2) (ret := (some .boolean)) (lv := [(0, .ref (ad 0)), (1, .int x)]) (by decide) rfl (Nat.le_of_ble_eq_true rfl) rfl ?_
  intro pp ee ss mm aa bl me co hx hb hr hml hts hown hlocks hnm hB ls hl
  obtain ⟨hP, hK⟩ := hB
  have hin : ∀ w ∈ wsX10, w ∈ wsX1_isOpen := fun w h => List.mem_cons_of_mem _ (List.mem_append_right _ h)
  have hf_35 := hts (.fieldLink RX1 35 "FaultEvidence" "currentHeight" "I") (by decide +kernel)
  have I1 := I.n
  refine lv_aload_n hx hb dX1_isOpen_0 rfl (lv_at hl 0 rfl) ?_
  refine lv_iload_n hx hb dX1_isOpen_1 rfl (lv_at hl 1 rfl) ?_
  refine f_cVi (As := [.int x]) (rest := []) ⟨hx, hb, hml, hown, hts⟩ (c_X1_hasBegun l dC dI ad cy S x I) (cwV 1 hts gX1_isOpen_X1_hasBegun rfl rfl rfl (by decide +kernel) ⟨Nat.le_of_ble_eq_true rfl, Nat.le_of_ble_eq_true rfl⟩) roB_bl (va_recv hK hP (ci := 2) (q0 := 0) rfl rfl) (roB_at hP hK) rfl hl.1 rfl (Nat.le_of_ble_eq_true rfl) dX1_isOpen_2 ⟨Nat.zero_le _, Nat.zero_le _⟩ ?_
  refine f_beq (tgt := 22) hx hb dX1_isOpen_5 (by decide) (fun c_1 => ?_) (fun c_1 => ?_)
  · refine lv_iconst (v := (nI 0)) hx hb dX1_isOpen_22 (by decide) ?_
    exact f_r0 hx hb hr hlocks (by first | (simp [isOp, c_1]; done) | (rw [← Bool.not_eq_true]; simp [isOp, ht, c_1] <;> omega)) dX1_isOpen_23
  · obtain ⟨h, hh, rfl⟩ : ∃ h : Nat, h ≤ sHh S ∧ x = nI h := by
      simp only [isBg, Bool.and_eq_true, decide_eq_true_eq] at c_1
      obtain ⟨h, h1, h2⟩ := in_nI (n := sHh S + 1) (x := x) (by omega) (by omega)
      exact ⟨h, by omega, h2⟩
    have ht := nI_toInt (n := h) (by omega)
    refine lv_aload_n hx hb dX1_isOpen_8 rfl (lv_at hl 0 rfl) ?_
    refine va_get (D := (dC, dI)) (ci := 2) (v := .int (nI (sHh S))) (C := RX1) (T := TX1) (N := 14) hx hb hts hin hown hK hP 0 rfl rfl 5 (by decide) hf_35 (fun _ h9 => h9) rfl dX1_isOpen_9 ?_
    refine lv_iload_n hx hb dX1_isOpen_12 rfl (lv_at hl 1 rfl) ?_
    refine lv_isub hx hb dX1_isOpen_13 ?_
    refine lv_iconst (v := (nI 1)) hx hb dX1_isOpen_14 (by decide) ?_
    refine f_igt (tgt := 22) hx hb (pk_sub_toInt (by omega) (by omega)) (nI_toInt (by omega)) dX1_isOpen_15 (by decide) (fun c_2 => ?_) (fun c_2 => ?_)
    · refine lv_iconst (v := (nI 0)) hx hb dX1_isOpen_22 (by decide) ?_
      exact f_r0 hx hb hr hlocks (by first | (simp [isOp, c_1]; done) | (rw [← Bool.not_eq_true]; simp [isOp, ht, c_1] <;> omega)) dX1_isOpen_23
    · refine lv_iconst (v := (nI 1)) hx hb dX1_isOpen_18 (by decide) ?_
      refine lv_goto (tgt := 23) hx hb dX1_isOpen_19 (by decide) ?_
      exact f_r1 hx hb hr hlocks (by simp [isOp, ht, c_1] <;> omega) dX1_isOpen_23

abbrev rm_X1_isTheMost : Room := { frames := 0, cells := 0, slots := 0, locals := 0 }
set_option maxHeartbeats 4000000 in
set_option maxRecDepth 100000 in
theorem c_X1_isTheMost (l : Launch) (dC : Nat → ClassId) (dI : Nat → Nat → Nat) (ad : Nat → Nat) (cy : Nat → ClassId) (S : St) (h : Nat) (w : Nat) (I : Inv S) (hh : h ≤ 40) (hw : w ≤ 300000000000) : RoI l yX1_isTheMost wsX1_isTheMost rm_X1_isTheMost [.ref (ad 0), .int (nI h), .long (lN w)] (xB dC dI ad cy S) (bI (mostF S h w)) := by
  refine Ro_start (cc := cX1_isTheMost) (maxL := 4) (ret := (some .boolean)) (lv := [(0, .ref (ad 0)), (1, .int (nI h)), (2, .long (lN w))]) (by decide) rfl (Nat.le_of_ble_eq_true rfl) rfl ?_
  intro pp ee ss mm aa bl me co hx hb hr hml hts hown hlocks hnm hB ls hl
  obtain ⟨hP, hK⟩ := hB
  have hin : ∀ w ∈ wsX10, w ∈ wsX1_isTheMost := fun w h => List.mem_cons_of_mem _ (List.mem_append_right _ h)
  have hf_41 := hts (.fieldLink RX1 41 "FaultEvidence" "totals" "[J") (by decide +kernel)
  have hc_205 := hts (.constantLong RX1 205 (3)) (by decide +kernel)
  have hc_207 := hts (.constantLong RX1 207 (2)) (by decide +kernel)
  have I1 := I.n
  have I2 := I.t h
  refine lv_ldc2 (v := 3) hx hb hown hc_205 dX1_isTheMost_0 ?_
  refine f_tl (y := (lN 3)) (by decide) ?_
  refine lv_lload_n hx hb dX1_isTheMost_3 rfl (lv_at hl 2 rfl) ?_
  refine lv_lmul hx hb dX1_isTheMost_4 ?_
  refine f_tl (y := (lN (3 * w))) (lN_mul _ _) ?_
  refine lv_ldc2 (v := 2) hx hb hown hc_207 dX1_isTheMost_5 ?_
  refine f_tl (y := (lN 2)) (by decide) ?_
  refine lv_aload_n hx hb dX1_isTheMost_8 rfl (lv_at hl 0 rfl) ?_
  refine va_get (D := (dC, dI)) (ci := 2) (v := .ref (ad 6)) (C := RX1) (T := TX1) (N := 14) hx hb hts hin hown hK hP 0 rfl rfl 7 (by decide) hf_41 (fun _ h9 => h9) rfl dX1_isTheMost_9 ?_
  refine lv_iload_n hx hb dX1_isTheMost_12 rfl (lv_at hl 1 rfl) ?_
  refine f_lald hx hb hK hP 6 5 rfl rfl (k := h) (by omega) (by decide) (v := (lN (sTot S h))) rfl dX1_isTheMost_13 ?_
  refine lv_lmul hx hb dX1_isTheMost_14 ?_
  refine f_tl (y := (lN (2 * (sTot S h)))) (lN_mul _ _) ?_
  refine f_lle (tgt := 23) hx hb (pk_lT (by omega)) (pk_lT (by omega)) dX1_isTheMost_15 dX1_isTheMost_16 (by decide) (fun c_1 => ?_) (fun c_1 => ?_)
  · refine lv_iconst (v := (nI 0)) hx hb dX1_isTheMost_23 (by decide) ?_
    exact f_r0 hx hb hr hlocks (by rw [← Bool.not_eq_true]; simp only [mostF, Bool.and_eq_true, Bool.or_eq_true, Bool.not_eq_true', decide_eq_true_eq]; omega) dX1_isTheMost_24
  · refine lv_iconst (v := (nI 1)) hx hb dX1_isTheMost_19 (by decide) ?_
    refine lv_goto (tgt := 24) hx hb dX1_isTheMost_20 (by decide) ?_
    exact f_r1 hx hb hr hlocks (by simp only [mostF, Bool.and_eq_true, Bool.or_eq_true, Bool.not_eq_true', decide_eq_true_eq]; omega) dX1_isTheMost_24

abbrev rm_X1_isBacked : Room := { frames := 1, cells := 0, slots := 0, locals := 21 }
set_option maxHeartbeats 4000000 in
set_option maxRecDepth 100000 in
theorem c_X1_isBacked (l : Launch) (dC : Nat → ClassId) (dI : Nat → Nat → Nat) (ad : Nat → Nat) (cy : Nat → ClassId) (S : St) (h : Nat) (r : Nat) (b : Nat) (I : Inv S) (hh : h ≤ 40) (hr1 : r < 8) (hb1 : b < 10) : RoI l yX1_isBacked wsX1_isBacked rm_X1_isBacked [.ref (ad 0), .int (nI h), .int (nI r), .int (nI b)] (xB dC dI ad cy S) (bI (bkF S h r b)) := by
  refine Ro_start (cc := cX1_isBacked) (maxL := 4) (ret := (some .boolean)) (lv := [(0, .ref (ad 0)), (1, .int (nI h)), (2, .int (nI r)), (3, .int (nI b))]) (by decide) rfl (Nat.le_of_ble_eq_true rfl) rfl ?_
  intro pp ee ss mm aa bl me co hx hb hr hml hts hown hlocks hnm hB ls hl
  obtain ⟨hP, hK⟩ := hB
  have hin : ∀ w ∈ wsX10, w ∈ wsX1_isBacked := fun w h => List.mem_cons_of_mem _ (List.mem_append_right _ h)
  have hf_51 := hts (.fieldLink RX1 51 "FaultEvidence" "backedBlocks" "[I") (by decide +kernel)
  have I1 := I.n
  have I2 := bb_lt S (h * 8 + r)
  refine lv_aload_n hx hb dX1_isBacked_0 rfl (lv_at hl 0 rfl) ?_
  refine va_get (D := (dC, dI)) (ci := 2) (v := .ref (ad 8)) (C := RX1) (T := TX1) (N := 14) hx hb hts hin hown hK hP 0 rfl rfl 10 (by decide) hf_51 (fun _ h9 => h9) rfl dX1_isBacked_1 ?_
  refine lv_iload_n hx hb dX1_isBacked_4 rfl (lv_at hl 1 rfl) ?_
  refine lv_bipush (v := (nI 8)) hx hb dX1_isBacked_5 (by decide) ?_
  refine lv_imul hx hb dX1_isBacked_7 ?_
  refine f_ti (y := (nI (h * 8))) (pk_mul _ _) ?_
  refine lv_iload_n hx hb dX1_isBacked_8 rfl (lv_at hl 2 rfl) ?_
  refine lv_iadd hx hb dX1_isBacked_9 ?_
  refine f_ti (y := (nI ((h * 8) + r))) (nI_add _ _) ?_
  refine f_iald hx hb hK hP 8 7 rfl rfl (k := ((h * 8) + r)) (by omega) (by decide) (v := (nI (bbF S ((h * 8) + r)))) rfl dX1_isBacked_10 ?_
  refine lv_iload_n hx hb dX1_isBacked_11 rfl (lv_at hl 3 rfl) ?_
  refine f_cSi (As := [.int (nI (bbF S ((h * 8) + r))), .int (nI b)]) (rest := []) ⟨hx, hb, hml, hown, hts⟩ (c_X1_hasBlock l (bbF S ((h * 8) + r)) b (by omega) (by omega)) (va_cwS 2 hts gX1_isBacked_X1_hasBlock rfl rfl rfl (by decide +kernel) ⟨Nat.le_of_ble_eq_true rfl, Nat.le_of_ble_eq_true rfl⟩) noB_bl noB_at rfl hl.1 rfl (Nat.le_of_ble_eq_true rfl) dX1_isBacked_12 ⟨Nat.zero_le _, Nat.zero_le _⟩ ?_
  exact f_rb hx hb hr hlocks (bb_at S hr1 hb1) dX1_isBacked_15
end
section
abbrev rm_X1_isUnlocked : Room := { frames := 2, cells := 0, slots := 0, locals := 44 }
set_option maxHeartbeats 4000000 in
set_option maxRecDepth 100000 in
theorem c_X1_isUnlocked (l : Launch) (dC : Nat → ClassId) (dI : Nat → Nat → Nat) (ad : Nat → Nat) (cy : Nat → ClassId) (S : St) (h : Nat) (b : Nat) (f : Nat) (t : Nat) (I : Inv S) (hh : h ≤ 40) (hb1 : b < 10) (hf : f ≤ 8) (ht : t ≤ 8) : RoI l yX1_isUnlocked wsX1_isUnlocked rm_X1_isUnlocked [.ref (ad 0), .int (nI h), .int (nI b), .int (nI f), .int (nI t)] (xB dC dI ad cy S) (bI (ulF S h b f t)) := by
  refine Ro_start (cc := cX1_isUnlocked) (maxL := 6) (ret := (some .boolean)) (lv := [(0, .ref (ad 0)), (1, .int (nI h)), (2, .int (nI b)), (3, .int (nI f)), (4, .int (nI t))]) (by decide) rfl (Nat.le_of_ble_eq_true rfl) rfl ?_
  intro pp ee ss mm aa bl me co hx hb hr hml hts hown hlocks hnm hB ls hl
  obtain ⟨hP, hK⟩ := hB
  refine lv_iload_n hx hb dX1_isUnlocked_0 rfl (lv_at hl 3 rfl) ?_
  refine lv_istore (lv' := [(5, .int (nI f)), (0, .ref (ad 0)), (1, .int (nI h)), (2, .int (nI b)), (3, .int (nI f)), (4, .int (nI t))]) hx hb dX1_isUnlocked_1 hl (by decide) rfl (fun ls hl => ?_)
  have loop_3 : ∀ (n : Nat) (q : Nat), t - q < n → (∀ i, i < q → ulT S h b f i = false) → f ≤ q → q ≤ 8 → ∀ ls : Array Slot, lv_has ls 6 [(5, .int (nI q)), (0, .ref (ad 0)), (1, .int (nI h)), (2, .int (nI b)), (3, .int (nI f)), (4, .int (nI t))] → W pp l ee rm_X1_isUnlocked ss mm aa bl me co ss.heap [] 0 0 (MQ bl (vp_Si (fun r => r = bI (ulF S h b f t))) aa ss 0 0 (fun _ => False)) (F0 mm 3 ls []) := by
    intro n
    induction n with
    | zero => intro q hm; exact absurd hm (Nat.not_lt_zero _)
    | succ n ih =>
      intro q hm hno hq hq2 ls hl
      refine lv_iload hx hb dX1_isUnlocked_3 (lv_at hl 0 rfl) ?_
      refine lv_iload hx hb dX1_isUnlocked_5 (lv_at hl 5 rfl) ?_
      refine f_ige (tgt := 29) hx hb (nI_toInt (by omega)) (nI_toInt (by omega)) dX1_isUnlocked_7 (by decide) (fun c_1 => ?_) (fun c_1 => ?_)
      · refine lv_iconst (v := (nI 0)) hx hb dX1_isUnlocked_29 (by decide) ?_
        exact f_r0 hx hb hr hlocks (ex_no (fun i hi => hno i (by omega))) dX1_isUnlocked_30
      · refine lv_aload_n hx hb dX1_isUnlocked_10 rfl (lv_at hl 1 rfl) ?_
        refine lv_iload_n hx hb dX1_isUnlocked_11 rfl (lv_at hl 2 rfl) ?_
        refine lv_iload hx hb dX1_isUnlocked_12 (lv_at hl 0 rfl) ?_
        refine lv_iload_n hx hb dX1_isUnlocked_14 rfl (lv_at hl 3 rfl) ?_
        refine f_cVi (As := [.int (nI h), .int (nI q), .int (nI b)]) (rest := []) ⟨hx, hb, hml, hown, hts⟩ (c_X1_isBacked l dC dI ad cy S h q b I (by omega) (by omega) (by omega)) (cwV 3 hts gX1_isUnlocked_X1_isBacked rfl rfl rfl (by decide +kernel) ⟨Nat.le_of_ble_eq_true rfl, Nat.le_of_ble_eq_true rfl⟩) roB_bl (va_recv hK hP (ci := 2) (q0 := 0) rfl rfl) (roB_at hP hK) rfl hl.1 rfl (Nat.le_of_ble_eq_true rfl) dX1_isUnlocked_15 ⟨Nat.zero_le _, Nat.zero_le _⟩ ?_
        refine f_beq (tgt := 23) hx hb dX1_isUnlocked_18 (by decide) (fun c_2 => ?_) (fun c_2 => ?_)
        · refine lv_iinc (v := (nI (q + 1))) (lv' := [(5, .int (nI (q + 1))), (0, .ref (ad 0)), (1, .int (nI h)), (2, .int (nI b)), (3, .int (nI f)), (4, .int (nI t))]) hx hb dX1_isUnlocked_23 hl (k := 0) rfl (nI_add q 1) (by decide) rfl (fun ls hl => ?_)
          refine lv_goto (tgt := 3) hx hb dX1_isUnlocked_26 (by decide) ?_
          exact ih (q + 1) (by omega) (lt_s hno (by simp [ulT, c_2])) (by omega) (by omega) ls (lv_sub hl [0, 1, 2, 3, 4, 5] rfl)
        · refine lv_iconst (v := (nI 1)) hx hb dX1_isUnlocked_21 (by decide) ?_
          exact f_r1 hx hb hr hlocks (ex_yes q (by omega) (by simp [ulT, hq, c_2])) dX1_isUnlocked_22
  exact loop_3 (t - f + 1) f (Nat.lt_succ_self _) (fun i hi => (by have e : ¬ f ≤ i := (by omega); simp [ulT, e])) (Nat.le_refl _) (by omega) ls (lv_sub hl [0, 1, 2, 3, 4, 5] rfl)

abbrev rm_X1_isLock : Room := { frames := 3, cells := 0, slots := 0, locals := 69 }
set_option maxHeartbeats 4000000 in
set_option maxRecDepth 100000 in
theorem c_X1_isLock (l : Launch) (dC : Nat → ClassId) (dI : Nat → Nat → Nat) (ad : Nat → Nat) (cy : Nat → ClassId) (S : St) (c : Nat) (d : Nat) (I : Inv S) (hc : c < 83968) (hc1 : c % 16 < 10) (hd : d < 83968) (hd1 : d % 16 < 10) : RoI l yX1_isLock wsX1_isLock rm_X1_isLock [.ref (ad 0), .int (nI c), .int (nI d)] (xB dC dI ad cy S) (bI (lkF S c d)) := by
  refine Ro_start (cc := cX1_isLock) (maxL := 4) (ret := (some .boolean)) (lv := [(0, .ref (ad 0)), (1, .int (nI c)), (2, .int (nI d))]) (by decide) rfl (Nat.le_of_ble_eq_true rfl) rfl ?_
  intro pp ee ss mm aa bl me co hx hb hr hml hts hown hlocks hnm hB ls hl
  obtain ⟨hP, hK⟩ := hB
  refine lv_iload_n hx hb dX1_isLock_0 rfl (lv_at hl 1 rfl) ?_
  refine f_cSi (As := [.int (nI c)]) (rest := []) ⟨hx, hb, hml, hown, hts⟩ (c_X1_isLocking l c (by omega)) (va_cwS 1 hts gX1_isLock_X1_isLocking rfl rfl rfl (by decide +kernel) ⟨Nat.le_of_ble_eq_true rfl, Nat.le_of_ble_eq_true rfl⟩) noB_bl noB_at rfl hl.1 rfl (Nat.le_of_ble_eq_true rfl) dX1_isLock_1 ⟨Nat.zero_le _, Nat.zero_le _⟩ ?_
  refine f_beq (tgt := 29) hx hb dX1_isLock_4 (by decide) (fun c_1 => ?_) (fun c_1 => ?_)
  · refine lv_iconst (v := (nI 0)) hx hb dX1_isLock_29 (by decide) ?_
    exact f_r0 hx hb hr hlocks (by rw [← Bool.not_eq_true]; simp [lkF, c_1] <;> omega) dX1_isLock_30
  · refine lv_iload_n hx hb dX1_isLock_7 rfl (lv_at hl 1 rfl) ?_
    refine f_cSi (As := [.int (nI c)]) (rest := []) ⟨hx, hb, hml, hown, hts⟩ (c_X1_voterOf l c (by omega)) (va_cwS 1 hts gX1_isLock_X1_voterOf rfl rfl rfl (by decide +kernel) ⟨Nat.le_of_ble_eq_true rfl, Nat.le_of_ble_eq_true rfl⟩) noB_bl noB_at rfl hl.1 rfl (Nat.le_of_ble_eq_true rfl) dX1_isLock_8 ⟨Nat.zero_le _, Nat.zero_le _⟩ ?_
    refine lv_iload_n hx hb dX1_isLock_11 rfl (lv_at hl 2 rfl) ?_
    refine f_cSi (As := [.int (nI d)]) (rest := [.int (nI (c / 256))]) ⟨hx, hb, hml, hown, hts⟩ (c_X1_voterOf l d (by omega)) (va_cwS 1 hts gX1_isLock_X1_voterOf rfl rfl rfl (by decide +kernel) ⟨Nat.le_of_ble_eq_true rfl, Nat.le_of_ble_eq_true rfl⟩) noB_bl noB_at rfl hl.1 rfl (Nat.le_of_ble_eq_true rfl) dX1_isLock_12 ⟨Nat.zero_le _, Nat.zero_le _⟩ ?_
    refine f_ine (tgt := 29) hx hb (nI_toInt (by omega)) (nI_toInt (by omega)) dX1_isLock_15 (by decide) (fun c_2 => ?_) (fun c_2 => ?_)
    · refine lv_iconst (v := (nI 0)) hx hb dX1_isLock_29 (by decide) ?_
      exact f_r0 hx hb hr hlocks (by rw [← Bool.not_eq_true]; simp [lkF, c_1] <;> omega) dX1_isLock_30
    · refine lv_iload_n hx hb dX1_isLock_18 rfl (lv_at hl 1 rfl) ?_
      refine f_cSi (As := [.int (nI c)]) (rest := []) ⟨hx, hb, hml, hown, hts⟩ (c_X1_roundOf l c (by omega)) (va_cwS 1 hts gX1_isLock_X1_roundOf rfl rfl rfl (by decide +kernel) ⟨Nat.le_of_ble_eq_true rfl, Nat.le_of_ble_eq_true rfl⟩) noB_bl noB_at rfl hl.1 rfl (Nat.le_of_ble_eq_true rfl) dX1_isLock_19 ⟨Nat.zero_le _, Nat.zero_le _⟩ ?_
      refine lv_iload_n hx hb dX1_isLock_22 rfl (lv_at hl 2 rfl) ?_
      refine f_cSi (As := [.int (nI d)]) (rest := [.int (nI (c / 32 % 8))]) ⟨hx, hb, hml, hown, hts⟩ (c_X1_roundOf l d (by omega)) (va_cwS 1 hts gX1_isLock_X1_roundOf rfl rfl rfl (by decide +kernel) ⟨Nat.le_of_ble_eq_true rfl, Nat.le_of_ble_eq_true rfl⟩) noB_bl noB_at rfl hl.1 rfl (Nat.le_of_ble_eq_true rfl) dX1_isLock_23 ⟨Nat.zero_le _, Nat.zero_le _⟩ ?_
      refine f_ilt (tgt := 31) hx hb (nI_toInt (by omega)) (nI_toInt (by omega)) dX1_isLock_26 (by decide) (fun c_3 => ?_) (fun c_3 => ?_)
      · refine lv_iload_n hx hb dX1_isLock_31 rfl (lv_at hl 2 rfl) ?_
        refine f_cSi (As := [.int (nI d)]) (rest := []) ⟨hx, hb, hml, hown, hts⟩ (c_X1_blockOf l d (by omega)) (va_cwS 1 hts gX1_isLock_X1_blockOf rfl rfl rfl (by decide +kernel) ⟨Nat.le_of_ble_eq_true rfl, Nat.le_of_ble_eq_true rfl⟩) noB_bl noB_at rfl hl.1 rfl (Nat.le_of_ble_eq_true rfl) dX1_isLock_32 ⟨Nat.zero_le _, Nat.zero_le _⟩ ?_
        refine lv_istore_n (lv' := [(3, .int (nI (d % 16))), (0, .ref (ad 0)), (1, .int (nI c)), (2, .int (nI d))]) hx hb dX1_isLock_35 rfl hl (by decide) rfl (fun ls hl => ?_)
        refine lv_iload_n hx hb dX1_isLock_36 rfl (lv_at hl 3 rfl) ?_
        refine f_cSi (As := [.int (nI d)]) (rest := []) ⟨hx, hb, hml, hown, hts⟩ (c_X1_stepOf l d (by omega)) (va_cwS 1 hts gX1_isLock_X1_stepOf rfl rfl rfl (by decide +kernel) ⟨Nat.le_of_ble_eq_true rfl, Nat.le_of_ble_eq_true rfl⟩) noB_bl noB_at rfl hl.1 rfl (Nat.le_of_ble_eq_true rfl) dX1_isLock_37 ⟨Nat.zero_le _, Nat.zero_le _⟩ ?_
        refine f_0ne (tgt := 55) hx hb (nI_toInt (by omega)) dX1_isLock_40 (by decide) (fun c_4 => ?_) (fun c_4 => ?_)
        · refine lv_iconst (v := (nI 0)) hx hb dX1_isLock_55 (by decide) ?_
          exact f_r0 hx hb hr hlocks (by rw [← Bool.not_eq_true]; simp [lkF, c_1] <;> omega) dX1_isLock_56
        · refine lv_iload_n hx hb dX1_isLock_43 rfl (lv_at hl 0 rfl) ?_
          refine f_0eq (tgt := 55) hx hb (nI_toInt (by omega)) dX1_isLock_44 (by decide) (fun c_5 => ?_) (fun c_5 => ?_)
          · refine lv_iconst (v := (nI 0)) hx hb dX1_isLock_55 (by decide) ?_
            exact f_r0 hx hb hr hlocks (by rw [← Bool.not_eq_true]; simp [lkF, c_1] <;> omega) dX1_isLock_56
          · refine lv_iload_n hx hb dX1_isLock_47 rfl (lv_at hl 0 rfl) ?_
            refine lv_iload_n hx hb dX1_isLock_48 rfl (lv_at hl 2 rfl) ?_
            refine f_cSi (As := [.int (nI c)]) (rest := [.int (nI (d % 16))]) ⟨hx, hb, hml, hown, hts⟩ (c_X1_blockOf l c (by omega)) (va_cwS 1 hts gX1_isLock_X1_blockOf rfl rfl rfl (by decide +kernel) ⟨Nat.le_of_ble_eq_true rfl, Nat.le_of_ble_eq_true rfl⟩) noB_bl noB_at rfl hl.1 rfl (Nat.le_of_ble_eq_true rfl) dX1_isLock_49 ⟨Nat.zero_le _, Nat.zero_le _⟩ ?_
            refine f_ine (tgt := 57) hx hb (nI_toInt (by omega)) (nI_toInt (by omega)) dX1_isLock_52 (by decide) (fun c_6 => ?_) (fun c_6 => ?_)
            · refine lv_aload_n hx hb dX1_isLock_57 rfl (lv_at hl 1 rfl) ?_
              refine lv_iload_n hx hb dX1_isLock_58 rfl (lv_at hl 3 rfl) ?_
              refine f_cSi (As := [.int (nI d)]) (rest := [.ref (ad 0)]) ⟨hx, hb, hml, hown, hts⟩ (c_X1_heightOf l d (by omega)) (va_cwS 1 hts gX1_isLock_X1_heightOf rfl rfl rfl (by decide +kernel) ⟨Nat.le_of_ble_eq_true rfl, Nat.le_of_ble_eq_true rfl⟩) noB_bl noB_at rfl hl.1 rfl (Nat.le_of_ble_eq_true rfl) dX1_isLock_59 ⟨Nat.zero_le _, Nat.zero_le _⟩ ?_
              refine lv_iload_n hx hb dX1_isLock_62 rfl (lv_at hl 0 rfl) ?_
              refine lv_iload_n hx hb dX1_isLock_63 rfl (lv_at hl 2 rfl) ?_
              refine f_cSi (As := [.int (nI c)]) (rest := [.int (nI (d % 16)), .int (nI (d / 2048)), .ref (ad 0)]) ⟨hx, hb, hml, hown, hts⟩ (c_X1_roundOf l c (by omega)) (va_cwS 1 hts gX1_isLock_X1_roundOf rfl rfl rfl (by decide +kernel) ⟨Nat.le_of_ble_eq_true rfl, Nat.le_of_ble_eq_true rfl⟩) noB_bl noB_at rfl hl.1 rfl (Nat.le_of_ble_eq_true rfl) dX1_isLock_64 ⟨Nat.zero_le _, Nat.zero_le _⟩ ?_
              refine lv_iload_n hx hb dX1_isLock_67 rfl (lv_at hl 3 rfl) ?_
              refine f_cSi (As := [.int (nI d)]) (rest := [.int (nI (c / 32 % 8)), .int (nI (d % 16)), .int (nI (d / 2048)), .ref (ad 0)]) ⟨hx, hb, hml, hown, hts⟩ (c_X1_roundOf l d (by omega)) (va_cwS 1 hts gX1_isLock_X1_roundOf rfl rfl rfl (by decide +kernel) ⟨Nat.le_of_ble_eq_true rfl, Nat.le_of_ble_eq_true rfl⟩) noB_bl noB_at rfl hl.1 rfl (Nat.le_of_ble_eq_true rfl) dX1_isLock_68 ⟨Nat.zero_le _, Nat.zero_le _⟩ ?_
              refine f_cVi (As := [.int (nI (d / 2048)), .int (nI (d % 16)), .int (nI (c / 32 % 8)), .int (nI (d / 32 % 8))]) (rest := []) ⟨hx, hb, hml, hown, hts⟩ (c_X1_isUnlocked l dC dI ad cy S (d / 2048) (d % 16) (c / 32 % 8) (d / 32 % 8) I (by omega) (by omega) (by omega) (by omega)) (cwV 4 hts gX1_isLock_X1_isUnlocked rfl rfl rfl (by decide +kernel) ⟨Nat.le_of_ble_eq_true rfl, Nat.le_of_ble_eq_true rfl⟩) roB_bl (va_recv hK hP (ci := 2) (q0 := 0) rfl rfl) (roB_at hP hK) rfl hl.1 rfl (Nat.le_of_ble_eq_true rfl) dX1_isLock_71 ⟨Nat.zero_le _, Nat.zero_le _⟩ ?_
              refine f_bne (tgt := 81) hx hb dX1_isLock_74 (by decide) (fun c_7 => ?_) (fun c_7 => ?_)
              · refine lv_iconst (v := (nI 0)) hx hb dX1_isLock_81 (by decide) ?_
                exact f_r0 hx hb hr hlocks (by rw [← Bool.not_eq_true]; simp [lkF, c_1, c_7] <;> omega) dX1_isLock_82
              · refine lv_iconst (v := (nI 1)) hx hb dX1_isLock_77 (by decide) ?_
                refine lv_goto (tgt := 82) hx hb dX1_isLock_78 (by decide) ?_
                exact f_r1 hx hb hr hlocks (by simp [lkF, c_1, c_7] <;> omega) dX1_isLock_82
            · refine lv_iconst (v := (nI 0)) hx hb dX1_isLock_55 (by decide) ?_
              exact f_r0 hx hb hr hlocks (by rw [← Bool.not_eq_true]; simp [lkF, c_1] <;> omega) dX1_isLock_56
      · refine lv_iconst (v := (nI 0)) hx hb dX1_isLock_29 (by decide) ?_
        exact f_r0 hx hb hr hlocks (by rw [← Bool.not_eq_true]; simp [lkF, c_1] <;> omega) dX1_isLock_30

abbrev rm_X1_isBare : Room := { frames := 2, cells := 0, slots := 0, locals := 44 }
set_option maxHeartbeats 4000000 in
set_option maxRecDepth 100000 in
theorem c_X1_isBare (l : Launch) (dC : Nat → ClassId) (dI : Nat → Nat → Nat) (ad : Nat → Nat) (cy : Nat → ClassId) (S : St) (c : Nat) (I : Inv S) (hc : c < 83968) (hc1 : c % 16 < 10) : RoI l yX1_isBare wsX1_isBare rm_X1_isBare [.ref (ad 0), .int (nI c)] (xB dC dI ad cy S) (bI (brF S c)) := by
  refine Ro_start (cc := cX1_isBare) (maxL := 2) (ret := (some .boolean)) (lv := [(0, .ref (ad 0)), (1, .int (nI c))]) (by decide) rfl (Nat.le_of_ble_eq_true rfl) rfl ?_
  intro pp ee ss mm aa bl me co hx hb hr hml hts hown hlocks hnm hB ls hl
  obtain ⟨hP, hK⟩ := hB
  refine lv_iload_n hx hb dX1_isBare_0 rfl (lv_at hl 1 rfl) ?_
  refine f_cSi (As := [.int (nI c)]) (rest := []) ⟨hx, hb, hml, hown, hts⟩ (c_X1_isLocking l c (by omega)) (va_cwS 1 hts gX1_isBare_X1_isLocking rfl rfl rfl (by decide +kernel) ⟨Nat.le_of_ble_eq_true rfl, Nat.le_of_ble_eq_true rfl⟩) noB_bl noB_at rfl hl.1 rfl (Nat.le_of_ble_eq_true rfl) dX1_isBare_1 ⟨Nat.zero_le _, Nat.zero_le _⟩ ?_
  refine f_beq (tgt := 30) hx hb dX1_isBare_4 (by decide) (fun c_1 => ?_) (fun c_1 => ?_)
  · refine lv_iconst (v := (nI 0)) hx hb dX1_isBare_30 (by decide) ?_
    exact f_r0 hx hb hr hlocks (by rw [← Bool.not_eq_true]; simp [brF, c_1] <;> omega) dX1_isBare_31
  · refine lv_aload_n hx hb dX1_isBare_7 rfl (lv_at hl 0 rfl) ?_
    refine lv_iload_n hx hb dX1_isBare_8 rfl (lv_at hl 1 rfl) ?_
    refine f_cSi (As := [.int (nI c)]) (rest := [.ref (ad 0)]) ⟨hx, hb, hml, hown, hts⟩ (c_X1_heightOf l c (by omega)) (va_cwS 1 hts gX1_isBare_X1_heightOf rfl rfl rfl (by decide +kernel) ⟨Nat.le_of_ble_eq_true rfl, Nat.le_of_ble_eq_true rfl⟩) noB_bl noB_at rfl hl.1 rfl (Nat.le_of_ble_eq_true rfl) dX1_isBare_9 ⟨Nat.zero_le _, Nat.zero_le _⟩ ?_
    refine lv_iload_n hx hb dX1_isBare_12 rfl (lv_at hl 1 rfl) ?_
    refine f_cSi (As := [.int (nI c)]) (rest := [.int (nI (c / 2048)), .ref (ad 0)]) ⟨hx, hb, hml, hown, hts⟩ (c_X1_roundOf l c (by omega)) (va_cwS 1 hts gX1_isBare_X1_roundOf rfl rfl rfl (by decide +kernel) ⟨Nat.le_of_ble_eq_true rfl, Nat.le_of_ble_eq_true rfl⟩) noB_bl noB_at rfl hl.1 rfl (Nat.le_of_ble_eq_true rfl) dX1_isBare_13 ⟨Nat.zero_le _, Nat.zero_le _⟩ ?_
    refine lv_iload_n hx hb dX1_isBare_16 rfl (lv_at hl 1 rfl) ?_
    refine f_cSi (As := [.int (nI c)]) (rest := [.int (nI (c / 32 % 8)), .int (nI (c / 2048)), .ref (ad 0)]) ⟨hx, hb, hml, hown, hts⟩ (c_X1_blockOf l c (by omega)) (va_cwS 1 hts gX1_isBare_X1_blockOf rfl rfl rfl (by decide +kernel) ⟨Nat.le_of_ble_eq_true rfl, Nat.le_of_ble_eq_true rfl⟩) noB_bl noB_at rfl hl.1 rfl (Nat.le_of_ble_eq_true rfl) dX1_isBare_17 ⟨Nat.zero_le _, Nat.zero_le _⟩ ?_
    refine f_cVi (As := [.int (nI (c / 2048)), .int (nI (c / 32 % 8)), .int (nI (c % 16))]) (rest := []) ⟨hx, hb, hml, hown, hts⟩ (c_X1_isBacked l dC dI ad cy S (c / 2048) (c / 32 % 8) (c % 16) I (by omega) (by omega) (by omega)) (cwV 3 hts gX1_isBare_X1_isBacked rfl rfl rfl (by decide +kernel) ⟨Nat.le_of_ble_eq_true rfl, Nat.le_of_ble_eq_true rfl⟩) roB_bl (va_recv hK hP (ci := 2) (q0 := 0) rfl rfl) (roB_at hP hK) rfl hl.1 rfl (Nat.le_of_ble_eq_true rfl) dX1_isBare_20 ⟨Nat.zero_le _, Nat.zero_le _⟩ ?_
    refine f_bne (tgt := 30) hx hb dX1_isBare_23 (by decide) (fun c_2 => ?_) (fun c_2 => ?_)
    · refine lv_iconst (v := (nI 0)) hx hb dX1_isBare_30 (by decide) ?_
      exact f_r0 hx hb hr hlocks (by rw [← Bool.not_eq_true]; simp [brF, c_1, c_2] <;> omega) dX1_isBare_31
    · refine lv_iconst (v := (nI 1)) hx hb dX1_isBare_26 (by decide) ?_
      refine lv_goto (tgt := 31) hx hb dX1_isBare_27 (by decide) ?_
      exact f_r1 hx hb hr hlocks (by simp [brF, c_1, c_2] <;> omega) dX1_isBare_31

abbrev rm_X1_isPair : Room := { frames := 4, cells := 0, slots := 0, locals := 92 }
set_option maxHeartbeats 4000000 in
set_option maxRecDepth 100000 in
theorem c_X1_isPair (l : Launch) (dC : Nat → ClassId) (dI : Nat → Nat → Nat) (ad : Nat → Nat) (cy : Nat → ClassId) (S : St) (q : Nat) (c : Nat) (d : Nat) (I : Inv S) (hq : q < 3) (hc : c < 83968) (hc1 : c % 16 < 10) (hd : d < 83968) (hd1 : d % 16 < 10) : RoI l yX1_isPair wsX1_isPair rm_X1_isPair [.ref (ad 0), .int (nI q), .int (nI c), .int (nI d)] (xB dC dI ad cy S) (bI (prF S q c d)) := by
  refine Ro_start (cc := cX1_isPair) (maxL := 4) (ret := (some .boolean)) (lv := [(0, .ref (ad 0)), (1, .int (nI q)), (2, .int (nI c)), (3, .int (nI d))]) (by decide) rfl (Nat.le_of_ble_eq_true rfl) rfl ?_
  intro pp ee ss mm aa bl me co hx hb hr hml hts hown hlocks hnm hB ls hl
  obtain ⟨hP, hK⟩ := hB
  refine lv_iload_n hx hb dX1_isPair_0 rfl (lv_at hl 1 rfl) ?_
  refine f_0ne (tgt := 12) hx hb (nI_toInt (by omega)) dX1_isPair_1 (by decide) (fun c_1 => ?_) (fun c_1 => ?_)
  · refine lv_aload_n hx hb dX1_isPair_12 rfl (lv_at hl 0 rfl) ?_
    refine lv_iload_n hx hb dX1_isPair_13 rfl (lv_at hl 2 rfl) ?_
    refine lv_iload_n hx hb dX1_isPair_14 rfl (lv_at hl 3 rfl) ?_
    refine f_cVi (As := [.int (nI c), .int (nI d)]) (rest := []) ⟨hx, hb, hml, hown, hts⟩ (c_X1_isLock l dC dI ad cy S c d I (by omega) (by omega) (by omega) (by omega)) (cwV 2 hts gX1_isPair_X1_isLock rfl rfl rfl (by decide +kernel) ⟨Nat.le_of_ble_eq_true rfl, Nat.le_of_ble_eq_true rfl⟩) roB_bl (va_recv hK hP (ci := 2) (q0 := 0) rfl rfl) (roB_at hP hK) rfl hl.1 rfl (Nat.le_of_ble_eq_true rfl) dX1_isPair_15 ⟨Nat.zero_le _, Nat.zero_le _⟩ ?_
    exact f_rb hx hb hr hlocks (by unfold prF; split <;> first | rfl | (exfalso; omega)) dX1_isPair_18
  · refine lv_iload_n hx hb dX1_isPair_4 rfl (lv_at hl 2 rfl) ?_
    refine lv_iload_n hx hb dX1_isPair_5 rfl (lv_at hl 3 rfl) ?_
    refine f_cSi (As := [.int (nI c), .int (nI d)]) (rest := []) ⟨hx, hb, hml, hown, hts⟩ (c_X1_isTwice l c d (by omega) (by omega)) (va_cwS 2 hts gX1_isPair_X1_isTwice rfl rfl rfl (by decide +kernel) ⟨Nat.le_of_ble_eq_true rfl, Nat.le_of_ble_eq_true rfl⟩) noB_bl noB_at rfl hl.1 rfl (Nat.le_of_ble_eq_true rfl) dX1_isPair_6 ⟨Nat.zero_le _, Nat.zero_le _⟩ ?_
    refine lv_goto (tgt := 18) hx hb dX1_isPair_9 (by decide) ?_
    exact f_rb hx hb hr hlocks (by unfold prF; split <;> first | rfl | (exfalso; omega)) dX1_isPair_18

abbrev rm_X1_isClash : Room := { frames := 4, cells := 0, slots := 0, locals := 92 }
set_option maxHeartbeats 4000000 in
set_option maxRecDepth 100000 in
theorem c_X1_isClash (l : Launch) (dC : Nat → ClassId) (dI : Nat → Nat → Nat) (ad : Nat → Nat) (cy : Nat → ClassId) (S : St) (c : Nat) (d : Nat) (I : Inv S) (hc : c < 83968) (hc1 : c % 16 < 10) (hd : d < 83968) (hd1 : d % 16 < 10) : RoI l yX1_isClash wsX1_isClash rm_X1_isClash [.ref (ad 0), .int (nI c), .int (nI d)] (xB dC dI ad cy S) (bI (clF S c d)) := by
  refine Ro_start (cc := cX1_isClash) (maxL := 3) (ret := (some .boolean)) (lv := [(0, .ref (ad 0)), (1, .int (nI c)), (2, .int (nI d))]) (by decide) rfl (Nat.le_of_ble_eq_true rfl) rfl ?_
  intro pp ee ss mm aa bl me co hx hb hr hml hts hown hlocks hnm hB ls hl
  obtain ⟨hP, hK⟩ := hB
  refine lv_iload_n hx hb dX1_isClash_0 rfl (lv_at hl 1 rfl) ?_
  refine lv_iload_n hx hb dX1_isClash_1 rfl (lv_at hl 2 rfl) ?_
  refine f_cSi (As := [.int (nI c), .int (nI d)]) (rest := []) ⟨hx, hb, hml, hown, hts⟩ (c_X1_isTwice l c d (by omega) (by omega)) (va_cwS 2 hts gX1_isClash_X1_isTwice rfl rfl rfl (by decide +kernel) ⟨Nat.le_of_ble_eq_true rfl, Nat.le_of_ble_eq_true rfl⟩) noB_bl noB_at rfl hl.1 rfl (Nat.le_of_ble_eq_true rfl) dX1_isClash_2 ⟨Nat.zero_le _, Nat.zero_le _⟩ ?_
  refine f_bne (tgt := 26) hx hb dX1_isClash_5 (by decide) (fun c_1 => ?_) (fun c_1 => ?_)
  · refine lv_iconst (v := (nI 1)) hx hb dX1_isClash_26 (by decide) ?_
    refine lv_goto (tgt := 31) hx hb dX1_isClash_27 (by decide) ?_
    exact f_r1 hx hb hr hlocks (by simp [clF, c_1] <;> omega) dX1_isClash_31
  · refine lv_aload_n hx hb dX1_isClash_8 rfl (lv_at hl 0 rfl) ?_
    refine lv_iload_n hx hb dX1_isClash_9 rfl (lv_at hl 1 rfl) ?_
    refine lv_iload_n hx hb dX1_isClash_10 rfl (lv_at hl 2 rfl) ?_
    refine f_cVi (As := [.int (nI c), .int (nI d)]) (rest := []) ⟨hx, hb, hml, hown, hts⟩ (c_X1_isLock l dC dI ad cy S c d I (by omega) (by omega) (by omega) (by omega)) (cwV 2 hts gX1_isClash_X1_isLock rfl rfl rfl (by decide +kernel) ⟨Nat.le_of_ble_eq_true rfl, Nat.le_of_ble_eq_true rfl⟩) roB_bl (va_recv hK hP (ci := 2) (q0 := 0) rfl rfl) (roB_at hP hK) rfl hl.1 rfl (Nat.le_of_ble_eq_true rfl) dX1_isClash_11 ⟨Nat.zero_le _, Nat.zero_le _⟩ ?_
    refine f_bne (tgt := 26) hx hb dX1_isClash_14 (by decide) (fun c_2 => ?_) (fun c_2 => ?_)
    · refine lv_iconst (v := (nI 1)) hx hb dX1_isClash_26 (by decide) ?_
      refine lv_goto (tgt := 31) hx hb dX1_isClash_27 (by decide) ?_
      exact f_r1 hx hb hr hlocks (by simp [clF, c_1, c_2] <;> omega) dX1_isClash_31
    · refine lv_aload_n hx hb dX1_isClash_17 rfl (lv_at hl 0 rfl) ?_
      refine lv_iload_n hx hb dX1_isClash_18 rfl (lv_at hl 2 rfl) ?_
      refine lv_iload_n hx hb dX1_isClash_19 rfl (lv_at hl 1 rfl) ?_
      refine f_cVi (As := [.int (nI d), .int (nI c)]) (rest := []) ⟨hx, hb, hml, hown, hts⟩ (c_X1_isLock l dC dI ad cy S d c I (by omega) (by omega) (by omega) (by omega)) (cwV 2 hts gX1_isClash_X1_isLock rfl rfl rfl (by decide +kernel) ⟨Nat.le_of_ble_eq_true rfl, Nat.le_of_ble_eq_true rfl⟩) roB_bl (va_recv hK hP (ci := 2) (q0 := 0) rfl rfl) (roB_at hP hK) rfl hl.1 rfl (Nat.le_of_ble_eq_true rfl) dX1_isClash_20 ⟨Nat.zero_le _, Nat.zero_le _⟩ ?_
      refine f_beq (tgt := 30) hx hb dX1_isClash_23 (by decide) (fun c_3 => ?_) (fun c_3 => ?_)
      · refine lv_iconst (v := (nI 0)) hx hb dX1_isClash_30 (by decide) ?_
        exact f_r0 hx hb hr hlocks (by rw [← Bool.not_eq_true]; simp [clF, c_1, c_2, c_3] <;> omega) dX1_isClash_31
      · refine lv_iconst (v := (nI 1)) hx hb dX1_isClash_26 (by decide) ?_
        refine lv_goto (tgt := 31) hx hb dX1_isClash_27 (by decide) ?_
        exact f_r1 hx hb hr hlocks (by simp [clF, c_1, c_2, c_3] <;> omega) dX1_isClash_31

abbrev rm_X1_makesBreak : Room := { frames := 5, cells := 0, slots := 0, locals := 114 }
set_option maxHeartbeats 4000000 in
set_option maxRecDepth 100000 in
theorem c_X1_makesBreak (l : Launch) (dC : Nat → ClassId) (dI : Nat → Nat → Nat) (ad : Nat → Nat) (cy : Nat → ClassId) (S : St) (c : Nat) (I : Inv S) (hc : c < 83968) (hc1 : c % 16 < 10) : RoI l yX1_makesBreak wsX1_makesBreak rm_X1_makesBreak [.ref (ad 0), .int (nI c)] (xB dC dI ad cy S) (bI (mkF S c)) := by
  refine Ro_start (cc := cX1_makesBreak) (maxL := 4) (ret := (some .boolean)) (lv := [(0, .ref (ad 0)), (1, .int (nI c))]) (by decide) rfl (Nat.le_of_ble_eq_true rfl) rfl ?_
  intro pp ee ss mm aa bl me co hx hb hr hml hts hown hlocks hnm hB ls hl
  obtain ⟨hP, hK⟩ := hB
  have hin : ∀ w ∈ wsX10, w ∈ wsX1_makesBreak := fun w h => List.mem_cons_of_mem _ (List.mem_append_right _ h)
  have hf_44 := hts (.fieldLink RX1 44 "FaultEvidence" "votes" "[I") (by decide +kernel)
  have hf_48 := hts (.fieldLink RX1 48 "FaultEvidence" "voteCount" "I") (by decide +kernel)
  have I1 := I.n
  refine lv_aload_n hx hb dX1_makesBreak_0 rfl (lv_at hl 0 rfl) ?_
  refine lv_iload_n hx hb dX1_makesBreak_1 rfl (lv_at hl 1 rfl) ?_
  refine f_cVi (As := [.int (nI c)]) (rest := []) ⟨hx, hb, hml, hown, hts⟩ (c_X1_isBare l dC dI ad cy S c I (by omega) (by omega)) (cwV 1 hts gX1_makesBreak_X1_isBare rfl rfl rfl (by decide +kernel) ⟨Nat.le_of_ble_eq_true rfl, Nat.le_of_ble_eq_true rfl⟩) roB_bl (va_recv hK hP (ci := 2) (q0 := 0) rfl rfl) (roB_at hP hK) rfl hl.1 rfl (Nat.le_of_ble_eq_true rfl) dX1_makesBreak_2 ⟨Nat.zero_le _, Nat.zero_le _⟩ ?_
  refine f_beq (tgt := 10) hx hb dX1_makesBreak_5 (by decide) (fun c_1 => ?_) (fun c_1 => ?_)
  · refine lv_iload_n hx hb dX1_makesBreak_10 rfl (lv_at hl 1 rfl) ?_
    refine f_cSi (As := [.int (nI c)]) (rest := []) ⟨hx, hb, hml, hown, hts⟩ (c_X1_voterOf l c (by omega)) (va_cwS 1 hts gX1_makesBreak_X1_voterOf rfl rfl rfl (by decide +kernel) ⟨Nat.le_of_ble_eq_true rfl, Nat.le_of_ble_eq_true rfl⟩) noB_bl noB_at rfl hl.1 rfl (Nat.le_of_ble_eq_true rfl) dX1_makesBreak_11 ⟨Nat.zero_le _, Nat.zero_le _⟩ ?_
    refine lv_istore_n (lv' := [(2, .int (nI (c / 256))), (0, .ref (ad 0)), (1, .int (nI c))]) hx hb dX1_makesBreak_14 rfl hl (by decide) rfl (fun ls hl => ?_)
    refine lv_iconst (v := (nI 0)) hx hb dX1_makesBreak_15 (by decide) ?_
    refine lv_istore_n (lv' := [(3, .int (nI 0)), (2, .int (nI (c / 256))), (0, .ref (ad 0)), (1, .int (nI c))]) hx hb dX1_makesBreak_16 rfl hl (by decide) rfl (fun ls hl => ?_)
    have loop_17 : ∀ (n : Nat) (v : Nat), sVn S - v < n → (∀ i, i < v → mkT S c i = false) → v ≤ sVn S → ∀ ls : Array Slot, lv_has ls 4 [(3, .int (nI v)), (2, .int (nI (c / 256))), (0, .ref (ad 0)), (1, .int (nI c))] → W pp l ee rm_X1_makesBreak ss mm aa bl me co ss.heap [] 0 0 (MQ bl (vp_Si (fun r => r = bI (mkF S c))) aa ss 0 0 (fun _ => False)) (F0 mm 17 ls []) := by
      intro n
      induction n with
      | zero => intro v hm; exact absurd hm (Nat.not_lt_zero _)
      | succ n ih =>
        intro v hm hno hvn ls hl
        refine lv_iload_n hx hb dX1_makesBreak_17 rfl (lv_at hl 0 rfl) ?_
        refine lv_aload_n hx hb dX1_makesBreak_18 rfl (lv_at hl 2 rfl) ?_
        refine va_get (D := (dC, dI)) (ci := 2) (v := .int (nI (sVn S))) (C := RX1) (T := TX1) (N := 14) hx hb hts hin hown hK hP 0 rfl rfl 9 (by decide) hf_48 (fun _ h9 => h9) rfl dX1_makesBreak_19 ?_
        refine f_ige (tgt := 60) hx hb (nI_toInt (by omega)) (nI_toInt (by omega)) dX1_makesBreak_22 (by decide) (fun c_2 => ?_) (fun c_2 => ?_)
        · refine lv_iconst (v := (nI 0)) hx hb dX1_makesBreak_60 (by decide) ?_
          exact f_r0 hx hb hr hlocks (by unfold mkF; rw [ex_no (fun i hi => hno i (by omega))]; simp [c_1]) dX1_makesBreak_61
        · have hv := I.v (v := v) (by omega)
          refine lv_aload_n hx hb dX1_makesBreak_25 rfl (lv_at hl 2 rfl) ?_
          refine va_get (D := (dC, dI)) (ci := 2) (v := .ref (ad 7)) (C := RX1) (T := TX1) (N := 14) hx hb hts hin hown hK hP 0 rfl rfl 8 (by decide) hf_44 (fun _ h9 => h9) rfl dX1_makesBreak_26 ?_
          refine lv_iload_n hx hb dX1_makesBreak_29 rfl (lv_at hl 0 rfl) ?_
          refine f_iald hx hb hK hP 7 6 rfl rfl (k := v) (by omega) (by decide) (v := (nI (sVts S v))) rfl dX1_makesBreak_30 ?_
          refine lv_bipush (v := (nI 8)) hx hb dX1_makesBreak_31 (by decide) ?_
          refine lv_ishr hx hb dX1_makesBreak_33 ?_
          refine f_ti (y := (nI ((sVts S v) / 256))) (pk_shrN (by omega) _ 8 (by decide)) ?_
          refine lv_iload_n hx hb dX1_makesBreak_34 rfl (lv_at hl 1 rfl) ?_
          refine f_ine (tgt := 54) hx hb (nI_toInt (by omega)) (nI_toInt (by omega)) dX1_makesBreak_35 (by decide) (fun c_3 => ?_) (fun c_3 => ?_)
          · have hz : mkT S c v = false := by
              have : ¬ sVts S v / 256 = c / 256 := by omega
              simp [mkT, this]
            refine lv_iinc (v := (nI (v + 1))) (lv' := [(3, .int (nI (v + 1))), (2, .int (nI (c / 256))), (0, .ref (ad 0)), (1, .int (nI c))]) hx hb dX1_makesBreak_54 hl (k := 0) rfl (nI_add v 1) (by decide) rfl (fun ls hl => ?_)
            refine lv_goto (tgt := 17) hx hb dX1_makesBreak_57 (by decide) ?_
            exact ih (v + 1) (by omega) (lt_s hno hz) (by omega) ls (lv_sub hl [0, 1, 2, 3] rfl)
          · refine lv_aload_n hx hb dX1_makesBreak_38 rfl (lv_at hl 2 rfl) ?_
            refine lv_iload_n hx hb dX1_makesBreak_39 rfl (lv_at hl 3 rfl) ?_
            refine lv_aload_n hx hb dX1_makesBreak_40 rfl (lv_at hl 2 rfl) ?_
            refine va_get (D := (dC, dI)) (ci := 2) (v := .ref (ad 7)) (C := RX1) (T := TX1) (N := 14) hx hb hts hin hown hK hP 0 rfl rfl 8 (by decide) hf_44 (fun _ h9 => h9) rfl dX1_makesBreak_41 ?_
            refine lv_iload_n hx hb dX1_makesBreak_44 rfl (lv_at hl 0 rfl) ?_
            refine f_iald hx hb hK hP 7 6 rfl rfl (k := v) (by omega) (by decide) (v := (nI (sVts S v))) rfl dX1_makesBreak_45 ?_
            refine f_cVi (As := [.int (nI c), .int (nI (sVts S v))]) (rest := []) ⟨hx, hb, hml, hown, hts⟩ (c_X1_isClash l dC dI ad cy S c (sVts S v) I (by omega) (by omega) (by omega) (by omega)) (cwV 2 hts gX1_makesBreak_X1_isClash rfl rfl rfl (by decide +kernel) ⟨Nat.le_of_ble_eq_true rfl, Nat.le_of_ble_eq_true rfl⟩) roB_bl (va_recv hK hP (ci := 2) (q0 := 0) rfl rfl) (roB_at hP hK) rfl hl.1 rfl (Nat.le_of_ble_eq_true rfl) dX1_makesBreak_46 ⟨Nat.zero_le _, Nat.zero_le _⟩ ?_
            refine f_beq (tgt := 54) hx hb dX1_makesBreak_49 (by decide) (fun c_4 => ?_) (fun c_4 => ?_)
            · have hz : mkT S c v = false := by simp [mkT, c_4]
              refine lv_iinc (v := (nI (v + 1))) (lv' := [(3, .int (nI (v + 1))), (2, .int (nI (c / 256))), (0, .ref (ad 0)), (1, .int (nI c))]) hx hb dX1_makesBreak_54 hl (k := 0) rfl (nI_add v 1) (by decide) rfl (fun ls hl => ?_)
              refine lv_goto (tgt := 17) hx hb dX1_makesBreak_57 (by decide) ?_
              exact ih (v + 1) (by omega) (lt_s hno hz) (by omega) ls (lv_sub hl [0, 1, 2, 3] rfl)
            · refine lv_iconst (v := (nI 1)) hx hb dX1_makesBreak_52 (by decide) ?_
              exact f_r1 hx hb hr hlocks (by unfold mkF; rw [ex_yes v (by omega) (by simp [mkT, c_1, c_4]; omega)]; simp) dX1_makesBreak_53
    exact loop_17 (sVn S - 0 + 1) 0 (Nat.lt_succ_self _) (fun i hi => absurd hi (Nat.not_lt_zero _)) (Nat.zero_le _) ls (lv_sub hl [0, 1, 2, 3] rfl)
  · refine lv_iconst (v := (nI 1)) hx hb dX1_makesBreak_8 (by decide) ?_
    exact f_r1 hx hb hr hlocks (by simp [mkF, c_1]) dX1_makesBreak_9

abbrev rm_X1_countBreaksFrom : Room := { frames := 5, cells := 0, slots := 0, locals := 115 }
set_option maxHeartbeats 4000000 in
set_option maxRecDepth 100000 in
theorem c_X1_countBreaksFrom (l : Launch) (dC : Nat → ClassId) (dI : Nat → Nat → Nat) (ad : Nat → Nat) (cy : Nat → ClassId) (S : St) (q : Nat) (a : Nat) (I : Inv S) (hq : q < 3) (ha : a < sVn S) : RoI l yX1_countBreaksFrom wsX1_countBreaksFrom rm_X1_countBreaksFrom [.ref (ad 0), .int (nI q), .int (nI a)] (xB dC dI ad cy S) (nI (cfF S q a)) := by
  refine Ro_start (cc := cX1_countBreaksFrom) (maxL := 7) (ret := (some .int)) (lv := [(0, .ref (ad 0)), (1, .int (nI q)), (2, .int (nI a))]) (by decide) rfl (Nat.le_of_ble_eq_true rfl) rfl ?_
  intro pp ee ss mm aa bl me co hx hb hr hml hts hown hlocks hnm hB ls hl
  obtain ⟨hP, hK⟩ := hB
  have hin : ∀ w ∈ wsX10, w ∈ wsX1_countBreaksFrom := fun w h => List.mem_cons_of_mem _ (List.mem_append_right _ h)
  have hf_44 := hts (.fieldLink RX1 44 "FaultEvidence" "votes" "[I") (by decide +kernel)
  have hf_48 := hts (.fieldLink RX1 48 "FaultEvidence" "voteCount" "I") (by decide +kernel)
  have I1 := I.n
  have hv := I.v (v := a) ha
  refine lv_aload_n hx hb dX1_countBreaksFrom_0 rfl (lv_at hl 0 rfl) ?_
  refine va_get (D := (dC, dI)) (ci := 2) (v := .ref (ad 7)) (C := RX1) (T := TX1) (N := 14) hx hb hts hin hown hK hP 0 rfl rfl 8 (by decide) hf_44 (fun _ h9 => h9) rfl dX1_countBreaksFrom_1 ?_
  refine lv_iload_n hx hb dX1_countBreaksFrom_4 rfl (lv_at hl 2 rfl) ?_
  refine f_iald hx hb hK hP 7 6 rfl rfl (k := a) (by omega) (by decide) (v := (nI (sVts S a))) rfl dX1_countBreaksFrom_5 ?_
  refine lv_istore_n (lv' := [(3, .int (nI (sVts S a))), (0, .ref (ad 0)), (1, .int (nI q)), (2, .int (nI a))]) hx hb dX1_countBreaksFrom_6 rfl hl (by decide) rfl (fun ls hl => ?_)
  refine lv_iload_n hx hb dX1_countBreaksFrom_7 rfl (lv_at hl 2 rfl) ?_
  refine lv_iconst (v := (nI 2)) hx hb dX1_countBreaksFrom_8 (by decide) ?_
  refine f_ine (tgt := 26) hx hb (nI_toInt (by omega)) (nI_toInt (by omega)) dX1_countBreaksFrom_9 (by decide) (fun c_1 => ?_) (fun c_1 => ?_)
  · refine lv_iload_n hx hb dX1_countBreaksFrom_26 rfl (lv_at hl 2 rfl) ?_
    refine lv_iconst (v := (nI 1)) hx hb dX1_countBreaksFrom_27 (by decide) ?_
    refine f_ine (tgt := 40) hx hb (nI_toInt (by omega)) (nI_toInt (by omega)) dX1_countBreaksFrom_28 (by decide) (fun c_2 => ?_) (fun c_2 => ?_)
    · refine lv_iload_n hx hb dX1_countBreaksFrom_40 rfl (lv_at hl 0 rfl) ?_
      refine f_cSi (As := [.int (nI (sVts S a))]) (rest := []) ⟨hx, hb, hml, hown, hts⟩ (c_X1_voterOf l (sVts S a) (by omega)) (va_cwS 1 hts gX1_countBreaksFrom_X1_voterOf rfl rfl rfl (by decide +kernel) ⟨Nat.le_of_ble_eq_true rfl, Nat.le_of_ble_eq_true rfl⟩) noB_bl noB_at rfl hl.1 rfl (Nat.le_of_ble_eq_true rfl) dX1_countBreaksFrom_41 ⟨Nat.zero_le _, Nat.zero_le _⟩ ?_
      refine lv_istore (lv' := [(4, .int (nI ((sVts S a) / 256))), (3, .int (nI (sVts S a))), (0, .ref (ad 0)), (1, .int (nI q)), (2, .int (nI a))]) hx hb dX1_countBreaksFrom_44 hl (by decide) rfl (fun ls hl => ?_)
      refine lv_iconst (v := (nI 0)) hx hb dX1_countBreaksFrom_46 (by decide) ?_
      refine lv_istore (lv' := [(5, .int (nI 0)), (4, .int (nI ((sVts S a) / 256))), (3, .int (nI (sVts S a))), (0, .ref (ad 0)), (1, .int (nI q)), (2, .int (nI a))]) hx hb dX1_countBreaksFrom_47 hl (by decide) rfl (fun ls hl => ?_)
      refine lv_iload_n hx hb dX1_countBreaksFrom_49 rfl (lv_at hl 4 rfl) ?_
      refine lv_iload_n hx hb dX1_countBreaksFrom_50 rfl (lv_at hl 5 rfl) ?_
      refine f_cSi (As := [.int (nI q), .int (nI a)]) (rest := []) ⟨hx, hb, hml, hown, hts⟩ (c_X1_firstPartner l q a (by omega)) (va_cwS 2 hts gX1_countBreaksFrom_X1_firstPartner rfl rfl rfl (by decide +kernel) ⟨Nat.le_of_ble_eq_true rfl, Nat.le_of_ble_eq_true rfl⟩) noB_bl noB_at rfl hl.1 rfl (Nat.le_of_ble_eq_true rfl) dX1_countBreaksFrom_51 ⟨Nat.zero_le _, Nat.zero_le _⟩ ?_
      refine lv_istore (lv' := [(6, .int (nI (if q = 0 then a + 1 else 0))), (5, .int (nI 0)), (4, .int (nI ((sVts S a) / 256))), (3, .int (nI (sVts S a))), (0, .ref (ad 0)), (1, .int (nI q)), (2, .int (nI a))]) hx hb dX1_countBreaksFrom_54 hl (by decide) rfl (fun ls hl => ?_)
      have loop_56 : ∀ (n : Nat) (b : Nat) (k : Nat), sVn S - b < n → k = sm b (cfT S q a) → b ≤ sVn S → (if q = 0 then a + 1 else 0) ≤ b → ∀ ls : Array Slot, lv_has ls 7 [(6, .int (nI b)), (5, .int (nI k)), (4, .int (nI ((sVts S a) / 256))), (3, .int (nI (sVts S a))), (0, .ref (ad 0)), (1, .int (nI q)), (2, .int (nI a))] → W pp l ee rm_X1_countBreaksFrom ss mm aa bl me co ss.heap [] 0 0 (MQ bl (vp_Si (fun r => r = nI (cfF S q a))) aa ss 0 0 (fun _ => False)) (F0 mm 56 ls []) := by
        intro n
        induction n with
        | zero => intro b k hm; exact absurd hm (Nat.not_lt_zero _)
        | succ n ih =>
          intro b k hm hk hbn hb0 ls hl
          refine lv_iload hx hb dX1_countBreaksFrom_56 (lv_at hl 0 rfl) ?_
          refine lv_aload_n hx hb dX1_countBreaksFrom_58 rfl (lv_at hl 4 rfl) ?_
          refine va_get (D := (dC, dI)) (ci := 2) (v := .int (nI (sVn S))) (C := RX1) (T := TX1) (N := 14) hx hb hts hin hown hK hP 0 rfl rfl 9 (by decide) hf_48 (fun _ h9 => h9) rfl dX1_countBreaksFrom_59 ?_
          refine f_ige (tgt := 105) hx hb (nI_toInt (by omega)) (nI_toInt (by omega)) dX1_countBreaksFrom_62 (by decide) (fun c_3 => ?_) (fun c_3 => ?_)
          · refine lv_iload hx hb dX1_countBreaksFrom_105 (lv_at hl 1 rfl) ?_
            exact f_ri hx hb hr hlocks (by have e : b = sVn S := (by omega); unfold cfF; rw [hk, e, if_neg (by omega)]) dX1_countBreaksFrom_107
          · have hw := I.v (v := b) (by omega)
            refine lv_aload_n hx hb dX1_countBreaksFrom_65 rfl (lv_at hl 4 rfl) ?_
            refine va_get (D := (dC, dI)) (ci := 2) (v := .ref (ad 7)) (C := RX1) (T := TX1) (N := 14) hx hb hts hin hown hK hP 0 rfl rfl 8 (by decide) hf_44 (fun _ h9 => h9) rfl dX1_countBreaksFrom_66 ?_
            refine lv_iload hx hb dX1_countBreaksFrom_69 (lv_at hl 0 rfl) ?_
            refine f_iald hx hb hK hP 7 6 rfl rfl (k := b) (by omega) (by decide) (v := (nI (sVts S b))) rfl dX1_countBreaksFrom_71 ?_
            refine lv_bipush (v := (nI 8)) hx hb dX1_countBreaksFrom_72 (by decide) ?_
            refine lv_ishr hx hb dX1_countBreaksFrom_74 ?_
            refine f_ti (y := (nI ((sVts S b) / 256))) (pk_shrN (by omega) _ 8 (by decide)) ?_
            refine lv_iload hx hb dX1_countBreaksFrom_75 (lv_at hl 2 rfl) ?_
            refine f_ine (tgt := 99) hx hb (nI_toInt (by omega)) (nI_toInt (by omega)) dX1_countBreaksFrom_77 (by decide) (fun c_4 => ?_) (fun c_4 => ?_)
            · have hz : cfT S q a b = 0 := by
                have e := prF_vo (S := S) (q := q) (c := sVts S a) (d := sVts S b) (by omega)
                simp [cfT, e]
              refine lv_iinc (v := (nI (b + 1))) (lv' := [(6, .int (nI (b + 1))), (5, .int (nI k)), (4, .int (nI ((sVts S a) / 256))), (3, .int (nI (sVts S a))), (0, .ref (ad 0)), (1, .int (nI q)), (2, .int (nI a))]) hx hb dX1_countBreaksFrom_99 hl (k := 0) rfl (nI_add b 1) (by decide) rfl (fun ls hl => ?_)
              refine lv_goto (tgt := 56) hx hb dX1_countBreaksFrom_102 (by decide) ?_
              exact ih (b + 1) k (by omega) (by simp only [sm, hz]; omega) (by omega) (by omega) ls (lv_sub hl [0, 1, 2, 3, 4, 5, 6] rfl)
            · refine lv_aload_n hx hb dX1_countBreaksFrom_80 rfl (lv_at hl 4 rfl) ?_
              refine lv_iload_n hx hb dX1_countBreaksFrom_81 rfl (lv_at hl 5 rfl) ?_
              refine lv_iload_n hx hb dX1_countBreaksFrom_82 rfl (lv_at hl 3 rfl) ?_
              refine lv_aload_n hx hb dX1_countBreaksFrom_83 rfl (lv_at hl 4 rfl) ?_
              refine va_get (D := (dC, dI)) (ci := 2) (v := .ref (ad 7)) (C := RX1) (T := TX1) (N := 14) hx hb hts hin hown hK hP 0 rfl rfl 8 (by decide) hf_44 (fun _ h9 => h9) rfl dX1_countBreaksFrom_84 ?_
              refine lv_iload hx hb dX1_countBreaksFrom_87 (lv_at hl 0 rfl) ?_
              refine f_iald hx hb hK hP 7 6 rfl rfl (k := b) (by omega) (by decide) (v := (nI (sVts S b))) rfl dX1_countBreaksFrom_89 ?_
              refine f_cVi (As := [.int (nI q), .int (nI (sVts S a)), .int (nI (sVts S b))]) (rest := []) ⟨hx, hb, hml, hown, hts⟩ (c_X1_isPair l dC dI ad cy S q (sVts S a) (sVts S b) I (by omega) (by omega) (by omega) (by omega) (by omega)) (cwV 3 hts gX1_countBreaksFrom_X1_isPair rfl rfl rfl (by decide +kernel) ⟨Nat.le_of_ble_eq_true rfl, Nat.le_of_ble_eq_true rfl⟩) roB_bl (va_recv hK hP (ci := 2) (q0 := 0) rfl rfl) (roB_at hP hK) rfl hl.1 rfl (Nat.le_of_ble_eq_true rfl) dX1_countBreaksFrom_90 ⟨Nat.zero_le _, Nat.zero_le _⟩ ?_
              refine f_beq (tgt := 99) hx hb dX1_countBreaksFrom_93 (by decide) (fun c_5 => ?_) (fun c_5 => ?_)
              · have hz : cfT S q a b = 0 := by simp [cfT, c_5]
                refine lv_iinc (v := (nI (b + 1))) (lv' := [(6, .int (nI (b + 1))), (5, .int (nI k)), (4, .int (nI ((sVts S a) / 256))), (3, .int (nI (sVts S a))), (0, .ref (ad 0)), (1, .int (nI q)), (2, .int (nI a))]) hx hb dX1_countBreaksFrom_99 hl (k := 0) rfl (nI_add b 1) (by decide) rfl (fun ls hl => ?_)
                refine lv_goto (tgt := 56) hx hb dX1_countBreaksFrom_102 (by decide) ?_
                exact ih (b + 1) k (by omega) (by simp only [sm, hz]; omega) (by omega) (by omega) ls (lv_sub hl [0, 1, 2, 3, 4, 5, 6] rfl)
              · have hz : cfT S q a b = 1 := by
                  unfold cfT
                  rw [if_pos ⟨hb0, c_5⟩]
                refine lv_iinc (v := (nI (k + 1))) (lv' := [(5, .int (nI (k + 1))), (6, .int (nI b)), (4, .int (nI ((sVts S a) / 256))), (3, .int (nI (sVts S a))), (0, .ref (ad 0)), (1, .int (nI q)), (2, .int (nI a))]) hx hb dX1_countBreaksFrom_96 hl (k := 1) rfl (nI_add k 1) (by decide) rfl (fun ls hl => ?_)
                refine lv_iinc (v := (nI (b + 1))) (lv' := [(6, .int (nI (b + 1))), (5, .int (nI (k + 1))), (4, .int (nI ((sVts S a) / 256))), (3, .int (nI (sVts S a))), (0, .ref (ad 0)), (1, .int (nI q)), (2, .int (nI a))]) hx hb dX1_countBreaksFrom_99 hl (k := 1) rfl (nI_add b 1) (by decide) rfl (fun ls hl => ?_)
                refine lv_goto (tgt := 56) hx hb dX1_countBreaksFrom_102 (by decide) ?_
                exact ih (b + 1) (k + 1) (by omega) (by simp only [sm, hz]; omega) (by omega) (by omega) ls (lv_sub hl [0, 1, 2, 3, 4, 5, 6] rfl)
      exact loop_56 (sVn S - (if q = 0 then a + 1 else 0) + 1) (if q = 0 then a + 1 else 0) 0 (Nat.lt_succ_self _) ((sm_zero (fun i hi => by unfold cfT; rw [if_neg]; omega)).symm) (by split <;> omega) (Nat.le_refl _) ls (lv_sub hl [0, 1, 2, 3, 4, 5, 6] rfl)
    · refine lv_iload_n hx hb dX1_countBreaksFrom_31 rfl (lv_at hl 0 rfl) ?_
      refine f_cSi (As := [.int (nI (sVts S a))]) (rest := []) ⟨hx, hb, hml, hown, hts⟩ (c_X1_isLocking l (sVts S a) (by omega)) (va_cwS 1 hts gX1_countBreaksFrom_X1_isLocking rfl rfl rfl (by decide +kernel) ⟨Nat.le_of_ble_eq_true rfl, Nat.le_of_ble_eq_true rfl⟩) noB_bl noB_at rfl hl.1 rfl (Nat.le_of_ble_eq_true rfl) dX1_countBreaksFrom_32 ⟨Nat.zero_le _, Nat.zero_le _⟩ ?_
      refine f_bne (tgt := 40) hx hb dX1_countBreaksFrom_35 (by decide) (fun c_6 => ?_) (fun c_6 => ?_)
      · refine lv_iload_n hx hb dX1_countBreaksFrom_40 rfl (lv_at hl 0 rfl) ?_
        refine f_cSi (As := [.int (nI (sVts S a))]) (rest := []) ⟨hx, hb, hml, hown, hts⟩ (c_X1_voterOf l (sVts S a) (by omega)) (va_cwS 1 hts gX1_countBreaksFrom_X1_voterOf rfl rfl rfl (by decide +kernel) ⟨Nat.le_of_ble_eq_true rfl, Nat.le_of_ble_eq_true rfl⟩) noB_bl noB_at rfl hl.1 rfl (Nat.le_of_ble_eq_true rfl) dX1_countBreaksFrom_41 ⟨Nat.zero_le _, Nat.zero_le _⟩ ?_
        refine lv_istore (lv' := [(4, .int (nI ((sVts S a) / 256))), (3, .int (nI (sVts S a))), (0, .ref (ad 0)), (1, .int (nI q)), (2, .int (nI a))]) hx hb dX1_countBreaksFrom_44 hl (by decide) rfl (fun ls hl => ?_)
        refine lv_iconst (v := (nI 0)) hx hb dX1_countBreaksFrom_46 (by decide) ?_
        refine lv_istore (lv' := [(5, .int (nI 0)), (4, .int (nI ((sVts S a) / 256))), (3, .int (nI (sVts S a))), (0, .ref (ad 0)), (1, .int (nI q)), (2, .int (nI a))]) hx hb dX1_countBreaksFrom_47 hl (by decide) rfl (fun ls hl => ?_)
        refine lv_iload_n hx hb dX1_countBreaksFrom_49 rfl (lv_at hl 4 rfl) ?_
        refine lv_iload_n hx hb dX1_countBreaksFrom_50 rfl (lv_at hl 5 rfl) ?_
        refine f_cSi (As := [.int (nI q), .int (nI a)]) (rest := []) ⟨hx, hb, hml, hown, hts⟩ (c_X1_firstPartner l q a (by omega)) (va_cwS 2 hts gX1_countBreaksFrom_X1_firstPartner rfl rfl rfl (by decide +kernel) ⟨Nat.le_of_ble_eq_true rfl, Nat.le_of_ble_eq_true rfl⟩) noB_bl noB_at rfl hl.1 rfl (Nat.le_of_ble_eq_true rfl) dX1_countBreaksFrom_51 ⟨Nat.zero_le _, Nat.zero_le _⟩ ?_
        refine lv_istore (lv' := [(6, .int (nI (if q = 0 then a + 1 else 0))), (5, .int (nI 0)), (4, .int (nI ((sVts S a) / 256))), (3, .int (nI (sVts S a))), (0, .ref (ad 0)), (1, .int (nI q)), (2, .int (nI a))]) hx hb dX1_countBreaksFrom_54 hl (by decide) rfl (fun ls hl => ?_)
        have loop_56 : ∀ (n : Nat) (b : Nat) (k : Nat), sVn S - b < n → k = sm b (cfT S q a) → b ≤ sVn S → (if q = 0 then a + 1 else 0) ≤ b → ∀ ls : Array Slot, lv_has ls 7 [(6, .int (nI b)), (5, .int (nI k)), (4, .int (nI ((sVts S a) / 256))), (3, .int (nI (sVts S a))), (0, .ref (ad 0)), (1, .int (nI q)), (2, .int (nI a))] → W pp l ee rm_X1_countBreaksFrom ss mm aa bl me co ss.heap [] 0 0 (MQ bl (vp_Si (fun r => r = nI (cfF S q a))) aa ss 0 0 (fun _ => False)) (F0 mm 56 ls []) := by
          intro n
          induction n with
          | zero => intro b k hm; exact absurd hm (Nat.not_lt_zero _)
          | succ n ih =>
            intro b k hm hk hbn hb0 ls hl
            refine lv_iload hx hb dX1_countBreaksFrom_56 (lv_at hl 0 rfl) ?_
            refine lv_aload_n hx hb dX1_countBreaksFrom_58 rfl (lv_at hl 4 rfl) ?_
            refine va_get (D := (dC, dI)) (ci := 2) (v := .int (nI (sVn S))) (C := RX1) (T := TX1) (N := 14) hx hb hts hin hown hK hP 0 rfl rfl 9 (by decide) hf_48 (fun _ h9 => h9) rfl dX1_countBreaksFrom_59 ?_
            refine f_ige (tgt := 105) hx hb (nI_toInt (by omega)) (nI_toInt (by omega)) dX1_countBreaksFrom_62 (by decide) (fun c_7 => ?_) (fun c_7 => ?_)
            · refine lv_iload hx hb dX1_countBreaksFrom_105 (lv_at hl 1 rfl) ?_
              exact f_ri hx hb hr hlocks (by have e : b = sVn S := (by omega); unfold cfF; rw [hk, e, if_neg (by omega)]) dX1_countBreaksFrom_107
            · have hw := I.v (v := b) (by omega)
              refine lv_aload_n hx hb dX1_countBreaksFrom_65 rfl (lv_at hl 4 rfl) ?_
              refine va_get (D := (dC, dI)) (ci := 2) (v := .ref (ad 7)) (C := RX1) (T := TX1) (N := 14) hx hb hts hin hown hK hP 0 rfl rfl 8 (by decide) hf_44 (fun _ h9 => h9) rfl dX1_countBreaksFrom_66 ?_
              refine lv_iload hx hb dX1_countBreaksFrom_69 (lv_at hl 0 rfl) ?_
              refine f_iald hx hb hK hP 7 6 rfl rfl (k := b) (by omega) (by decide) (v := (nI (sVts S b))) rfl dX1_countBreaksFrom_71 ?_
              refine lv_bipush (v := (nI 8)) hx hb dX1_countBreaksFrom_72 (by decide) ?_
              refine lv_ishr hx hb dX1_countBreaksFrom_74 ?_
              refine f_ti (y := (nI ((sVts S b) / 256))) (pk_shrN (by omega) _ 8 (by decide)) ?_
              refine lv_iload hx hb dX1_countBreaksFrom_75 (lv_at hl 2 rfl) ?_
              refine f_ine (tgt := 99) hx hb (nI_toInt (by omega)) (nI_toInt (by omega)) dX1_countBreaksFrom_77 (by decide) (fun c_8 => ?_) (fun c_8 => ?_)
              · have hz : cfT S q a b = 0 := by
                  have e := prF_vo (S := S) (q := q) (c := sVts S a) (d := sVts S b) (by omega)
                  simp [cfT, e]
                refine lv_iinc (v := (nI (b + 1))) (lv' := [(6, .int (nI (b + 1))), (5, .int (nI k)), (4, .int (nI ((sVts S a) / 256))), (3, .int (nI (sVts S a))), (0, .ref (ad 0)), (1, .int (nI q)), (2, .int (nI a))]) hx hb dX1_countBreaksFrom_99 hl (k := 0) rfl (nI_add b 1) (by decide) rfl (fun ls hl => ?_)
                refine lv_goto (tgt := 56) hx hb dX1_countBreaksFrom_102 (by decide) ?_
                exact ih (b + 1) k (by omega) (by simp only [sm, hz]; omega) (by omega) (by omega) ls (lv_sub hl [0, 1, 2, 3, 4, 5, 6] rfl)
              · refine lv_aload_n hx hb dX1_countBreaksFrom_80 rfl (lv_at hl 4 rfl) ?_
                refine lv_iload_n hx hb dX1_countBreaksFrom_81 rfl (lv_at hl 5 rfl) ?_
                refine lv_iload_n hx hb dX1_countBreaksFrom_82 rfl (lv_at hl 3 rfl) ?_
                refine lv_aload_n hx hb dX1_countBreaksFrom_83 rfl (lv_at hl 4 rfl) ?_
                refine va_get (D := (dC, dI)) (ci := 2) (v := .ref (ad 7)) (C := RX1) (T := TX1) (N := 14) hx hb hts hin hown hK hP 0 rfl rfl 8 (by decide) hf_44 (fun _ h9 => h9) rfl dX1_countBreaksFrom_84 ?_
                refine lv_iload hx hb dX1_countBreaksFrom_87 (lv_at hl 0 rfl) ?_
                refine f_iald hx hb hK hP 7 6 rfl rfl (k := b) (by omega) (by decide) (v := (nI (sVts S b))) rfl dX1_countBreaksFrom_89 ?_
                refine f_cVi (As := [.int (nI q), .int (nI (sVts S a)), .int (nI (sVts S b))]) (rest := []) ⟨hx, hb, hml, hown, hts⟩ (c_X1_isPair l dC dI ad cy S q (sVts S a) (sVts S b) I (by omega) (by omega) (by omega) (by omega) (by omega)) (cwV 3 hts gX1_countBreaksFrom_X1_isPair rfl rfl rfl (by decide +kernel) ⟨Nat.le_of_ble_eq_true rfl, Nat.le_of_ble_eq_true rfl⟩) roB_bl (va_recv hK hP (ci := 2) (q0 := 0) rfl rfl) (roB_at hP hK) rfl hl.1 rfl (Nat.le_of_ble_eq_true rfl) dX1_countBreaksFrom_90 ⟨Nat.zero_le _, Nat.zero_le _⟩ ?_
                refine f_beq (tgt := 99) hx hb dX1_countBreaksFrom_93 (by decide) (fun c_9 => ?_) (fun c_9 => ?_)
                · have hz : cfT S q a b = 0 := by simp [cfT, c_9]
                  refine lv_iinc (v := (nI (b + 1))) (lv' := [(6, .int (nI (b + 1))), (5, .int (nI k)), (4, .int (nI ((sVts S a) / 256))), (3, .int (nI (sVts S a))), (0, .ref (ad 0)), (1, .int (nI q)), (2, .int (nI a))]) hx hb dX1_countBreaksFrom_99 hl (k := 0) rfl (nI_add b 1) (by decide) rfl (fun ls hl => ?_)
                  refine lv_goto (tgt := 56) hx hb dX1_countBreaksFrom_102 (by decide) ?_
                  exact ih (b + 1) k (by omega) (by simp only [sm, hz]; omega) (by omega) (by omega) ls (lv_sub hl [0, 1, 2, 3, 4, 5, 6] rfl)
                · have hz : cfT S q a b = 1 := by
                    unfold cfT
                    rw [if_pos ⟨hb0, c_9⟩]
                  refine lv_iinc (v := (nI (k + 1))) (lv' := [(5, .int (nI (k + 1))), (6, .int (nI b)), (4, .int (nI ((sVts S a) / 256))), (3, .int (nI (sVts S a))), (0, .ref (ad 0)), (1, .int (nI q)), (2, .int (nI a))]) hx hb dX1_countBreaksFrom_96 hl (k := 1) rfl (nI_add k 1) (by decide) rfl (fun ls hl => ?_)
                  refine lv_iinc (v := (nI (b + 1))) (lv' := [(6, .int (nI (b + 1))), (5, .int (nI (k + 1))), (4, .int (nI ((sVts S a) / 256))), (3, .int (nI (sVts S a))), (0, .ref (ad 0)), (1, .int (nI q)), (2, .int (nI a))]) hx hb dX1_countBreaksFrom_99 hl (k := 1) rfl (nI_add b 1) (by decide) rfl (fun ls hl => ?_)
                  refine lv_goto (tgt := 56) hx hb dX1_countBreaksFrom_102 (by decide) ?_
                  exact ih (b + 1) (k + 1) (by omega) (by simp only [sm, hz]; omega) (by omega) (by omega) ls (lv_sub hl [0, 1, 2, 3, 4, 5, 6] rfl)
        exact loop_56 (sVn S - (if q = 0 then a + 1 else 0) + 1) (if q = 0 then a + 1 else 0) 0 (Nat.lt_succ_self _) ((sm_zero (fun i hi => by unfold cfT; rw [if_neg]; omega)).symm) (by split <;> omega) (Nat.le_refl _) ls (lv_sub hl [0, 1, 2, 3, 4, 5, 6] rfl)
      · have hlk : lkg (sVts S a) = false := c_6
        refine lv_iconst (v := (nI 0)) hx hb dX1_countBreaksFrom_38 (by decide) ?_
        exact f_ri hx hb hr hlocks (by have e : q = 1 := (by omega); subst e; simp only [cfF]; rw [if_neg (by decide), sm_zero (fun i hi => by simp [cfT, prF_lk hlk])]) dX1_countBreaksFrom_39
  · refine lv_aload_n hx hb dX1_countBreaksFrom_12 rfl (lv_at hl 1 rfl) ?_
    refine lv_iload_n hx hb dX1_countBreaksFrom_13 rfl (lv_at hl 0 rfl) ?_
    refine f_cVi (As := [.int (nI (sVts S a))]) (rest := []) ⟨hx, hb, hml, hown, hts⟩ (c_X1_isBare l dC dI ad cy S (sVts S a) I (by omega) (by omega)) (cwV 1 hts gX1_countBreaksFrom_X1_isBare rfl rfl rfl (by decide +kernel) ⟨Nat.le_of_ble_eq_true rfl, Nat.le_of_ble_eq_true rfl⟩) roB_bl (va_recv hK hP (ci := 2) (q0 := 0) rfl rfl) (roB_at hP hK) rfl hl.1 rfl (Nat.le_of_ble_eq_true rfl) dX1_countBreaksFrom_14 ⟨Nat.zero_le _, Nat.zero_le _⟩ ?_
    refine f_beq (tgt := 24) hx hb dX1_countBreaksFrom_17 (by decide) (fun c_10 => ?_) (fun c_10 => ?_)
    · refine lv_iconst (v := (nI 0)) hx hb dX1_countBreaksFrom_24 (by decide) ?_
      exact f_ri hx hb hr hlocks (by have e : q = 2 := (by omega); simp [cfF, e, c_10]) dX1_countBreaksFrom_25
    · refine lv_iconst (v := (nI 1)) hx hb dX1_countBreaksFrom_20 (by decide) ?_
      refine lv_goto (tgt := 25) hx hb dX1_countBreaksFrom_21 (by decide) ?_
      exact f_ri hx hb hr hlocks (by have e : q = 2 := (by omega); simp [cfF, e, c_10]) dX1_countBreaksFrom_25

abbrev rm_X1_partner : Room := { frames := 5, cells := 0, slots := 0, locals := 115 }
set_option maxHeartbeats 4000000 in
set_option maxRecDepth 100000 in
theorem c_X1_partner (l : Launch) (dC : Nat → ClassId) (dI : Nat → Nat → Nat) (ad : Nat → Nat) (cy : Nat → ClassId) (S : St) (q : Nat) (a : Nat) (i : Nat) (I : Inv S) (hq : q < 3) (ha : a < sVn S) (hi : i < 2147483648) : RoI l yX1_partner wsX1_partner rm_X1_partner [.ref (ad 0), .int (nI q), .int (nI a), .int (nI i)] (xB dC dI ad cy S) (ptF S q a i) := by
  refine Ro_start (cc := cX1_partner) (maxL := 6) (ret := (some .int)) (lv := [(0, .ref (ad 0)), (1, .int (nI q)), (2, .int (nI a)), (3, .int (nI i))]) (by decide) rfl (Nat.le_of_ble_eq_true rfl) rfl ?_
  intro pp ee ss mm aa bl me co hx hb hr hml hts hown hlocks hnm hB ls hl
  obtain ⟨hP, hK⟩ := hB
  have hin : ∀ w ∈ wsX10, w ∈ wsX1_partner := fun w h => List.mem_cons_of_mem _ (List.mem_append_right _ h)
  have hf_44 := hts (.fieldLink RX1 44 "FaultEvidence" "votes" "[I") (by decide +kernel)
  have hf_48 := hts (.fieldLink RX1 48 "FaultEvidence" "voteCount" "I") (by decide +kernel)
  have I1 := I.n
  have hv := I.v (v := a) ha
  refine lv_iload_n hx hb dX1_partner_0 rfl (lv_at hl 1 rfl) ?_
  refine lv_iconst (v := (nI 2)) hx hb dX1_partner_1 (by decide) ?_
  refine f_ine (tgt := 7) hx hb (nI_toInt (by omega)) (nI_toInt (by omega)) dX1_partner_2 (by decide) (fun c_1 => ?_) (fun c_1 => ?_)
  · refine lv_iload_n hx hb dX1_partner_7 rfl (lv_at hl 3 rfl) ?_
    refine lv_istore (lv' := [(4, .int (nI i)), (0, .ref (ad 0)), (1, .int (nI q)), (2, .int (nI a)), (3, .int (nI i))]) hx hb dX1_partner_8 hl (by decide) rfl (fun ls hl => ?_)
    refine lv_iload_n hx hb dX1_partner_10 rfl (lv_at hl 2 rfl) ?_
    refine lv_iload_n hx hb dX1_partner_11 rfl (lv_at hl 3 rfl) ?_
    refine f_cSi (As := [.int (nI q), .int (nI a)]) (rest := []) ⟨hx, hb, hml, hown, hts⟩ (c_X1_firstPartner l q a (by omega)) (va_cwS 2 hts gX1_partner_X1_firstPartner rfl rfl rfl (by decide +kernel) ⟨Nat.le_of_ble_eq_true rfl, Nat.le_of_ble_eq_true rfl⟩) noB_bl noB_at rfl hl.1 rfl (Nat.le_of_ble_eq_true rfl) dX1_partner_12 ⟨Nat.zero_le _, Nat.zero_le _⟩ ?_
    refine lv_istore (lv' := [(5, .int (nI (if q = 0 then a + 1 else 0))), (4, .int (nI i)), (0, .ref (ad 0)), (1, .int (nI q)), (2, .int (nI a)), (3, .int (nI i))]) hx hb dX1_partner_15 hl (by decide) rfl (fun ls hl => ?_)
    have loop_17 : ∀ (n : Nat) (b : Nat) (k : Nat), sVn S - b < n → k + sm b (cfT S q a) = i → b ≤ sVn S → (if q = 0 then a + 1 else 0) ≤ b → (∀ j, j < b → ptT S q a i j = false) → ∀ ls : Array Slot, lv_has ls 6 [(5, .int (nI b)), (4, .int (nI k)), (0, .ref (ad 0)), (1, .int (nI q)), (2, .int (nI a)), (3, .int (nI i))] → W pp l ee rm_X1_partner ss mm aa bl me co ss.heap [] 0 0 (MQ bl (vp_Si (fun r => r = ptF S q a i)) aa ss 0 0 (fun _ => False)) (F0 mm 17 ls []) := by
      intro n
      induction n with
      | zero => intro b k hm; exact absurd hm (Nat.not_lt_zero _)
      | succ n ih =>
        intro b k hm hk hbn hb0 hno ls hl
        refine lv_iload hx hb dX1_partner_17 (lv_at hl 0 rfl) ?_
        refine lv_aload_n hx hb dX1_partner_19 rfl (lv_at hl 2 rfl) ?_
        refine va_get (D := (dC, dI)) (ci := 2) (v := .int (nI (sVn S))) (C := RX1) (T := TX1) (N := 14) hx hb hts hin hown hK hP 0 rfl rfl 9 (by decide) hf_48 (fun _ h9 => h9) rfl dX1_partner_20 ?_
        refine f_ige (tgt := 64) hx hb (nI_toInt (by omega)) (nI_toInt (by omega)) dX1_partner_23 (by decide) (fun c_2 => ?_) (fun c_2 => ?_)
        · refine lv_iconst (v := (-1)) hx hb dX1_partner_64 (by decide) ?_
          exact f_ri hx hb hr hlocks (by unfold ptF; rw [fi_no (fun j hj => hno j (by omega)), if_neg (by omega), if_neg (by omega)]) dX1_partner_65
        · have hw := I.v (v := b) (by omega)
          refine lv_aload_n hx hb dX1_partner_26 rfl (lv_at hl 2 rfl) ?_
          refine lv_iload_n hx hb dX1_partner_27 rfl (lv_at hl 3 rfl) ?_
          refine lv_aload_n hx hb dX1_partner_28 rfl (lv_at hl 2 rfl) ?_
          refine va_get (D := (dC, dI)) (ci := 2) (v := .ref (ad 7)) (C := RX1) (T := TX1) (N := 14) hx hb hts hin hown hK hP 0 rfl rfl 8 (by decide) hf_44 (fun _ h9 => h9) rfl dX1_partner_29 ?_
          refine lv_iload_n hx hb dX1_partner_32 rfl (lv_at hl 4 rfl) ?_
          refine f_iald hx hb hK hP 7 6 rfl rfl (k := a) (by omega) (by decide) (v := (nI (sVts S a))) rfl dX1_partner_33 ?_
          refine lv_aload_n hx hb dX1_partner_34 rfl (lv_at hl 2 rfl) ?_
          refine va_get (D := (dC, dI)) (ci := 2) (v := .ref (ad 7)) (C := RX1) (T := TX1) (N := 14) hx hb hts hin hown hK hP 0 rfl rfl 8 (by decide) hf_44 (fun _ h9 => h9) rfl dX1_partner_35 ?_
          refine lv_iload hx hb dX1_partner_38 (lv_at hl 0 rfl) ?_
          refine f_iald hx hb hK hP 7 6 rfl rfl (k := b) (by omega) (by decide) (v := (nI (sVts S b))) rfl dX1_partner_40 ?_
          refine f_cVi (As := [.int (nI q), .int (nI (sVts S a)), .int (nI (sVts S b))]) (rest := []) ⟨hx, hb, hml, hown, hts⟩ (c_X1_isPair l dC dI ad cy S q (sVts S a) (sVts S b) I (by omega) (by omega) (by omega) (by omega) (by omega)) (cwV 3 hts gX1_partner_X1_isPair rfl rfl rfl (by decide +kernel) ⟨Nat.le_of_ble_eq_true rfl, Nat.le_of_ble_eq_true rfl⟩) roB_bl (va_recv hK hP (ci := 2) (q0 := 0) rfl rfl) (roB_at hP hK) rfl hl.1 rfl (Nat.le_of_ble_eq_true rfl) dX1_partner_41 ⟨Nat.zero_le _, Nat.zero_le _⟩ ?_
          refine f_beq (tgt := 58) hx hb dX1_partner_44 (by decide) (fun c_3 => ?_) (fun c_3 => ?_)
          · have hz : cfT S q a b = 0 := by simp [cfT, c_3]
            have hz2 : ptT S q a i b = false := by simp [ptT, hz]
            refine lv_iinc (v := (nI (b + 1))) (lv' := [(5, .int (nI (b + 1))), (4, .int (nI k)), (0, .ref (ad 0)), (1, .int (nI q)), (2, .int (nI a)), (3, .int (nI i))]) hx hb dX1_partner_58 hl (k := 0) rfl (nI_add b 1) (by decide) rfl (fun ls hl => ?_)
            refine lv_goto (tgt := 17) hx hb dX1_partner_61 (by decide) ?_
            exact ih (b + 1) k (by omega) (by simp only [sm, hz]; omega) (by omega) (by omega) (lt_s hno hz2) ls (lv_sub hl [0, 1, 2, 3, 4, 5] rfl)
          · have hz : cfT S q a b = 1 := by
              unfold cfT
              rw [if_pos ⟨hb0, c_3⟩]
            refine lv_iload hx hb dX1_partner_47 (lv_at hl 1 rfl) ?_
            refine f_0ne (tgt := 55) hx hb (nI_toInt (by omega)) dX1_partner_49 (by decide) (fun c_4 => ?_) (fun c_4 => ?_)
            · have hz2 : ptT S q a i b = false := by
                have e : ¬ sm b (cfT S q a) = i := by omega
                simp [ptT, e]
              refine lv_iinc (v := (nI (k - 1))) (lv' := [(4, .int (nI (k - 1))), (5, .int (nI b)), (0, .ref (ad 0)), (1, .int (nI q)), (2, .int (nI a)), (3, .int (nI i))]) hx hb dX1_partner_55 hl (k := 1) rfl (f_dec (by omega)) (by decide) rfl (fun ls hl => ?_)
              refine lv_iinc (v := (nI (b + 1))) (lv' := [(5, .int (nI (b + 1))), (4, .int (nI (k - 1))), (0, .ref (ad 0)), (1, .int (nI q)), (2, .int (nI a)), (3, .int (nI i))]) hx hb dX1_partner_58 hl (k := 1) rfl (nI_add b 1) (by decide) rfl (fun ls hl => ?_)
              refine lv_goto (tgt := 17) hx hb dX1_partner_61 (by decide) ?_
              exact ih (b + 1) (k - 1) (by omega) (by simp only [sm, hz]; omega) (by omega) (by omega) (lt_s hno hz2) ls (lv_sub hl [0, 1, 2, 3, 4, 5] rfl)
            · refine lv_iload hx hb dX1_partner_52 (lv_at hl 0 rfl) ?_
              exact f_ri hx hb hr hlocks (by have e : sm b (cfT S q a) = i := (by omega); unfold ptF; rw [fi_at hno (by simp [ptT, hz, e]) (by omega), if_neg (by omega), if_pos (by omega)]) dX1_partner_54
    exact loop_17 (sVn S - (if q = 0 then a + 1 else 0) + 1) (if q = 0 then a + 1 else 0) i (Nat.lt_succ_self _) (by rw [sm_zero (fun i hi => by unfold cfT; rw [if_neg]; omega)]; rfl) (by split <;> omega) (Nat.le_refl _) (fun j hj => (by have e : cfT S q a j = 0 := (by unfold cfT; rw [if_neg]; omega); simp [ptT, e])) ls (lv_sub hl [0, 1, 2, 3, 4, 5] rfl)
  · refine lv_iconst (v := (-1)) hx hb dX1_partner_5 (by decide) ?_
    exact f_ri hx hb hr hlocks (by have e : q = 2 := (by omega); simp [ptF, e]) dX1_partner_6

abbrev rm_X1_numberOf : Room := { frames := 0, cells := 0, slots := 0, locals := 0 }
set_option maxHeartbeats 4000000 in
set_option maxRecDepth 100000 in
theorem c_X1_numberOf (l : Launch) (dC : Nat → ClassId) (dI : Nat → Nat → Nat) (ad : Nat → Nat) (cy : Nat → ClassId) (S : St) (c : Nat) (I : Inv S) (hc : c < 2147483648) : RoI l yX1_numberOf wsX1_numberOf rm_X1_numberOf [.ref (ad 0), .int (nI c)] (xB dC dI ad cy S) (numF S c) := by
  refine Ro_start (cc := cX1_numberOf) (maxL := 3) (ret := (some .int)) (lv := [(0, .ref (ad 0)), (1, .int (nI c))]) (by decide) rfl (Nat.le_of_ble_eq_true rfl) rfl ?_
  intro pp ee ss mm aa bl me co hx hb hr hml hts hown hlocks hnm hB ls hl
  obtain ⟨hP, hK⟩ := hB
  have hin : ∀ w ∈ wsX10, w ∈ wsX1_numberOf := fun w h => List.mem_cons_of_mem _ (List.mem_append_right _ h)
  have hf_44 := hts (.fieldLink RX1 44 "FaultEvidence" "votes" "[I") (by decide +kernel)
  have hf_48 := hts (.fieldLink RX1 48 "FaultEvidence" "voteCount" "I") (by decide +kernel)
  have I1 := I.n
  refine lv_iconst (v := (nI 0)) hx hb dX1_numberOf_0 (by decide) ?_
  refine lv_istore_n (lv' := [(2, .int (nI 0)), (0, .ref (ad 0)), (1, .int (nI c))]) hx hb dX1_numberOf_1 rfl hl (by decide) rfl (fun ls hl => ?_)
  have loop_2 : ∀ (n : Nat) (v : Nat), sVn S - v < n → (∀ i, i < v → numT S c i = false) → v ≤ sVn S → ∀ ls : Array Slot, lv_has ls 3 [(2, .int (nI v)), (0, .ref (ad 0)), (1, .int (nI c))] → W pp l ee rm_X1_numberOf ss mm aa bl me co ss.heap [] 0 0 (MQ bl (vp_Si (fun r => r = numF S c)) aa ss 0 0 (fun _ => False)) (F0 mm 2 ls []) := by
    intro n
    induction n with
    | zero => intro v hm; exact absurd hm (Nat.not_lt_zero _)
    | succ n ih =>
      intro v hm hno hvn ls hl
      refine lv_iload_n hx hb dX1_numberOf_2 rfl (lv_at hl 0 rfl) ?_
      refine lv_aload_n hx hb dX1_numberOf_3 rfl (lv_at hl 1 rfl) ?_
      refine va_get (D := (dC, dI)) (ci := 2) (v := .int (nI (sVn S))) (C := RX1) (T := TX1) (N := 14) hx hb hts hin hown hK hP 0 rfl rfl 9 (by decide) hf_48 (fun _ h9 => h9) rfl dX1_numberOf_4 ?_
      refine f_ige (tgt := 28) hx hb (nI_toInt (by omega)) (nI_toInt (by omega)) dX1_numberOf_7 (by decide) (fun c_1 => ?_) (fun c_1 => ?_)
      · refine lv_iconst (v := (-1)) hx hb dX1_numberOf_28 (by decide) ?_
        exact f_ri hx hb hr hlocks (by unfold numF; rw [fi_no (fun j hj => hno j (by omega)), if_neg (by omega)]) dX1_numberOf_29
      · have hv := I.v (v := v) (by omega)
        refine lv_aload_n hx hb dX1_numberOf_10 rfl (lv_at hl 1 rfl) ?_
        refine va_get (D := (dC, dI)) (ci := 2) (v := .ref (ad 7)) (C := RX1) (T := TX1) (N := 14) hx hb hts hin hown hK hP 0 rfl rfl 8 (by decide) hf_44 (fun _ h9 => h9) rfl dX1_numberOf_11 ?_
        refine lv_iload_n hx hb dX1_numberOf_14 rfl (lv_at hl 0 rfl) ?_
        refine f_iald hx hb hK hP 7 6 rfl rfl (k := v) (by omega) (by decide) (v := (nI (sVts S v))) rfl dX1_numberOf_15 ?_
        refine lv_iload_n hx hb dX1_numberOf_16 rfl (lv_at hl 2 rfl) ?_
        refine f_ine (tgt := 22) hx hb (nI_toInt (by omega)) (nI_toInt (by omega)) dX1_numberOf_17 (by decide) (fun c_2 => ?_) (fun c_2 => ?_)
        · have hz : numT S c v = false := by
            have e : ¬ sVts S v = c := by omega
            simp [numT, e]
          refine lv_iinc (v := (nI (v + 1))) (lv' := [(2, .int (nI (v + 1))), (0, .ref (ad 0)), (1, .int (nI c))]) hx hb dX1_numberOf_22 hl (k := 0) rfl (nI_add v 1) (by decide) rfl (fun ls hl => ?_)
          refine lv_goto (tgt := 2) hx hb dX1_numberOf_25 (by decide) ?_
          exact ih (v + 1) (by omega) (lt_s hno hz) (by omega) ls (lv_sub hl [0, 1, 2] rfl)
        · refine lv_iload_n hx hb dX1_numberOf_20 rfl (lv_at hl 0 rfl) ?_
          exact f_ri hx hb hr hlocks (by have e : sVts S v = c := (by omega); unfold numF; rw [fi_at hno (by simp [numT, e]) (by omega), if_pos (by omega)]) dX1_numberOf_21
  exact loop_2 (sVn S - 0 + 1) 0 (Nat.lt_succ_self _) (fun i hi => absurd hi (Nat.not_lt_zero _)) (Nat.zero_le _) ls (lv_sub hl [0, 1, 2] rfl)

abbrev rm_X1_weightFor : Room := { frames := 1, cells := 0, slots := 0, locals := 21 }
set_option maxHeartbeats 4000000 in
set_option maxRecDepth 100000 in
theorem c_X1_weightFor (l : Launch) (dC : Nat → ClassId) (dI : Nat → Nat → Nat) (ad : Nat → Nat) (cy : Nat → ClassId) (S : St) (c : Nat) (I : Inv S) (hc : c < 83968) : RoL l yX1_weightFor wsX1_weightFor rm_X1_weightFor [.ref (ad 0), .int (nI c)] (xB dC dI ad cy S) (lN (wfF S c)) := by
  refine Ro_start (cc := cX1_weightFor) (maxL := 7) (ret := (some .long)) (lv := [(0, .ref (ad 0)), (1, .int (nI c))]) (by decide) rfl (Nat.le_of_ble_eq_true rfl) rfl ?_
  intro pp ee ss mm aa bl me co hx hb hr hml hts hown hlocks hnm hB ls hl
  obtain ⟨hP, hK⟩ := hB
  have hin : ∀ w ∈ wsX10, w ∈ wsX1_weightFor := fun w h => List.mem_cons_of_mem _ (List.mem_append_right _ h)
  have hf_38 := hts (.fieldLink RX1 38 "FaultEvidence" "weights" "[J") (by decide +kernel)
  have hf_44 := hts (.fieldLink RX1 44 "FaultEvidence" "votes" "[I") (by decide +kernel)
  have hf_48 := hts (.fieldLink RX1 48 "FaultEvidence" "voteCount" "I") (by decide +kernel)
  have I1 := I.n
  refine lv_iload_n hx hb dX1_weightFor_0 rfl (lv_at hl 1 rfl) ?_
  refine lv_sipush (v := (-1793)) hx hb dX1_weightFor_1 (by decide) ?_
  refine lv_iand hx hb dX1_weightFor_4 ?_
  refine f_ti (y := (nI (c - c / 256 % 8 * 256))) (f_nm c hc) ?_
  refine lv_istore_n (lv' := [(2, .int (nI (c - c / 256 % 8 * 256))), (0, .ref (ad 0)), (1, .int (nI c))]) hx hb dX1_weightFor_5 rfl hl (by decide) rfl (fun ls hl => ?_)
  refine lv_iload_n hx hb dX1_weightFor_6 rfl (lv_at hl 2 rfl) ?_
  refine f_cSi (As := [.int (nI c)]) (rest := []) ⟨hx, hb, hml, hown, hts⟩ (c_X1_heightOf l c (by omega)) (va_cwS 1 hts gX1_weightFor_X1_heightOf rfl rfl rfl (by decide +kernel) ⟨Nat.le_of_ble_eq_true rfl, Nat.le_of_ble_eq_true rfl⟩) noB_bl noB_at rfl hl.1 rfl (Nat.le_of_ble_eq_true rfl) dX1_weightFor_7 ⟨Nat.zero_le _, Nat.zero_le _⟩ ?_
  refine lv_istore_n (lv' := [(3, .int (nI (c / 2048))), (2, .int (nI (c - c / 256 % 8 * 256))), (0, .ref (ad 0)), (1, .int (nI c))]) hx hb dX1_weightFor_10 rfl hl (by decide) rfl (fun ls hl => ?_)
  refine lv_lconst (v := (lN 0)) hx hb dX1_weightFor_11 (by decide) ?_
  refine lv_lstore (lv' := [(4, .long (lN 0)), (3, .int (nI (c / 2048))), (2, .int (nI (c - c / 256 % 8 * 256))), (0, .ref (ad 0)), (1, .int (nI c))]) hx hb dX1_weightFor_12 hl (by decide) rfl (fun ls hl => ?_)
  refine lv_iconst (v := (nI 0)) hx hb dX1_weightFor_14 (by decide) ?_
  refine lv_istore (lv' := [(6, .int (nI 0)), (4, .long (lN 0)), (3, .int (nI (c / 2048))), (2, .int (nI (c - c / 256 % 8 * 256))), (0, .ref (ad 0)), (1, .int (nI c))]) hx hb dX1_weightFor_15 hl (by decide) rfl (fun ls hl => ?_)
  have loop_17 : ∀ (n : Nat) (v : Nat) (w : Nat), sVn S - v < n → w = sm v (wfT S c) → v ≤ sVn S → ∀ ls : Array Slot, lv_has ls 7 [(6, .int (nI v)), (4, .long (lN w)), (3, .int (nI (c / 2048))), (2, .int (nI (c - c / 256 % 8 * 256))), (0, .ref (ad 0)), (1, .int (nI c))] → W pp l ee rm_X1_weightFor ss mm aa bl me co ss.heap [] 0 0 (MQ bl (vp_Sl (fun r => r = lN (wfF S c))) aa ss 0 0 (fun _ => False)) (F0 mm 17 ls []) := by
    intro n
    induction n with
    | zero => intro v w hm; exact absurd hm (Nat.not_lt_zero _)
    | succ n ih =>
      intro v w hm hw hvn ls hl
      refine lv_iload hx hb dX1_weightFor_17 (lv_at hl 0 rfl) ?_
      refine lv_aload_n hx hb dX1_weightFor_19 rfl (lv_at hl 4 rfl) ?_
      refine va_get (D := (dC, dI)) (ci := 2) (v := .int (nI (sVn S))) (C := RX1) (T := TX1) (N := 14) hx hb hts hin hown hK hP 0 rfl rfl 9 (by decide) hf_48 (fun _ h9 => h9) rfl dX1_weightFor_20 ?_
      refine f_ige (tgt := 71) hx hb (nI_toInt (by omega)) (nI_toInt (by omega)) dX1_weightFor_23 (by decide) (fun c_1 => ?_) (fun c_1 => ?_)
      · refine lv_lload hx hb dX1_weightFor_71 (lv_at hl 1 rfl) ?_
        exact f_rl hx hb hr hlocks (by have e : v = sVn S := (by omega); rw [hw, e]; rfl) dX1_weightFor_73
      · have hv := I.v (v := v) (by omega)
        refine lv_aload_n hx hb dX1_weightFor_26 rfl (lv_at hl 4 rfl) ?_
        refine va_get (D := (dC, dI)) (ci := 2) (v := .ref (ad 7)) (C := RX1) (T := TX1) (N := 14) hx hb hts hin hown hK hP 0 rfl rfl 8 (by decide) hf_44 (fun _ h9 => h9) rfl dX1_weightFor_27 ?_
        refine lv_iload hx hb dX1_weightFor_30 (lv_at hl 0 rfl) ?_
        refine f_iald hx hb hK hP 7 6 rfl rfl (k := v) (by omega) (by decide) (v := (nI (sVts S v))) rfl dX1_weightFor_32 ?_
        refine lv_sipush (v := (-1793)) hx hb dX1_weightFor_33 (by decide) ?_
        refine lv_iand hx hb dX1_weightFor_36 ?_
        refine f_ti (y := (nI (sVts S v - sVts S v / 256 % 8 * 256))) (f_nm _ (by omega)) ?_
        refine lv_iload_n hx hb dX1_weightFor_37 rfl (lv_at hl 3 rfl) ?_
        refine f_ine (tgt := 65) hx hb (nI_toInt (by omega)) (nI_toInt (by omega)) dX1_weightFor_38 (by decide) (fun c_2 => ?_) (fun c_2 => ?_)
        · refine lv_iinc (v := (nI (v + 1))) (lv' := [(6, .int (nI (v + 1))), (4, .long (lN w)), (3, .int (nI (c / 2048))), (2, .int (nI (c - c / 256 % 8 * 256))), (0, .ref (ad 0)), (1, .int (nI c))]) hx hb dX1_weightFor_65 hl (k := 0) rfl (nI_add v 1) (by decide) rfl (fun ls hl => ?_)
          refine lv_goto (tgt := 17) hx hb dX1_weightFor_68 (by decide) ?_
          exact ih (v + 1) w (by omega) (by rw [sm, ← hw]; unfold wfT; split <;> omega) (by omega) ls (lv_sub hl [0, 1, 2, 3, 4, 5] rfl)
        · refine lv_lload hx hb dX1_weightFor_41 (lv_at hl 1 rfl) ?_
          refine lv_aload_n hx hb dX1_weightFor_43 rfl (lv_at hl 4 rfl) ?_
          refine va_get (D := (dC, dI)) (ci := 2) (v := .ref (ad 5)) (C := RX1) (T := TX1) (N := 14) hx hb hts hin hown hK hP 0 rfl rfl 6 (by decide) hf_38 (fun _ h9 => h9) rfl dX1_weightFor_44 ?_
          refine lv_iload_n hx hb dX1_weightFor_47 rfl (lv_at hl 2 rfl) ?_
          refine lv_aload_n hx hb dX1_weightFor_48 rfl (lv_at hl 4 rfl) ?_
          refine va_get (D := (dC, dI)) (ci := 2) (v := .ref (ad 7)) (C := RX1) (T := TX1) (N := 14) hx hb hts hin hown hK hP 0 rfl rfl 8 (by decide) hf_44 (fun _ h9 => h9) rfl dX1_weightFor_49 ?_
          refine lv_iload hx hb dX1_weightFor_52 (lv_at hl 0 rfl) ?_
          refine f_iald hx hb hK hP 7 6 rfl rfl (k := v) (by omega) (by decide) (v := (nI (sVts S v))) rfl dX1_weightFor_54 ?_
          refine f_cSi (As := [.int (nI (sVts S v))]) (rest := [.int (nI (c / 2048)), .ref (ad 5), .long (lN w)]) ⟨hx, hb, hml, hown, hts⟩ (c_X1_nodeOf l (sVts S v) (by omega)) (va_cwS 1 hts gX1_weightFor_X1_nodeOf rfl rfl rfl (by decide +kernel) ⟨Nat.le_of_ble_eq_true rfl, Nat.le_of_ble_eq_true rfl⟩) noB_bl noB_at rfl hl.1 rfl (Nat.le_of_ble_eq_true rfl) dX1_weightFor_55 ⟨Nat.zero_le _, Nat.zero_le _⟩ ?_
          refine f_cSi (As := [.int (nI (c / 2048)), .int (nI ((sVts S v) / 256 % 8))]) (rest := [.ref (ad 5), .long (lN w)]) ⟨hx, hb, hml, hown, hts⟩ (c_X1_weightIndex l (c / 2048) ((sVts S v) / 256 % 8)) (va_cwS 2 hts gX1_weightFor_X1_weightIndex rfl rfl rfl (by decide +kernel) ⟨Nat.le_of_ble_eq_true rfl, Nat.le_of_ble_eq_true rfl⟩) noB_bl noB_at rfl hl.1 rfl (Nat.le_of_ble_eq_true rfl) dX1_weightFor_58 ⟨Nat.zero_le _, Nat.zero_le _⟩ ?_
          refine f_lald hx hb hK hP 5 4 rfl rfl (k := ((c / 2048) * 8 + ((sVts S v) / 256 % 8))) (by omega) (by decide) (v := (lN (sWts S ((c / 2048) * 8 + ((sVts S v) / 256 % 8))))) rfl dX1_weightFor_61 ?_
          refine lv_ladd hx hb dX1_weightFor_62 ?_
          refine f_tl (y := (lN (w + (sWts S ((c / 2048) * 8 + ((sVts S v) / 256 % 8)))))) (lN_add _ _) ?_
          refine lv_lstore (lv' := [(4, .long (lN (w + (sWts S ((c / 2048) * 8 + ((sVts S v) / 256 % 8)))))), (6, .int (nI v)), (3, .int (nI (c / 2048))), (2, .int (nI (c - c / 256 % 8 * 256))), (0, .ref (ad 0)), (1, .int (nI c))]) hx hb dX1_weightFor_63 hl (by decide) rfl (fun ls hl => ?_)
          refine lv_iinc (v := (nI (v + 1))) (lv' := [(6, .int (nI (v + 1))), (4, .long (lN (w + (sWts S ((c / 2048) * 8 + ((sVts S v) / 256 % 8)))))), (3, .int (nI (c / 2048))), (2, .int (nI (c - c / 256 % 8 * 256))), (0, .ref (ad 0)), (1, .int (nI c))]) hx hb dX1_weightFor_65 hl (k := 1) rfl (nI_add v 1) (by decide) rfl (fun ls hl => ?_)
          refine lv_goto (tgt := 17) hx hb dX1_weightFor_68 (by decide) ?_
          exact ih (v + 1) (w + (sWts S ((c / 2048) * 8 + ((sVts S v) / 256 % 8)))) (by omega) (by rw [sm, ← hw]; unfold wfT; split <;> omega) (by omega) ls (lv_sub hl [0, 1, 2, 3, 4, 5] rfl)
  exact loop_17 (sVn S - 0 + 1) 0 0 (Nat.lt_succ_self _) (rfl) (Nat.zero_le _) ls (lv_sub hl [0, 1, 2, 3, 4, 5] rfl)

abbrev rm_X1_voteRefusal : Room := { frames := 2, cells := 0, slots := 0, locals := 42 }
set_option maxHeartbeats 4000000 in
set_option maxRecDepth 100000 in
theorem c_X1_voteRefusal (l : Launch) (dC : Nat → ClassId) (dI : Nat → Nat → Nat) (ad : Nat → Nat) (cy : Nat → ClassId) (S : St) (x : Int32) (y : Int32) (u : Int32) (t : Int32) (b : Int32) (I : Inv S) : RoI l yX1_voteRefusal wsX1_voteRefusal rm_X1_voteRefusal [.ref (ad 0), .int x, .int y, .int u, .int t, .int b] (xB dC dI ad cy S) (vrF S x y u t b) := by
  refine Ro_start (cc := cX1_voteRefusal) (maxL := 6) (ret := (some .int)) (lv := [(0, .ref (ad 0)), (1, .int x), (2, .int y), (3, .int u), (4, .int t), (5, .int b)]) (by decide) rfl (Nat.le_of_ble_eq_true rfl) rfl ?_
  intro pp ee ss mm aa bl me co hx hb hr hml hts hown hlocks hnm hB ls hl
  obtain ⟨hP, hK⟩ := hB
  have hin : ∀ w ∈ wsX10, w ∈ wsX1_voteRefusal := fun w h => List.mem_cons_of_mem _ (List.mem_append_right _ h)
  have hf_38 := hts (.fieldLink RX1 38 "FaultEvidence" "weights" "[J") (by decide +kernel)
  have I1 := I.n
  refine lv_aload_n hx hb dX1_voteRefusal_0 rfl (lv_at hl 0 rfl) ?_
  refine lv_iload_n hx hb dX1_voteRefusal_1 rfl (lv_at hl 1 rfl) ?_
  refine f_cVi (As := [.int x]) (rest := []) ⟨hx, hb, hml, hown, hts⟩ (c_X1_isNode l dC dI ad cy S x I) (cwV 1 hts gX1_voteRefusal_X1_isNode rfl rfl rfl (by decide +kernel) ⟨Nat.le_of_ble_eq_true rfl, Nat.le_of_ble_eq_true rfl⟩) roB_bl (va_recv hK hP (ci := 2) (q0 := 0) rfl rfl) (roB_at hP hK) rfl hl.1 rfl (Nat.le_of_ble_eq_true rfl) dX1_voteRefusal_2 ⟨Nat.zero_le _, Nat.zero_le _⟩ ?_
  refine f_bne (tgt := 11) hx hb dX1_voteRefusal_5 (by decide) (fun c_1 => ?_) (fun c_1 => ?_)
  · refine lv_aload_n hx hb dX1_voteRefusal_11 rfl (lv_at hl 0 rfl) ?_
    refine lv_iload_n hx hb dX1_voteRefusal_12 rfl (lv_at hl 2 rfl) ?_
    refine f_cVi (As := [.int y]) (rest := []) ⟨hx, hb, hml, hown, hts⟩ (c_X1_isOpen l dC dI ad cy S y I) (cwV 1 hts gX1_voteRefusal_X1_isOpen rfl rfl rfl (by decide +kernel) ⟨Nat.le_of_ble_eq_true rfl, Nat.le_of_ble_eq_true rfl⟩) roB_bl (va_recv hK hP (ci := 2) (q0 := 0) rfl rfl) (roB_at hP hK) rfl hl.1 rfl (Nat.le_of_ble_eq_true rfl) dX1_voteRefusal_13 ⟨Nat.zero_le _, Nat.zero_le _⟩ ?_
    refine f_beq (tgt := 30) hx hb dX1_voteRefusal_16 (by decide) (fun c_2 => ?_) (fun c_2 => ?_)
    · refine lv_bipush (v := (-102)) hx hb dX1_voteRefusal_30 (by decide) ?_
      exact f_ri hx hb hr hlocks (by simp [vrF, c_1, c_2]) dX1_voteRefusal_32
    · refine lv_iload_n hx hb dX1_voteRefusal_19 rfl (lv_at hl 3 rfl) ?_
      refine lv_iload hx hb dX1_voteRefusal_20 (lv_at hl 4 rfl) ?_
      refine lv_iload hx hb dX1_voteRefusal_22 (lv_at hl 5 rfl) ?_
      refine f_cSi (As := [.int u, .int t, .int b]) (rest := []) ⟨hx, hb, hml, hown, hts⟩ (c_X1_isSayable l u t b) (va_cwS 3 hts gX1_voteRefusal_X1_isSayable rfl rfl rfl (by decide +kernel) ⟨Nat.le_of_ble_eq_true rfl, Nat.le_of_ble_eq_true rfl⟩) noB_bl noB_at rfl hl.1 rfl (Nat.le_of_ble_eq_true rfl) dX1_voteRefusal_24 ⟨Nat.zero_le _, Nat.zero_le _⟩ ?_
      refine f_bne (tgt := 33) hx hb dX1_voteRefusal_27 (by decide) (fun c_3 => ?_) (fun c_3 => ?_)
      · have d1 := c_1
        have d2 := c_2
        simp only [isNd, Bool.and_eq_true, decide_eq_true_eq] at d1
        simp only [isOp, isBg, Bool.and_eq_true, decide_eq_true_eq] at d2
        obtain ⟨k, hk, rfl⟩ := in_nI (n := sNn S) (x := x) (by omega) (by omega)
        obtain ⟨h, hh, rfl⟩ := in_nI (n := sHh S + 1) (x := y) (by omega) (by omega)
        have e1 := nI_toInt (n := k) (by omega)
        have e2 := nI_toInt (n := h) (by omega)
        have I4 := I.w (h * 8 + k)
        refine lv_aload_n hx hb dX1_voteRefusal_33 rfl (lv_at hl 0 rfl) ?_
        refine va_get (D := (dC, dI)) (ci := 2) (v := .ref (ad 5)) (C := RX1) (T := TX1) (N := 14) hx hb hts hin hown hK hP 0 rfl rfl 6 (by decide) hf_38 (fun _ h9 => h9) rfl dX1_voteRefusal_34 ?_
        refine lv_iload_n hx hb dX1_voteRefusal_37 rfl (lv_at hl 2 rfl) ?_
        refine lv_iload_n hx hb dX1_voteRefusal_38 rfl (lv_at hl 1 rfl) ?_
        refine f_cSi (As := [.int (nI h), .int (nI k)]) (rest := [.ref (ad 5)]) ⟨hx, hb, hml, hown, hts⟩ (c_X1_weightIndex l h k) (va_cwS 2 hts gX1_voteRefusal_X1_weightIndex rfl rfl rfl (by decide +kernel) ⟨Nat.le_of_ble_eq_true rfl, Nat.le_of_ble_eq_true rfl⟩) noB_bl noB_at rfl hl.1 rfl (Nat.le_of_ble_eq_true rfl) dX1_voteRefusal_39 ⟨Nat.zero_le _, Nat.zero_le _⟩ ?_
        refine f_lald hx hb hK hP 5 4 rfl rfl (k := (h * 8 + k)) (by omega) (by decide) (v := (lN (sWts S (h * 8 + k)))) rfl dX1_voteRefusal_42 ?_
        refine lv_lconst (v := (lN 0)) hx hb dX1_voteRefusal_43 (by decide) ?_
        refine f_lne (tgt := 53) hx hb (pk_lT (by omega)) (pk_lT (by omega)) dX1_voteRefusal_44 dX1_voteRefusal_45 (by decide) (fun c_4 => ?_) (fun c_4 => ?_)
        · refine lv_iconst (v := (nI 0)) hx hb dX1_voteRefusal_53 (by decide) ?_
          exact f_ri hx hb hr hlocks (by have d : sWts S (h * 8 + k) = 0 ∨ ¬ sWts S (h * 8 + k) = 0 := Nat.eq_zero_or_pos _ |>.imp id (by omega); simp only [vrF, e1, e2, Int.toNat_natCast, c_1, c_2, c_3]; first | (rw [if_neg (by decide), if_neg (by decide), if_pos (by omega)]) | (rw [if_neg (by decide), if_neg (by decide), if_neg (by omega)])) dX1_voteRefusal_54
        · refine lv_bipush (v := (-103)) hx hb dX1_voteRefusal_48 (by decide) ?_
          refine lv_goto (tgt := 54) hx hb dX1_voteRefusal_50 (by decide) ?_
          exact f_ri hx hb hr hlocks (by have d : sWts S (h * 8 + k) = 0 ∨ ¬ sWts S (h * 8 + k) = 0 := Nat.eq_zero_or_pos _ |>.imp id (by omega); simp only [vrF, e1, e2, Int.toNat_natCast, c_1, c_2, c_3]; first | (rw [if_neg (by decide), if_neg (by decide), if_pos (by omega)]) | (rw [if_neg (by decide), if_neg (by decide), if_neg (by omega)])) dX1_voteRefusal_54
      · refine lv_bipush (v := (-102)) hx hb dX1_voteRefusal_30 (by decide) ?_
        exact f_ri hx hb hr hlocks (by simp [vrF, c_1, c_2, c_3]) dX1_voteRefusal_32
  · refine lv_bipush (v := (-101)) hx hb dX1_voteRefusal_8 (by decide) ?_
    exact f_ri hx hb hr hlocks (by simp [vrF, c_1]) dX1_voteRefusal_10
end
section
/-! what the calls answer that change nothing, out of the state -/
def tn (x : Int32) : Nat := x.toInt.toNat
theorem tn_nI {n : Nat} (h : n < 2147483648) : tn (nI n) = n := by
  unfold tn
  rw [nI_toInt h]
  exact Int.toNat_natCast n
theorem nd_of {S : St} {x : Int32} (h : isNd S x = true) : ∃ k : Nat, k < sNn S ∧ x = nI k := by
  simp only [isNd, Bool.and_eq_true, decide_eq_true_eq] at h
  exact in_nI h.1 h.2
theorem vt_of {S : St} {x : Int32} (h : isVt S x = true) : ∃ k : Nat, k < sVn S ∧ x = nI k := by
  simp only [isVt, Bool.and_eq_true, decide_eq_true_eq] at h
  exact in_nI h.1 h.2
theorem kd_of {x : Int32} (h : isKd x = true) : ∃ k : Nat, k < 3 ∧ x = nI k := by
  simp only [isKd, Bool.and_eq_true, decide_eq_true_eq] at h
  exact in_nI (n := 3) h.1 h.2
theorem bg_of {S : St} {x : Int32} (h : isBg S x = true) : ∃ k : Nat, 1 ≤ k ∧ k ≤ sHh S ∧ x = nI k := by
  simp only [isBg, Bool.and_eq_true, decide_eq_true_eq] at h
  obtain ⟨k, hk, e⟩ := in_nI (n := sHh S + 1) (x := x) (by omega) (by omega)
  refine ⟨k, ?_, by omega, e⟩
  rcases Nat.eq_zero_or_pos k with q | q
  · subst q; subst e; exact absurd h.1 (by decide)
  · exact q
theorem op_of {S : St} (hS : sHh S ≤ 40) {x : Int32} (h : isOp S x = true) : ∃ k : Nat, 1 ≤ k ∧ k ≤ sHh S ∧ sHh S ≤ k + 1 ∧ x = nI k := by
  simp only [isOp, Bool.and_eq_true, decide_eq_true_eq] at h
  obtain ⟨k, h1, h2, rfl⟩ := bg_of h.1
  have := nI_toInt (n := k) (by omega)
  exact ⟨k, h1, h2, by omega, rfl⟩
theorem sy_of {r t b : Int32} (h : isSy r t b = true) : ∃ i j k : Nat, i < 8 ∧ j < 2 ∧ k < 10 ∧ r = nI i ∧ t = nI j ∧ b = nI k := by
  simp only [isSy, Bool.and_eq_true, decide_eq_true_eq] at h
  obtain ⟨i, hi, e1⟩ := in_nI (n := 8) (x := r) (by omega) (by omega)
  obtain ⟨j, hj, e2⟩ := in_nI (n := 2) (x := t) (by omega) (by omega)
  obtain ⟨k, hk, e3⟩ := in_nI (n := 10) (x := b) (by omega) (by omega)
  exact ⟨i, j, k, hi, hj, hk, e1, e2, e3⟩
theorem vr_fine {S : St} (hS : Inv S) {x y r t b : Int32} (h : (vrF S x y r t b).toInt = 0) : ∃ k u i j z : Nat, x = nI k ∧ y = nI u ∧ r = nI i ∧ t = nI j ∧ b = nI z ∧ k < sNn S ∧ 1 ≤ u ∧ u ≤ sHh S ∧ sHh S ≤ u + 1 ∧ i < 8 ∧ j < 2 ∧ z < 10 ∧ sWts S (u * 8 + k) ≠ 0 ∧ vrF S x y r t b = nI 0 := by
  have I1 := hS.n
  have e : vrF S x y r t b = nI 0 := Int32.toInt_inj.mp h
  unfold vrF at h
  split at h
  · exact absurd h (by decide)
  split at h
  · exact absurd h (by decide)
  split at h
  · exact absurd h (by decide)
  rename_i h1 h2 h3
  rw [Bool.not_eq_false] at h1 h2
  rw [Bool.and_eq_true] at h2
  obtain ⟨k, hk, rfl⟩ := nd_of h1
  obtain ⟨u, u1, u2, u3, rfl⟩ := op_of I1.2.1 h2.1
  obtain ⟨i, j, z, hi, hj, hz, rfl, rfl, rfl⟩ := sy_of h2.2
  have e1 := nI_toInt (n := k) (by omega)
  have e2 := nI_toInt (n := u) (by omega)
  rw [e1, e2, Int.toNat_natCast, Int.toNat_natCast] at h3
  exact ⟨k, u, i, j, z, rfl, rfl, rfl, rfl, rfl, hk, u1, u2, u3, hi, hj, hz, h3, e⟩
def maF (S : St) (x y u t b : Int32) : Int32 := if vrF S x y u t b = nI 0 then (if mkF S (vC (tn x) (tn y) (tn u) (tn t) (tn b)) = true then nI 0 else nI 1) else vrF S x y u t b
def sdF (S : St) (x y : Int32) : Int32 := if isVt S x = false then -101 else if y.toInt = 0 then nI (sVts S (tn x) / 256 % 8) else if y.toInt = 1 then nI (sVts S (tn x) / 2048) else if y.toInt = 2 then nI (sVts S (tn x) / 32 % 8) else if y.toInt = 3 then nI (sVts S (tn x) / 16 % 2) else if y.toInt = 4 then nI (sVts S (tn x) % 16) else -102
def wtF (S : St) (x y : Int32) : Int64 := if isNN S y = false then -101 else if isBg S x = false then -102 else if y.toInt = -1 then lN (sTot S (tn x)) else lN (sWts S (tn x * 8 + tn y))
def bdF (S : St) (x u t b : Int32) : Int64 := if (isBg S x && isSy u t b) = false then -102 else lN (wfF S (vC 0 (tn x) (tn u) (tn t) (tn b)))
def cnO (S : St) (h j : Nat) : Nat := if ctF S h j = true then 1 else 0
def cnT (S : St) (h : Nat) (i : Int) (b : Nat) : Bool := ctF S h b && decide ((sm b (cnO S h) : Int) = i)
def cnF (S : St) (x y : Int32) : Int32 := if isBg S x = false then -102 else if fi 10 (cnT S (tn x) y.toInt) < 10 then nI (fi 10 (cnT S (tn x) y.toInt)) else -1
def bsT (S : St) (h q a : Nat) : Nat := if sVts S a / 2048 = h then cfF S q a else 0
def bsF (S : St) (x y : Int32) : Int32 := if (isBg S x && isKd y) = false then -102 else nI (sm (sVn S) (bsT S (tn x) (tn y)))
def bnT (S : St) (h q i a : Nat) : Bool := decide (sm a (bsT S h q) ≤ i) && decide (i < sm a (bsT S h q) + bsT S h q a)
def bnA (S : St) (h q i : Nat) : Nat := fi (sVn S) (bnT S h q i)
def bnF (S : St) (x y z u : Int32) : Int32 := if (isBg S x && isKd y && decide (0 ≤ u.toInt) && decide (u.toInt ≤ 1)) = false then -102 else if z.toInt < 0 then -1 else if bnA S (tn x) (tn y) (tn z) < sVn S then (if u.toInt = 0 then nI (bnA S (tn x) (tn y) (tn z)) else ptF S (tn y) (bnA S (tn x) (tn y) (tn z)) (tn z - sm (bnA S (tn x) (tn y) (tn z)) (bsT S (tn x) (tn y)))) else -1
def nmT (S : St) (h k a : Nat) : Bool := decide (sVts S a / 2048 = h) && decide (sVts S a / 256 % 8 = k) && mkF S (sVts S a)
def nmF (S : St) (x : Int32) : Int32 := if isBg S x = false then -102 else nI (bitS 8 (fun k => ex (sVn S) (nmT S (tn x) k)))
theorem cfT_le (S : St) (q a b : Nat) : cfT S q a b ≤ 1 := by
  unfold cfT
  by_cases h : ((if q = 0 then a + 1 else 0) ≤ b ∧ prF S q (sVts S a) (sVts S b) = true)
  · rw [if_pos h]; exact Nat.le_refl 1
  · rw [if_neg h]; exact Nat.zero_le 1
theorem cfF_le {S : St} (I : Inv S) (q a : Nat) : cfF S q a ≤ 300 := by
  have I1 := I.n
  have := sm_le (n := sVn S) (f := cfT S q a) (B := 1) (fun i _ => cfT_le S q a i)
  unfold cfF
  split
  · split <;> omega
  · omega
theorem bitS_ext {n x : Nat} {f : Nat → Bool} (hx : x < 2 ^ n) (h : ∀ b, b < n → x.testBit b = f b) : x = bitS n f := by
  apply Nat.eq_of_testBit_eq
  intro b
  rw [bitS_tb]
  rcases Nat.lt_or_ge b n with q | q
  · rw [h b q]; simp [q]
  · have : x.testBit b = false := Nat.testBit_lt_two_pow (Nat.lt_of_lt_of_le hx (Nat.pow_le_pow_right (by decide) q))
    have q2 : ¬ b < n := by omega
    rw [this]; simp [q2]
theorem nm_same {S : St} {h v M : Nat} (hM : M = bitS 8 (fun k => ex v (nmT S h k))) (hz : ∀ k, k < 8 → nmT S h k v = true → ex v (nmT S h k) = true) : M = bitS 8 (fun k => ex (v + 1) (nmT S h k)) := by
  refine bitS_ext (by rw [hM]; exact bitS_lt 8 _) (fun b hb => ?_)
  rw [hM, bitS_tb, ex]
  cases hq : nmT S h b v with
  | false => simp [hb]
  | true => rw [hz b hb hq]; simp [hb]
theorem nm_add {S : St} {h v M k : Nat} (hM : M = bitS 8 (fun k => ex v (nmT S h k))) (hk : k < 8) (hz : ∀ j, j < 8 → nmT S h j v = decide (k = j)) : M ||| 2 ^ k = bitS 8 (fun k => ex (v + 1) (nmT S h k)) := by
  refine bitS_ext (Nat.or_lt_two_pow (by rw [hM]; exact bitS_lt 8 _) (Nat.pow_lt_pow_right (by decide) hk)) (fun b hb => ?_)
  rw [Nat.testBit_or, hM, bitS_tb, ex, Nat.testBit_two_pow, hz b hb]
  simp [hb]
end
section
abbrev rm_X1_may : Room := { frames := 6, cells := 0, slots := 0, locals := 137 }
set_option maxHeartbeats 4000000 in
set_option maxRecDepth 100000 in
theorem c_X1_may (l : Launch) (dC : Nat → ClassId) (dI : Nat → Nat → Nat) (ad : Nat → Nat) (cy : Nat → ClassId) (S : St) (x : Int32) (y : Int32) (u : Int32) (t : Int32) (b : Int32) (I : Inv S) : RoI l yX1_may wsX1_may rm_X1_may [.ref (ad 0), .int x, .int y, .int u, .int t, .int b] (xB dC dI ad cy S) (maF S x y u t b) := by
  refine Ro_start (cc := cX1_may) (maxL := 7) (ret := (some .int)) (lv := [(0, .ref (ad 0)), (1, .int x), (2, .int y), (3, .int u), (4, .int t), (5, .int b)]) (by decide) rfl (Nat.le_of_ble_eq_true rfl) rfl ?_
  intro pp ee ss mm aa bl me co hx hb hr hml hts hown hlocks hnm hB ls hl
  obtain ⟨hP, hK⟩ := hB
  have I1 := I.n
  refine lv_aload_n hx hb dX1_may_0 rfl (lv_at hl 0 rfl) ?_
  refine lv_iload_n hx hb dX1_may_1 rfl (lv_at hl 1 rfl) ?_
  refine lv_iload_n hx hb dX1_may_2 rfl (lv_at hl 2 rfl) ?_
  refine lv_iload_n hx hb dX1_may_3 rfl (lv_at hl 3 rfl) ?_
  refine lv_iload hx hb dX1_may_4 (lv_at hl 4 rfl) ?_
  refine lv_iload hx hb dX1_may_6 (lv_at hl 5 rfl) ?_
  refine f_cVi (As := [.int x, .int y, .int u, .int t, .int b]) (rest := []) ⟨hx, hb, hml, hown, hts⟩ (c_X1_voteRefusal l dC dI ad cy S x y u t b I) (cwV 5 hts gX1_may_X1_voteRefusal rfl rfl rfl (by decide +kernel) ⟨Nat.le_of_ble_eq_true rfl, Nat.le_of_ble_eq_true rfl⟩) roB_bl (va_recv hK hP (ci := 2) (q0 := 0) rfl rfl) (roB_at hP hK) rfl hl.1 rfl (Nat.le_of_ble_eq_true rfl) dX1_may_8 ⟨Nat.zero_le _, Nat.zero_le _⟩ ?_
  refine lv_istore (lv' := [(6, .int (vrF S x y u t b)), (0, .ref (ad 0)), (1, .int x), (2, .int y), (3, .int u), (4, .int t), (5, .int b)]) hx hb dX1_may_11 hl (by decide) rfl (fun ls hl => ?_)
  refine lv_iload hx hb dX1_may_13 (lv_at hl 0 rfl) ?_
  refine f_0eq (tgt := 21) hx hb (rfl) dX1_may_15 (by decide) (fun c_1 => ?_) (fun c_1 => ?_)
  · obtain ⟨k, h, i, j, z, rfl, rfl, rfl, rfl, rfl, hk, h1, h2, h3, hi, hj, hz, hw, hv⟩ := vr_fine I c_1
    refine lv_aload_n hx hb dX1_may_21 rfl (lv_at hl 1 rfl) ?_
    refine lv_iload_n hx hb dX1_may_22 rfl (lv_at hl 2 rfl) ?_
    refine lv_iload_n hx hb dX1_may_23 rfl (lv_at hl 3 rfl) ?_
    refine lv_iload_n hx hb dX1_may_24 rfl (lv_at hl 4 rfl) ?_
    refine lv_iload hx hb dX1_may_25 (lv_at hl 5 rfl) ?_
    refine lv_iload hx hb dX1_may_27 (lv_at hl 6 rfl) ?_
    refine f_cSi (As := [.int (nI k), .int (nI h), .int (nI i), .int (nI j), .int (nI z)]) (rest := [.ref (ad 0)]) ⟨hx, hb, hml, hown, hts⟩ (c_X1_packed l k h i j z (by omega) (by omega) (by omega) (by omega) (by omega)) (va_cwS 5 hts gX1_may_X1_packed rfl rfl rfl (by decide +kernel) ⟨Nat.le_of_ble_eq_true rfl, Nat.le_of_ble_eq_true rfl⟩) noB_bl noB_at rfl hl.1 rfl (Nat.le_of_ble_eq_true rfl) dX1_may_29 ⟨Nat.zero_le _, Nat.zero_le _⟩ ?_
    have hcc : vC k h i j z < 83968 ∧ vC k h i j z % 16 < 10 := by unfold vC; omega
    refine f_cVi (As := [.int (nI (vC k h i j z))]) (rest := []) ⟨hx, hb, hml, hown, hts⟩ (c_X1_makesBreak l dC dI ad cy S (vC k h i j z) I (by omega) (by omega)) (cwV 1 hts gX1_may_X1_makesBreak rfl rfl rfl (by decide +kernel) ⟨Nat.le_of_ble_eq_true rfl, Nat.le_of_ble_eq_true rfl⟩) roB_bl (va_recv hK hP (ci := 2) (q0 := 0) rfl rfl) (roB_at hP hK) rfl hl.1 rfl (Nat.le_of_ble_eq_true rfl) dX1_may_32 ⟨Nat.zero_le _, Nat.zero_le _⟩ ?_
    refine f_beq (tgt := 42) hx hb dX1_may_35 (by decide) (fun c_2 => ?_) (fun c_2 => ?_)
    · refine lv_iconst (v := (nI 1)) hx hb dX1_may_42 (by decide) ?_
      exact f_ri hx hb hr hlocks (by simp only [maF]; rw [if_pos hv, tn_nI (by omega), tn_nI (by omega), tn_nI (by omega), tn_nI (by omega), tn_nI (by omega), c_2]; rfl) dX1_may_43
    · refine lv_iconst (v := (nI 0)) hx hb dX1_may_38 (by decide) ?_
      refine lv_goto (tgt := 43) hx hb dX1_may_39 (by decide) ?_
      exact f_ri hx hb hr hlocks (by simp only [maF]; rw [if_pos hv, tn_nI (by omega), tn_nI (by omega), tn_nI (by omega), tn_nI (by omega), tn_nI (by omega), c_2]; rfl) dX1_may_43
  · refine lv_iload hx hb dX1_may_18 (lv_at hl 0 rfl) ?_
    exact f_ri hx hb hr hlocks (by have e : ¬ vrF S x y u t b = nI 0 := (fun e => c_1 (by rw [e]; rfl)); rw [maF, if_neg e]) dX1_may_20

abbrev rm_X1_said : Room := { frames := 1, cells := 0, slots := 0, locals := 21 }
set_option maxHeartbeats 4000000 in
set_option maxRecDepth 100000 in
theorem c_X1_said (l : Launch) (dC : Nat → ClassId) (dI : Nat → Nat → Nat) (ad : Nat → Nat) (cy : Nat → ClassId) (S : St) (x : Int32) (y : Int32) (I : Inv S) : RoI l yX1_said wsX1_said rm_X1_said [.ref (ad 0), .int x, .int y] (xB dC dI ad cy S) (sdF S x y) := by
  refine Ro_start (cc := cX1_said) (maxL := 3) (ret := (some .int)) (lv := [(0, .ref (ad 0)), (1, .int x), (2, .int y)]) (by decide) rfl (Nat.le_of_ble_eq_true rfl) rfl ?_
  intro pp ee ss mm aa bl me co hx hb hr hml hts hown hlocks hnm hB ls hl
  obtain ⟨hP, hK⟩ := hB
  have hin : ∀ w ∈ wsX10, w ∈ wsX1_said := fun w h => List.mem_cons_of_mem _ (List.mem_append_right _ h)
  have hf_44 := hts (.fieldLink RX1 44 "FaultEvidence" "votes" "[I") (by decide +kernel)
  have I1 := I.n
  refine lv_aload_n hx hb dX1_said_0 rfl (lv_at hl 0 rfl) ?_
  refine lv_iload_n hx hb dX1_said_1 rfl (lv_at hl 1 rfl) ?_
  refine f_cVi (As := [.int x]) (rest := []) ⟨hx, hb, hml, hown, hts⟩ (c_X1_isVote l dC dI ad cy S x I) (cwV 1 hts gX1_said_X1_isVote rfl rfl rfl (by decide +kernel) ⟨Nat.le_of_ble_eq_true rfl, Nat.le_of_ble_eq_true rfl⟩) roB_bl (va_recv hK hP (ci := 2) (q0 := 0) rfl rfl) (roB_at hP hK) rfl hl.1 rfl (Nat.le_of_ble_eq_true rfl) dX1_said_2 ⟨Nat.zero_le _, Nat.zero_le _⟩ ?_
  refine f_bne (tgt := 11) hx hb dX1_said_5 (by decide) (fun c_1 => ?_) (fun c_1 => ?_)
  · obtain ⟨v, hv, rfl⟩ := vt_of c_1
    have hw := I.v hv
    have ht := tn_nI (n := v) (by omega)
    have c0 := c_1
    refine lv_iload_n hx hb dX1_said_11 rfl (lv_at hl 2 rfl) ?_
    by_cases c_2 : Int32.toInt y = 0
    · refine lv_tableIn (tgt := 48) hx hb dX1_said_12 (by omega) (by omega) (off := 36) (by rw [c_2]; rfl) (by decide) ?_
      refine lv_aload_n hx hb dX1_said_48 rfl (lv_at hl 0 rfl) ?_
      refine va_get (D := (dC, dI)) (ci := 2) (v := .ref (ad 7)) (C := RX1) (T := TX1) (N := 14) hx hb hts hin hown hK hP 0 rfl rfl 8 (by decide) hf_44 (fun _ h9 => h9) rfl dX1_said_49 ?_
      refine lv_iload_n hx hb dX1_said_52 rfl (lv_at hl 1 rfl) ?_
      refine f_iald hx hb hK hP 7 6 rfl rfl (k := v) (by omega) (by decide) (v := (nI (sVts S v))) rfl dX1_said_53 ?_
      refine f_cSi (As := [.int (nI (sVts S v))]) (rest := []) ⟨hx, hb, hml, hown, hts⟩ (c_X1_nodeOf l (sVts S v) (by omega)) (va_cwS 1 hts gX1_said_X1_nodeOf rfl rfl rfl (by decide +kernel) ⟨Nat.le_of_ble_eq_true rfl, Nat.le_of_ble_eq_true rfl⟩) noB_bl noB_at rfl hl.1 rfl (Nat.le_of_ble_eq_true rfl) dX1_said_54 ⟨Nat.zero_le _, Nat.zero_le _⟩ ?_
      exact f_ri hx hb hr hlocks (by simp [sdF, ht, *]) dX1_said_57
    by_cases c_3 : Int32.toInt y = 1
    · refine lv_tableIn (tgt := 58) hx hb dX1_said_12 (by omega) (by omega) (off := 46) (by rw [c_3]; rfl) (by decide) ?_
      refine lv_aload_n hx hb dX1_said_58 rfl (lv_at hl 0 rfl) ?_
      refine va_get (D := (dC, dI)) (ci := 2) (v := .ref (ad 7)) (C := RX1) (T := TX1) (N := 14) hx hb hts hin hown hK hP 0 rfl rfl 8 (by decide) hf_44 (fun _ h9 => h9) rfl dX1_said_59 ?_
      refine lv_iload_n hx hb dX1_said_62 rfl (lv_at hl 1 rfl) ?_
      refine f_iald hx hb hK hP 7 6 rfl rfl (k := v) (by omega) (by decide) (v := (nI (sVts S v))) rfl dX1_said_63 ?_
      refine f_cSi (As := [.int (nI (sVts S v))]) (rest := []) ⟨hx, hb, hml, hown, hts⟩ (c_X1_heightOf l (sVts S v) (by omega)) (va_cwS 1 hts gX1_said_X1_heightOf rfl rfl rfl (by decide +kernel) ⟨Nat.le_of_ble_eq_true rfl, Nat.le_of_ble_eq_true rfl⟩) noB_bl noB_at rfl hl.1 rfl (Nat.le_of_ble_eq_true rfl) dX1_said_64 ⟨Nat.zero_le _, Nat.zero_le _⟩ ?_
      exact f_ri hx hb hr hlocks (by simp [sdF, ht, *]) dX1_said_67
    by_cases c_4 : Int32.toInt y = 2
    · refine lv_tableIn (tgt := 68) hx hb dX1_said_12 (by omega) (by omega) (off := 56) (by rw [c_4]; rfl) (by decide) ?_
      refine lv_aload_n hx hb dX1_said_68 rfl (lv_at hl 0 rfl) ?_
      refine va_get (D := (dC, dI)) (ci := 2) (v := .ref (ad 7)) (C := RX1) (T := TX1) (N := 14) hx hb hts hin hown hK hP 0 rfl rfl 8 (by decide) hf_44 (fun _ h9 => h9) rfl dX1_said_69 ?_
      refine lv_iload_n hx hb dX1_said_72 rfl (lv_at hl 1 rfl) ?_
      refine f_iald hx hb hK hP 7 6 rfl rfl (k := v) (by omega) (by decide) (v := (nI (sVts S v))) rfl dX1_said_73 ?_
      refine f_cSi (As := [.int (nI (sVts S v))]) (rest := []) ⟨hx, hb, hml, hown, hts⟩ (c_X1_roundOf l (sVts S v) (by omega)) (va_cwS 1 hts gX1_said_X1_roundOf rfl rfl rfl (by decide +kernel) ⟨Nat.le_of_ble_eq_true rfl, Nat.le_of_ble_eq_true rfl⟩) noB_bl noB_at rfl hl.1 rfl (Nat.le_of_ble_eq_true rfl) dX1_said_74 ⟨Nat.zero_le _, Nat.zero_le _⟩ ?_
      exact f_ri hx hb hr hlocks (by simp [sdF, ht, *]) dX1_said_77
    by_cases c_5 : Int32.toInt y = 3
    · refine lv_tableIn (tgt := 78) hx hb dX1_said_12 (by omega) (by omega) (off := 66) (by rw [c_5]; rfl) (by decide) ?_
      refine lv_aload_n hx hb dX1_said_78 rfl (lv_at hl 0 rfl) ?_
      refine va_get (D := (dC, dI)) (ci := 2) (v := .ref (ad 7)) (C := RX1) (T := TX1) (N := 14) hx hb hts hin hown hK hP 0 rfl rfl 8 (by decide) hf_44 (fun _ h9 => h9) rfl dX1_said_79 ?_
      refine lv_iload_n hx hb dX1_said_82 rfl (lv_at hl 1 rfl) ?_
      refine f_iald hx hb hK hP 7 6 rfl rfl (k := v) (by omega) (by decide) (v := (nI (sVts S v))) rfl dX1_said_83 ?_
      refine f_cSi (As := [.int (nI (sVts S v))]) (rest := []) ⟨hx, hb, hml, hown, hts⟩ (c_X1_stepOf l (sVts S v) (by omega)) (va_cwS 1 hts gX1_said_X1_stepOf rfl rfl rfl (by decide +kernel) ⟨Nat.le_of_ble_eq_true rfl, Nat.le_of_ble_eq_true rfl⟩) noB_bl noB_at rfl hl.1 rfl (Nat.le_of_ble_eq_true rfl) dX1_said_84 ⟨Nat.zero_le _, Nat.zero_le _⟩ ?_
      exact f_ri hx hb hr hlocks (by simp [sdF, ht, *]) dX1_said_87
    by_cases c_6 : Int32.toInt y = 4
    · refine lv_tableIn (tgt := 88) hx hb dX1_said_12 (by omega) (by omega) (off := 76) (by rw [c_6]; rfl) (by decide) ?_
      refine lv_aload_n hx hb dX1_said_88 rfl (lv_at hl 0 rfl) ?_
      refine va_get (D := (dC, dI)) (ci := 2) (v := .ref (ad 7)) (C := RX1) (T := TX1) (N := 14) hx hb hts hin hown hK hP 0 rfl rfl 8 (by decide) hf_44 (fun _ h9 => h9) rfl dX1_said_89 ?_
      refine lv_iload_n hx hb dX1_said_92 rfl (lv_at hl 1 rfl) ?_
      refine f_iald hx hb hK hP 7 6 rfl rfl (k := v) (by omega) (by decide) (v := (nI (sVts S v))) rfl dX1_said_93 ?_
      refine f_cSi (As := [.int (nI (sVts S v))]) (rest := []) ⟨hx, hb, hml, hown, hts⟩ (c_X1_blockOf l (sVts S v) (by omega)) (va_cwS 1 hts gX1_said_X1_blockOf rfl rfl rfl (by decide +kernel) ⟨Nat.le_of_ble_eq_true rfl, Nat.le_of_ble_eq_true rfl⟩) noB_bl noB_at rfl hl.1 rfl (Nat.le_of_ble_eq_true rfl) dX1_said_94 ⟨Nat.zero_le _, Nat.zero_le _⟩ ?_
      exact f_ri hx hb hr hlocks (by simp [sdF, ht, *]) dX1_said_97
    refine lv_tableOut (tgt := 98) hx hb dX1_said_12 (by omega) (by decide) ?_
    refine lv_bipush (v := (-102)) hx hb dX1_said_98 (by decide) ?_
    exact f_ri hx hb hr hlocks (by simp [sdF, ht, *]) dX1_said_100
  · refine lv_bipush (v := (-101)) hx hb dX1_said_8 (by decide) ?_
    exact f_ri hx hb hr hlocks (by simp [sdF, c_1]) dX1_said_10

abbrev rm_X1_weight : Room := { frames := 2, cells := 0, slots := 0, locals := 42 }
set_option maxHeartbeats 4000000 in
set_option maxRecDepth 100000 in
theorem c_X1_weight (l : Launch) (dC : Nat → ClassId) (dI : Nat → Nat → Nat) (ad : Nat → Nat) (cy : Nat → ClassId) (S : St) (x : Int32) (y : Int32) (I : Inv S) : RoL l yX1_weight wsX1_weight rm_X1_weight [.ref (ad 0), .int x, .int y] (xB dC dI ad cy S) (wtF S x y) := by
  refine Ro_start (cc := cX1_weight) (maxL := 3) (ret := (some .long)) (lv := [(0, .ref (ad 0)), (1, .int x), (2, .int y)]) (by decide) rfl (Nat.le_of_ble_eq_true rfl) rfl ?_
  intro pp ee ss mm aa bl me co hx hb hr hml hts hown hlocks hnm hB ls hl
  obtain ⟨hP, hK⟩ := hB
  have hin : ∀ w ∈ wsX10, w ∈ wsX1_weight := fun w h => List.mem_cons_of_mem _ (List.mem_append_right _ h)
  have hf_38 := hts (.fieldLink RX1 38 "FaultEvidence" "weights" "[J") (by decide +kernel)
  have hf_41 := hts (.fieldLink RX1 41 "FaultEvidence" "totals" "[J") (by decide +kernel)
  have hc_74 := hts (.constantLong RX1 74 (-101)) (by decide +kernel)
  have hc_76 := hts (.constantLong RX1 76 (-102)) (by decide +kernel)
  have I1 := I.n
  refine lv_aload_n hx hb dX1_weight_0 rfl (lv_at hl 0 rfl) ?_
  refine lv_iload_n hx hb dX1_weight_1 rfl (lv_at hl 2 rfl) ?_
  refine f_cVi (As := [.int y]) (rest := []) ⟨hx, hb, hml, hown, hts⟩ (c_X1_isNodeOrNone l dC dI ad cy S y I) (cwV 1 hts gX1_weight_X1_isNodeOrNone rfl rfl rfl (by decide +kernel) ⟨Nat.le_of_ble_eq_true rfl, Nat.le_of_ble_eq_true rfl⟩) roB_bl (va_recv hK hP (ci := 2) (q0 := 0) rfl rfl) (roB_at hP hK) rfl hl.1 rfl (Nat.le_of_ble_eq_true rfl) dX1_weight_2 ⟨Nat.zero_le _, Nat.zero_le _⟩ ?_
  refine f_bne (tgt := 12) hx hb dX1_weight_5 (by decide) (fun c_1 => ?_) (fun c_1 => ?_)
  · refine lv_aload_n hx hb dX1_weight_12 rfl (lv_at hl 0 rfl) ?_
    refine lv_iload_n hx hb dX1_weight_13 rfl (lv_at hl 1 rfl) ?_
    refine f_cVi (As := [.int x]) (rest := []) ⟨hx, hb, hml, hown, hts⟩ (c_X1_hasBegun l dC dI ad cy S x I) (cwV 1 hts gX1_weight_X1_hasBegun rfl rfl rfl (by decide +kernel) ⟨Nat.le_of_ble_eq_true rfl, Nat.le_of_ble_eq_true rfl⟩) roB_bl (va_recv hK hP (ci := 2) (q0 := 0) rfl rfl) (roB_at hP hK) rfl hl.1 rfl (Nat.le_of_ble_eq_true rfl) dX1_weight_14 ⟨Nat.zero_le _, Nat.zero_le _⟩ ?_
    refine f_bne (tgt := 24) hx hb dX1_weight_17 (by decide) (fun c_2 => ?_) (fun c_2 => ?_)
    · obtain ⟨h, h1, h2, rfl⟩ := bg_of c_2
      have ht := tn_nI (n := h) (by omega)
      refine lv_iload_n hx hb dX1_weight_24 rfl (lv_at hl 2 rfl) ?_
      refine lv_iconst (v := (-1)) hx hb dX1_weight_25 (by decide) ?_
      refine f_ine (tgt := 38) hx hb (rfl) ((by decide : ((-1) : Int32).toInt = -1)) dX1_weight_26 (by decide) (fun c_3 => ?_) (fun c_3 => ?_)
      · obtain ⟨k, hk, rfl⟩ : ∃ k : Nat, k < sNn S ∧ y = nI k := by
          have d := c_1
          simp only [isNN, Bool.or_eq_true, decide_eq_true_eq] at d
          exact nd_of (d.resolve_left (by omega))
        have hu := tn_nI (n := k) (by omega)
        have hu2 := nI_toInt (n := k) (by omega)
        refine lv_aload_n hx hb dX1_weight_38 rfl (lv_at hl 0 rfl) ?_
        refine va_get (D := (dC, dI)) (ci := 2) (v := .ref (ad 5)) (C := RX1) (T := TX1) (N := 14) hx hb hts hin hown hK hP 0 rfl rfl 6 (by decide) hf_38 (fun _ h9 => h9) rfl dX1_weight_39 ?_
        refine lv_iload_n hx hb dX1_weight_42 rfl (lv_at hl 1 rfl) ?_
        refine lv_iload_n hx hb dX1_weight_43 rfl (lv_at hl 2 rfl) ?_
        refine f_cSi (As := [.int (nI h), .int (nI k)]) (rest := [.ref (ad 5)]) ⟨hx, hb, hml, hown, hts⟩ (c_X1_weightIndex l h k) (va_cwS 2 hts gX1_weight_X1_weightIndex rfl rfl rfl (by decide +kernel) ⟨Nat.le_of_ble_eq_true rfl, Nat.le_of_ble_eq_true rfl⟩) noB_bl noB_at rfl hl.1 rfl (Nat.le_of_ble_eq_true rfl) dX1_weight_44 ⟨Nat.zero_le _, Nat.zero_le _⟩ ?_
        refine f_lald hx hb hK hP 5 4 rfl rfl (k := (h * 8 + k)) (by omega) (by decide) (v := (lN (sWts S (h * 8 + k)))) rfl dX1_weight_47 ?_
        exact f_rl hx hb hr hlocks (by simp only [wtF, c_1, c_2]; first | (rw [if_neg (by decide), if_neg (by decide), if_pos (by omega), ht]) | (rw [if_neg (by decide), if_neg (by decide), if_neg (by omega), ht, hu])) dX1_weight_48
      · refine lv_aload_n hx hb dX1_weight_29 rfl (lv_at hl 0 rfl) ?_
        refine va_get (D := (dC, dI)) (ci := 2) (v := .ref (ad 6)) (C := RX1) (T := TX1) (N := 14) hx hb hts hin hown hK hP 0 rfl rfl 7 (by decide) hf_41 (fun _ h9 => h9) rfl dX1_weight_30 ?_
        refine lv_iload_n hx hb dX1_weight_33 rfl (lv_at hl 1 rfl) ?_
        refine f_lald hx hb hK hP 6 5 rfl rfl (k := h) (by omega) (by decide) (v := (lN (sTot S h))) rfl dX1_weight_34 ?_
        refine lv_goto (tgt := 48) hx hb dX1_weight_35 (by decide) ?_
        exact f_rl hx hb hr hlocks (by simp only [wtF, c_1, c_2]; first | (rw [if_neg (by decide), if_neg (by decide), if_pos (by omega), ht]) | (rw [if_neg (by decide), if_neg (by decide), if_neg (by omega), ht, hu])) dX1_weight_48
    · refine lv_ldc2 (v := -102) hx hb hown hc_76 dX1_weight_20 ?_
      exact f_rl hx hb hr hlocks (by simp [wtF, c_1, c_2]) dX1_weight_23
  · refine lv_ldc2 (v := -101) hx hb hown hc_74 dX1_weight_8 ?_
    exact f_rl hx hb hr hlocks (by simp [wtF, c_1]) dX1_weight_11

abbrev rm_X1_backed : Room := { frames := 2, cells := 0, slots := 0, locals := 47 }
set_option maxHeartbeats 4000000 in
set_option maxRecDepth 100000 in
theorem c_X1_backed (l : Launch) (dC : Nat → ClassId) (dI : Nat → Nat → Nat) (ad : Nat → Nat) (cy : Nat → ClassId) (S : St) (x : Int32) (u : Int32) (t : Int32) (b : Int32) (I : Inv S) : RoL l yX1_backed wsX1_backed rm_X1_backed [.ref (ad 0), .int x, .int u, .int t, .int b] (xB dC dI ad cy S) (bdF S x u t b) := by
  refine Ro_start (cc := cX1_backed) (maxL := 5) (ret := (some .long)) (lv := [(0, .ref (ad 0)), (1, .int x), (2, .int u), (3, .int t), (4, .int b)]) (by decide) rfl (Nat.le_of_ble_eq_true rfl) rfl ?_
  intro pp ee ss mm aa bl me co hx hb hr hml hts hown hlocks hnm hB ls hl
  obtain ⟨hP, hK⟩ := hB
  have hc_76 := hts (.constantLong RX1 76 (-102)) (by decide +kernel)
  have I1 := I.n
  refine lv_aload_n hx hb dX1_backed_0 rfl (lv_at hl 0 rfl) ?_
  refine lv_iload_n hx hb dX1_backed_1 rfl (lv_at hl 1 rfl) ?_
  refine f_cVi (As := [.int x]) (rest := []) ⟨hx, hb, hml, hown, hts⟩ (c_X1_hasBegun l dC dI ad cy S x I) (cwV 1 hts gX1_backed_X1_hasBegun rfl rfl rfl (by decide +kernel) ⟨Nat.le_of_ble_eq_true rfl, Nat.le_of_ble_eq_true rfl⟩) roB_bl (va_recv hK hP (ci := 2) (q0 := 0) rfl rfl) (roB_at hP hK) rfl hl.1 rfl (Nat.le_of_ble_eq_true rfl) dX1_backed_2 ⟨Nat.zero_le _, Nat.zero_le _⟩ ?_
  refine f_beq (tgt := 18) hx hb dX1_backed_5 (by decide) (fun c_1 => ?_) (fun c_1 => ?_)
  · refine lv_ldc2 (v := -102) hx hb hown hc_76 dX1_backed_18 ?_
    exact f_rl hx hb hr hlocks (by simp [bdF, c_1]) dX1_backed_21
  · refine lv_iload_n hx hb dX1_backed_8 rfl (lv_at hl 2 rfl) ?_
    refine lv_iload_n hx hb dX1_backed_9 rfl (lv_at hl 3 rfl) ?_
    refine lv_iload hx hb dX1_backed_10 (lv_at hl 4 rfl) ?_
    refine f_cSi (As := [.int u, .int t, .int b]) (rest := []) ⟨hx, hb, hml, hown, hts⟩ (c_X1_isSayable l u t b) (va_cwS 3 hts gX1_backed_X1_isSayable rfl rfl rfl (by decide +kernel) ⟨Nat.le_of_ble_eq_true rfl, Nat.le_of_ble_eq_true rfl⟩) noB_bl noB_at rfl hl.1 rfl (Nat.le_of_ble_eq_true rfl) dX1_backed_12 ⟨Nat.zero_le _, Nat.zero_le _⟩ ?_
    refine f_bne (tgt := 22) hx hb dX1_backed_15 (by decide) (fun c_2 => ?_) (fun c_2 => ?_)
    · obtain ⟨h, h1, h2, rfl⟩ := bg_of c_1
      obtain ⟨i, j, z, hi, hj, hz, rfl, rfl, rfl⟩ := sy_of c_2
      refine lv_aload_n hx hb dX1_backed_22 rfl (lv_at hl 0 rfl) ?_
      refine lv_iconst (v := (nI 0)) hx hb dX1_backed_23 (by decide) ?_
      refine lv_iload_n hx hb dX1_backed_24 rfl (lv_at hl 1 rfl) ?_
      refine lv_iload_n hx hb dX1_backed_25 rfl (lv_at hl 2 rfl) ?_
      refine lv_iload_n hx hb dX1_backed_26 rfl (lv_at hl 3 rfl) ?_
      refine lv_iload hx hb dX1_backed_27 (lv_at hl 4 rfl) ?_
      refine f_cSi (As := [.int (nI 0), .int (nI h), .int (nI i), .int (nI j), .int (nI z)]) (rest := [.ref (ad 0)]) ⟨hx, hb, hml, hown, hts⟩ (c_X1_packed l 0 h i j z (by omega) (by omega) (by omega) (by omega) (by omega)) (va_cwS 5 hts gX1_backed_X1_packed rfl rfl rfl (by decide +kernel) ⟨Nat.le_of_ble_eq_true rfl, Nat.le_of_ble_eq_true rfl⟩) noB_bl noB_at rfl hl.1 rfl (Nat.le_of_ble_eq_true rfl) dX1_backed_29 ⟨Nat.zero_le _, Nat.zero_le _⟩ ?_
      have hcc : vC 0 h i j z < 83968 := by unfold vC; omega
      refine f_cVl (As := [.int (nI (vC 0 h i j z))]) (rest := []) ⟨hx, hb, hml, hown, hts⟩ (c_X1_weightFor l dC dI ad cy S (vC 0 h i j z) I (by omega)) (cwV 1 hts gX1_backed_X1_weightFor rfl rfl rfl (by decide +kernel) ⟨Nat.le_of_ble_eq_true rfl, Nat.le_of_ble_eq_true rfl⟩) roB_bl (va_recv hK hP (ci := 2) (q0 := 0) rfl rfl) (roB_at hP hK) rfl hl.1 rfl (Nat.le_of_ble_eq_true rfl) dX1_backed_32 ⟨Nat.zero_le _, Nat.zero_le _⟩ ?_
      exact f_rl hx hb hr hlocks (by simp only [bdF, c_1, c_2]; rw [tn_nI (by omega), tn_nI (by omega), tn_nI (by omega), tn_nI (by omega)]; rfl) dX1_backed_35
    · refine lv_ldc2 (v := -102) hx hb hown hc_76 dX1_backed_18 ?_
      exact f_rl hx hb hr hlocks (by simp [bdF, c_1, c_2]) dX1_backed_21

abbrev rm_X1_certain : Room := { frames := 1, cells := 0, slots := 0, locals := 21 }
set_option maxHeartbeats 4000000 in
set_option maxRecDepth 100000 in
theorem c_X1_certain (l : Launch) (dC : Nat → ClassId) (dI : Nat → Nat → Nat) (ad : Nat → Nat) (cy : Nat → ClassId) (S : St) (x : Int32) (y : Int32) (I : Inv S) : RoI l yX1_certain wsX1_certain rm_X1_certain [.ref (ad 0), .int x, .int y] (xB dC dI ad cy S) (cnF S x y) := by
  refine Ro_start (cc := cX1_certain) (maxL := 5) (ret := (some .int)) (lv := [(0, .ref (ad 0)), (1, .int x), (2, .int y)]) (by decide) rfl (Nat.le_of_ble_eq_true rfl) rfl ?_
  intro pp ee ss mm aa bl me co hx hb hr hml hts hown hlocks hnm hB ls hl
  obtain ⟨hP, hK⟩ := hB
  have hin : ∀ w ∈ wsX10, w ∈ wsX1_certain := fun w h => List.mem_cons_of_mem _ (List.mem_append_right _ h)
  have hf_54 := hts (.fieldLink RX1 54 "FaultEvidence" "certainBlocks" "[I") (by decide +kernel)
  have I1 := I.n
  refine lv_aload_n hx hb dX1_certain_0 rfl (lv_at hl 0 rfl) ?_
  refine lv_iload_n hx hb dX1_certain_1 rfl (lv_at hl 1 rfl) ?_
  refine f_cVi (As := [.int x]) (rest := []) ⟨hx, hb, hml, hown, hts⟩ (c_X1_hasBegun l dC dI ad cy S x I) (cwV 1 hts gX1_certain_X1_hasBegun rfl rfl rfl (by decide +kernel) ⟨Nat.le_of_ble_eq_true rfl, Nat.le_of_ble_eq_true rfl⟩) roB_bl (va_recv hK hP (ci := 2) (q0 := 0) rfl rfl) (roB_at hP hK) rfl hl.1 rfl (Nat.le_of_ble_eq_true rfl) dX1_certain_2 ⟨Nat.zero_le _, Nat.zero_le _⟩ ?_
  refine f_bne (tgt := 11) hx hb dX1_certain_5 (by decide) (fun c_1 => ?_) (fun c_1 => ?_)
  · obtain ⟨h, h1, h2, rfl⟩ := bg_of c_1
    have ht := tn_nI (n := h) (by omega)
    have hcb := cb_lt S h
    refine lv_iconst (v := (nI 0)) hx hb dX1_certain_11 (by decide) ?_
    refine lv_istore_n (lv' := [(3, .int (nI 0)), (0, .ref (ad 0)), (1, .int (nI h)), (2, .int y)]) hx hb dX1_certain_12 rfl hl (by decide) rfl (fun ls hl => ?_)
    refine lv_iconst (v := (nI 1)) hx hb dX1_certain_13 (by decide) ?_
    refine lv_istore (lv' := [(4, .int (nI 1)), (3, .int (nI 0)), (0, .ref (ad 0)), (1, .int (nI h)), (2, .int y)]) hx hb dX1_certain_14 hl (by decide) rfl (fun ls hl => ?_)
    have loop_16 : ∀ (n : Nat) (b : Nat) (k : Nat), 10 - b < n → k = sm b (cnO S h) → b ≤ 10 → (∀ i, i < b → cnT S h y.toInt i = false) → k ≤ b → ∀ ls : Array Slot, lv_has ls 5 [(4, .int (nI b)), (3, .int (nI k)), (0, .ref (ad 0)), (1, .int (nI h)), (2, .int y)] → W pp l ee rm_X1_certain ss mm aa bl me co ss.heap [] 0 0 (MQ bl (vp_Si (fun r => r = cnF S (nI h) y)) aa ss 0 0 (fun _ => False)) (F0 mm 16 ls []) := by
      intro n
      induction n with
      | zero => intro b k hm; exact absurd hm (Nat.not_lt_zero _)
      | succ n ih =>
        intro b k hm hk hb1 hno hk2 ls hl
        refine lv_iload hx hb dX1_certain_16 (lv_at hl 0 rfl) ?_
        refine lv_bipush (v := (nI 10)) hx hb dX1_certain_18 (by decide) ?_
        refine f_ige (tgt := 54) hx hb (nI_toInt (by omega)) (nI_toInt (by omega)) dX1_certain_20 (by decide) (fun c_2 => ?_) (fun c_2 => ?_)
        · refine lv_iconst (v := (-1)) hx hb dX1_certain_54 (by decide) ?_
          exact f_ri hx hb hr hlocks (by have e2 := fi_no (n := 10) (fun i hi => hno i (by omega)); simp only [cnF, ht, e2]; rw [c_1, if_neg (by decide), if_neg (by omega)]) dX1_certain_55
        · refine lv_aload_n hx hb dX1_certain_23 rfl (lv_at hl 2 rfl) ?_
          refine va_get (D := (dC, dI)) (ci := 2) (v := .ref (ad 9)) (C := RX1) (T := TX1) (N := 14) hx hb hts hin hown hK hP 0 rfl rfl 11 (by decide) hf_54 (fun _ h9 => h9) rfl dX1_certain_24 ?_
          refine lv_iload_n hx hb dX1_certain_27 rfl (lv_at hl 3 rfl) ?_
          refine f_iald hx hb hK hP 9 8 rfl rfl (k := h) (by omega) (by decide) (v := (nI (cbF S h))) rfl dX1_certain_28 ?_
          refine lv_iload hx hb dX1_certain_29 (lv_at hl 0 rfl) ?_
          refine f_cSi (As := [.int (nI (cbF S h)), .int (nI b)]) (rest := []) ⟨hx, hb, hml, hown, hts⟩ (c_X1_hasBlock l (cbF S h) b (by omega) (by omega)) (va_cwS 2 hts gX1_certain_X1_hasBlock rfl rfl rfl (by decide +kernel) ⟨Nat.le_of_ble_eq_true rfl, Nat.le_of_ble_eq_true rfl⟩) noB_bl noB_at rfl hl.1 rfl (Nat.le_of_ble_eq_true rfl) dX1_certain_31 ⟨Nat.zero_le _, Nat.zero_le _⟩ ?_
          refine f_beq (tgt := 48) hx hb dX1_certain_34 (by decide) (fun c_3 => ?_) (fun c_3 => ?_)
          · have hz : cnO S h b = 0 := by simp [cnO, ← cb_at S (h := h) (show b < 10 by omega), c_3]
            have hz2 : cnT S h y.toInt b = false := by simp [cnT, ← cb_at S (h := h) (show b < 10 by omega), c_3]
            refine lv_iinc (v := (nI (b + 1))) (lv' := [(4, .int (nI (b + 1))), (3, .int (nI k)), (0, .ref (ad 0)), (1, .int (nI h)), (2, .int y)]) hx hb dX1_certain_48 hl (k := 0) rfl (nI_add b 1) (by decide) rfl (fun ls hl => ?_)
            refine lv_goto (tgt := 16) hx hb dX1_certain_51 (by decide) ?_
            exact ih (b + 1) k (by omega) (by simp only [sm, hz]; omega) (by omega) (lt_s hno hz2) (by omega) ls (lv_sub hl [0, 1, 2, 3, 4] rfl)
          · have hz : cnO S h b = 1 := by simp [cnO, ← cb_at S (h := h) (show b < 10 by omega), c_3]
            refine lv_iload_n hx hb dX1_certain_37 rfl (lv_at hl 1 rfl) ?_
            refine lv_iload_n hx hb dX1_certain_38 rfl (lv_at hl 4 rfl) ?_
            refine f_ine (tgt := 45) hx hb (nI_toInt (by omega)) (rfl) dX1_certain_39 (by decide) (fun c_4 => ?_) (fun c_4 => ?_)
            · have hz2 : cnT S h y.toInt b = false := by
                have e : ¬ ((sm b (cnO S h) : Nat) : Int) = y.toInt := by omega
                simp [cnT, e]
              refine lv_iinc (v := (nI (k + 1))) (lv' := [(3, .int (nI (k + 1))), (4, .int (nI b)), (0, .ref (ad 0)), (1, .int (nI h)), (2, .int y)]) hx hb dX1_certain_45 hl (k := 1) rfl (nI_add k 1) (by decide) rfl (fun ls hl => ?_)
              refine lv_iinc (v := (nI (b + 1))) (lv' := [(4, .int (nI (b + 1))), (3, .int (nI (k + 1))), (0, .ref (ad 0)), (1, .int (nI h)), (2, .int y)]) hx hb dX1_certain_48 hl (k := 1) rfl (nI_add b 1) (by decide) rfl (fun ls hl => ?_)
              refine lv_goto (tgt := 16) hx hb dX1_certain_51 (by decide) ?_
              exact ih (b + 1) (k + 1) (by omega) (by simp only [sm, hz]; omega) (by omega) (lt_s hno hz2) (by omega) ls (lv_sub hl [0, 1, 2, 3, 4] rfl)
            · refine lv_iload hx hb dX1_certain_42 (lv_at hl 0 rfl) ?_
              exact f_ri hx hb hr hlocks (by have e : ((sm b (cnO S h) : Nat) : Int) = y.toInt := (by omega); have e2 := fi_at (n := 10) hno (by simp [cnT, e, ← cb_at S (h := h) (show b < 10 by omega), c_1, c_3]) (by omega); simp only [cnF, ht, e2]; rw [c_1, if_neg (by decide), if_pos (by omega)]) dX1_certain_44
    exact loop_16 (10 - 1 + 1) 1 0 (Nat.lt_succ_self _) (by simp [sm, cnO, ctF]) (by decide) (fun i hi => (by have e : i = 0 := (by omega); subst e; simp [cnT, ctF])) (by decide) ls (lv_sub hl [0, 1, 2, 3, 4] rfl)
  · refine lv_bipush (v := (-102)) hx hb dX1_certain_8 (by decide) ?_
    exact f_ri hx hb hr hlocks (by simp [cnF, c_1]) dX1_certain_10

abbrev rm_X1_breaks : Room := { frames := 6, cells := 0, slots := 0, locals := 141 }
set_option maxHeartbeats 4000000 in
set_option maxRecDepth 100000 in
theorem c_X1_breaks (l : Launch) (dC : Nat → ClassId) (dI : Nat → Nat → Nat) (ad : Nat → Nat) (cy : Nat → ClassId) (S : St) (x : Int32) (y : Int32) (I : Inv S) : RoI l yX1_breaks wsX1_breaks rm_X1_breaks [.ref (ad 0), .int x, .int y] (xB dC dI ad cy S) (bsF S x y) := by
  refine Ro_start (cc := cX1_breaks) (maxL := 5) (ret := (some .int)) (lv := [(0, .ref (ad 0)), (1, .int x), (2, .int y)]) (by decide) rfl (Nat.le_of_ble_eq_true rfl) rfl ?_
  intro pp ee ss mm aa bl me co hx hb hr hml hts hown hlocks hnm hB ls hl
  obtain ⟨hP, hK⟩ := hB
  have hin : ∀ w ∈ wsX10, w ∈ wsX1_breaks := fun w h => List.mem_cons_of_mem _ (List.mem_append_right _ h)
  have hf_44 := hts (.fieldLink RX1 44 "FaultEvidence" "votes" "[I") (by decide +kernel)
  have hf_48 := hts (.fieldLink RX1 48 "FaultEvidence" "voteCount" "I") (by decide +kernel)
  have I1 := I.n
  refine lv_aload_n hx hb dX1_breaks_0 rfl (lv_at hl 0 rfl) ?_
  refine lv_iload_n hx hb dX1_breaks_1 rfl (lv_at hl 1 rfl) ?_
  refine f_cVi (As := [.int x]) (rest := []) ⟨hx, hb, hml, hown, hts⟩ (c_X1_hasBegun l dC dI ad cy S x I) (cwV 1 hts gX1_breaks_X1_hasBegun rfl rfl rfl (by decide +kernel) ⟨Nat.le_of_ble_eq_true rfl, Nat.le_of_ble_eq_true rfl⟩) roB_bl (va_recv hK hP (ci := 2) (q0 := 0) rfl rfl) (roB_at hP hK) rfl hl.1 rfl (Nat.le_of_ble_eq_true rfl) dX1_breaks_2 ⟨Nat.zero_le _, Nat.zero_le _⟩ ?_
  refine f_beq (tgt := 15) hx hb dX1_breaks_5 (by decide) (fun c_1 => ?_) (fun c_1 => ?_)
  · refine lv_bipush (v := (-102)) hx hb dX1_breaks_15 (by decide) ?_
    exact f_ri hx hb hr hlocks (by simp [bsF, c_1]) dX1_breaks_17
  · refine lv_iload_n hx hb dX1_breaks_8 rfl (lv_at hl 2 rfl) ?_
    refine f_cSi (As := [.int y]) (rest := []) ⟨hx, hb, hml, hown, hts⟩ (c_X1_isKind l y) (va_cwS 1 hts gX1_breaks_X1_isKind rfl rfl rfl (by decide +kernel) ⟨Nat.le_of_ble_eq_true rfl, Nat.le_of_ble_eq_true rfl⟩) noB_bl noB_at rfl hl.1 rfl (Nat.le_of_ble_eq_true rfl) dX1_breaks_9 ⟨Nat.zero_le _, Nat.zero_le _⟩ ?_
    refine f_bne (tgt := 18) hx hb dX1_breaks_12 (by decide) (fun c_2 => ?_) (fun c_2 => ?_)
    · obtain ⟨h, h1, h2, rfl⟩ := bg_of c_1
      obtain ⟨q, hq, rfl⟩ := kd_of c_2
      have ht := tn_nI (n := h) (by omega)
      have hu := tn_nI (n := q) (by omega)
      refine lv_iconst (v := (nI 0)) hx hb dX1_breaks_18 (by decide) ?_
      refine lv_istore_n (lv' := [(3, .int (nI 0)), (0, .ref (ad 0)), (1, .int (nI h)), (2, .int (nI q))]) hx hb dX1_breaks_19 rfl hl (by decide) rfl (fun ls hl => ?_)
      refine lv_iconst (v := (nI 0)) hx hb dX1_breaks_20 (by decide) ?_
      refine lv_istore (lv' := [(4, .int (nI 0)), (3, .int (nI 0)), (0, .ref (ad 0)), (1, .int (nI h)), (2, .int (nI q))]) hx hb dX1_breaks_21 hl (by decide) rfl (fun ls hl => ?_)
      have loop_23 : ∀ (n : Nat) (a : Nat) (k : Nat), sVn S - a < n → k = sm a (bsT S h q) → a ≤ sVn S → ∀ ls : Array Slot, lv_has ls 5 [(4, .int (nI a)), (3, .int (nI k)), (0, .ref (ad 0)), (1, .int (nI h)), (2, .int (nI q))] → W pp l ee rm_X1_breaks ss mm aa bl me co ss.heap [] 0 0 (MQ bl (vp_Si (fun r => r = bsF S (nI h) (nI q))) aa ss 0 0 (fun _ => False)) (F0 mm 23 ls []) := by
        intro n
        induction n with
        | zero => intro a k hm; exact absurd hm (Nat.not_lt_zero _)
        | succ n ih =>
          intro a k hm hk han ls hl
          refine lv_iload hx hb dX1_breaks_23 (lv_at hl 0 rfl) ?_
          refine lv_aload_n hx hb dX1_breaks_25 rfl (lv_at hl 2 rfl) ?_
          refine va_get (D := (dC, dI)) (ci := 2) (v := .int (nI (sVn S))) (C := RX1) (T := TX1) (N := 14) hx hb hts hin hown hK hP 0 rfl rfl 9 (by decide) hf_48 (fun _ h9 => h9) rfl dX1_breaks_26 ?_
          refine f_ige (tgt := 62) hx hb (nI_toInt (by omega)) (nI_toInt (by omega)) dX1_breaks_29 (by decide) (fun c_3 => ?_) (fun c_3 => ?_)
          · refine lv_iload_n hx hb dX1_breaks_62 rfl (lv_at hl 1 rfl) ?_
            exact f_ri hx hb hr hlocks (by have e : a = sVn S := (by omega); simp only [bsF, ht, hu]; rw [c_1, c_2, if_neg (by decide), hk, e]) dX1_breaks_63
          · have hv := I.v (v := a) (by omega)
            refine lv_aload_n hx hb dX1_breaks_32 rfl (lv_at hl 2 rfl) ?_
            refine va_get (D := (dC, dI)) (ci := 2) (v := .ref (ad 7)) (C := RX1) (T := TX1) (N := 14) hx hb hts hin hown hK hP 0 rfl rfl 8 (by decide) hf_44 (fun _ h9 => h9) rfl dX1_breaks_33 ?_
            refine lv_iload hx hb dX1_breaks_36 (lv_at hl 0 rfl) ?_
            refine f_iald hx hb hK hP 7 6 rfl rfl (k := a) (by omega) (by decide) (v := (nI (sVts S a))) rfl dX1_breaks_38 ?_
            refine f_cSi (As := [.int (nI (sVts S a))]) (rest := []) ⟨hx, hb, hml, hown, hts⟩ (c_X1_heightOf l (sVts S a) (by omega)) (va_cwS 1 hts gX1_breaks_X1_heightOf rfl rfl rfl (by decide +kernel) ⟨Nat.le_of_ble_eq_true rfl, Nat.le_of_ble_eq_true rfl⟩) noB_bl noB_at rfl hl.1 rfl (Nat.le_of_ble_eq_true rfl) dX1_breaks_39 ⟨Nat.zero_le _, Nat.zero_le _⟩ ?_
            refine lv_iload_n hx hb dX1_breaks_42 rfl (lv_at hl 3 rfl) ?_
            refine f_ine (tgt := 56) hx hb (nI_toInt (by omega)) (nI_toInt (by omega)) dX1_breaks_43 (by decide) (fun c_4 => ?_) (fun c_4 => ?_)
            · refine lv_iinc (v := (nI (a + 1))) (lv' := [(4, .int (nI (a + 1))), (3, .int (nI k)), (0, .ref (ad 0)), (1, .int (nI h)), (2, .int (nI q))]) hx hb dX1_breaks_56 hl (k := 0) rfl (nI_add a 1) (by decide) rfl (fun ls hl => ?_)
              refine lv_goto (tgt := 23) hx hb dX1_breaks_59 (by decide) ?_
              exact ih (a + 1) k (by omega) (by rw [sm, ← hk]; unfold bsT; split <;> omega) (by omega) ls (lv_sub hl [0, 1, 2, 3, 4] rfl)
            · refine lv_iload_n hx hb dX1_breaks_46 rfl (lv_at hl 1 rfl) ?_
              refine lv_aload_n hx hb dX1_breaks_47 rfl (lv_at hl 2 rfl) ?_
              refine lv_iload_n hx hb dX1_breaks_48 rfl (lv_at hl 4 rfl) ?_
              refine lv_iload hx hb dX1_breaks_49 (lv_at hl 0 rfl) ?_
              refine f_cVi (As := [.int (nI q), .int (nI a)]) (rest := [.int (nI k)]) ⟨hx, hb, hml, hown, hts⟩ (c_X1_countBreaksFrom l dC dI ad cy S q a I (by omega) (by omega)) (cwV 2 hts gX1_breaks_X1_countBreaksFrom rfl rfl rfl (by decide +kernel) ⟨Nat.le_of_ble_eq_true rfl, Nat.le_of_ble_eq_true rfl⟩) roB_bl (va_recv hK hP (ci := 2) (q0 := 0) rfl rfl) (roB_at hP hK) rfl hl.1 rfl (Nat.le_of_ble_eq_true rfl) dX1_breaks_51 ⟨Nat.zero_le _, Nat.zero_le _⟩ ?_
              refine lv_iadd hx hb dX1_breaks_54 ?_
              refine f_ti (y := (nI (k + (cfF S q a)))) (nI_add _ _) ?_
              refine lv_istore_n (lv' := [(3, .int (nI (k + (cfF S q a)))), (4, .int (nI a)), (0, .ref (ad 0)), (1, .int (nI h)), (2, .int (nI q))]) hx hb dX1_breaks_55 rfl hl (by decide) rfl (fun ls hl => ?_)
              refine lv_iinc (v := (nI (a + 1))) (lv' := [(4, .int (nI (a + 1))), (3, .int (nI (k + (cfF S q a)))), (0, .ref (ad 0)), (1, .int (nI h)), (2, .int (nI q))]) hx hb dX1_breaks_56 hl (k := 1) rfl (nI_add a 1) (by decide) rfl (fun ls hl => ?_)
              refine lv_goto (tgt := 23) hx hb dX1_breaks_59 (by decide) ?_
              exact ih (a + 1) (k + (cfF S q a)) (by omega) (by rw [sm, ← hk]; unfold bsT; split <;> omega) (by omega) ls (lv_sub hl [0, 1, 2, 3, 4] rfl)
      exact loop_23 (sVn S - 0 + 1) 0 0 (Nat.lt_succ_self _) (rfl) (Nat.zero_le _) ls (lv_sub hl [0, 1, 2, 3, 4] rfl)
    · refine lv_bipush (v := (-102)) hx hb dX1_breaks_15 (by decide) ?_
      exact f_ri hx hb hr hlocks (by simp [bsF, c_1, c_2]) dX1_breaks_17

abbrev rm_X1_broken : Room := { frames := 6, cells := 0, slots := 0, locals := 141 }
set_option maxHeartbeats 4000000 in
set_option maxRecDepth 100000 in
theorem c_X1_broken (l : Launch) (dC : Nat → ClassId) (dI : Nat → Nat → Nat) (ad : Nat → Nat) (cy : Nat → ClassId) (S : St) (x : Int32) (y : Int32) (z : Int32) (u : Int32) (I : Inv S) : RoI l yX1_broken wsX1_broken rm_X1_broken [.ref (ad 0), .int x, .int y, .int z, .int u] (xB dC dI ad cy S) (bnF S x y z u) := by
  refine Ro_start (cc := cX1_broken) (maxL := 8) (ret := (some .int)) (lv := [(0, .ref (ad 0)), (1, .int x), (2, .int y), (3, .int z), (4, .int u)]) (by decide) rfl (Nat.le_of_ble_eq_true rfl) rfl ?_
  intro pp ee ss mm aa bl me co hx hb hr hml hts hown hlocks hnm hB ls hl
  obtain ⟨hP, hK⟩ := hB
  have hin : ∀ w ∈ wsX10, w ∈ wsX1_broken := fun w h => List.mem_cons_of_mem _ (List.mem_append_right _ h)
  have hf_44 := hts (.fieldLink RX1 44 "FaultEvidence" "votes" "[I") (by decide +kernel)
  have hf_48 := hts (.fieldLink RX1 48 "FaultEvidence" "voteCount" "I") (by decide +kernel)
  have I1 := I.n
  refine lv_aload_n hx hb dX1_broken_0 rfl (lv_at hl 0 rfl) ?_
  refine lv_iload_n hx hb dX1_broken_1 rfl (lv_at hl 1 rfl) ?_
  refine f_cVi (As := [.int x]) (rest := []) ⟨hx, hb, hml, hown, hts⟩ (c_X1_hasBegun l dC dI ad cy S x I) (cwV 1 hts gX1_broken_X1_hasBegun rfl rfl rfl (by decide +kernel) ⟨Nat.le_of_ble_eq_true rfl, Nat.le_of_ble_eq_true rfl⟩) roB_bl (va_recv hK hP (ci := 2) (q0 := 0) rfl rfl) (roB_at hP hK) rfl hl.1 rfl (Nat.le_of_ble_eq_true rfl) dX1_broken_2 ⟨Nat.zero_le _, Nat.zero_le _⟩ ?_
  refine f_beq (tgt := 26) hx hb dX1_broken_5 (by decide) (fun c_1 => ?_) (fun c_1 => ?_)
  · refine lv_bipush (v := (-102)) hx hb dX1_broken_26 (by decide) ?_
    exact f_ri hx hb hr hlocks (by simp [bnF, c_1]; try omega) dX1_broken_28
  · refine lv_iload_n hx hb dX1_broken_8 rfl (lv_at hl 2 rfl) ?_
    refine f_cSi (As := [.int y]) (rest := []) ⟨hx, hb, hml, hown, hts⟩ (c_X1_isKind l y) (va_cwS 1 hts gX1_broken_X1_isKind rfl rfl rfl (by decide +kernel) ⟨Nat.le_of_ble_eq_true rfl, Nat.le_of_ble_eq_true rfl⟩) noB_bl noB_at rfl hl.1 rfl (Nat.le_of_ble_eq_true rfl) dX1_broken_9 ⟨Nat.zero_le _, Nat.zero_le _⟩ ?_
    refine f_beq (tgt := 26) hx hb dX1_broken_12 (by decide) (fun c_2 => ?_) (fun c_2 => ?_)
    · refine lv_bipush (v := (-102)) hx hb dX1_broken_26 (by decide) ?_
      exact f_ri hx hb hr hlocks (by simp [bnF, c_1, c_2]; try omega) dX1_broken_28
    · refine lv_iload hx hb dX1_broken_15 (lv_at hl 4 rfl) ?_
      refine f_0lt (tgt := 26) hx hb (rfl) dX1_broken_17 (by decide) (fun c_3 => ?_) (fun c_3 => ?_)
      · refine lv_bipush (v := (-102)) hx hb dX1_broken_26 (by decide) ?_
        exact f_ri hx hb hr hlocks (by simp [bnF, c_1, c_2]; try omega) dX1_broken_28
      · refine lv_iload hx hb dX1_broken_20 (lv_at hl 4 rfl) ?_
        refine lv_iconst (v := (nI 1)) hx hb dX1_broken_22 (by decide) ?_
        refine f_ile (tgt := 29) hx hb (rfl) (nI_toInt (by omega)) dX1_broken_23 (by decide) (fun c_4 => ?_) (fun c_4 => ?_)
        · obtain ⟨h, h1, h2, rfl⟩ := bg_of c_1
          obtain ⟨q, hq, rfl⟩ := kd_of c_2
          have ht := tn_nI (n := h) (by omega)
          have hu := tn_nI (n := q) (by omega)
          refine lv_iload_n hx hb dX1_broken_29 rfl (lv_at hl 3 rfl) ?_
          refine f_0ge (tgt := 35) hx hb (rfl) dX1_broken_30 (by decide) (fun c_5 => ?_) (fun c_5 => ?_)
          · obtain ⟨i, hi, rfl⟩ := in_nI (n := 2147483648) (x := z) (by omega) (by have := z.toInt_lt; omega)
            have hzt := tn_nI (n := i) (by omega)
            have hzi := nI_toInt (n := i) (by omega)
            refine lv_iload_n hx hb dX1_broken_35 rfl (lv_at hl 3 rfl) ?_
            refine lv_istore (lv' := [(5, .int (nI i)), (0, .ref (ad 0)), (1, .int (nI h)), (2, .int (nI q)), (3, .int (nI i)), (4, .int u)]) hx hb dX1_broken_36 hl (by decide) rfl (fun ls hl => ?_)
            refine lv_iconst (v := (nI 0)) hx hb dX1_broken_38 (by decide) ?_
            refine lv_istore (lv' := [(6, .int (nI 0)), (5, .int (nI i)), (0, .ref (ad 0)), (1, .int (nI h)), (2, .int (nI q)), (3, .int (nI i)), (4, .int u)]) hx hb dX1_broken_39 hl (by decide) rfl (fun ls hl => ?_)
            have loop_41 : ∀ (n : Nat) (a : Nat) (k : Nat), sVn S - a < n → k + sm a (bsT S h q) = i → a ≤ sVn S → (∀ j, j < a → bnT S h q i j = false) → ∀ ls : Array Slot, lv_has ls 8 [(6, .int (nI a)), (5, .int (nI k)), (0, .ref (ad 0)), (1, .int (nI h)), (2, .int (nI q)), (3, .int (nI i)), (4, .int u)] → W pp l ee rm_X1_broken ss mm aa bl me co ss.heap [] 0 0 (MQ bl (vp_Si (fun r => r = bnF S (nI h) (nI q) (nI i) u)) aa ss 0 0 (fun _ => False)) (F0 mm 41 ls []) := by
              intro n
              induction n with
              | zero => intro a k hm; exact absurd hm (Nat.not_lt_zero _)
              | succ n ih =>
                intro a k hm hk han hno ls hl
                refine lv_iload hx hb dX1_broken_41 (lv_at hl 0 rfl) ?_
                refine lv_aload_n hx hb dX1_broken_43 rfl (lv_at hl 2 rfl) ?_
                refine va_get (D := (dC, dI)) (ci := 2) (v := .int (nI (sVn S))) (C := RX1) (T := TX1) (N := 14) hx hb hts hin hown hK hP 0 rfl rfl 9 (by decide) hf_48 (fun _ h9 => h9) rfl dX1_broken_44 ?_
                refine f_ige (tgt := 113) hx hb (nI_toInt (by omega)) (nI_toInt (by omega)) dX1_broken_47 (by decide) (fun c_6 => ?_) (fun c_6 => ?_)
                · refine lv_iconst (v := (-1)) hx hb dX1_broken_113 (by decide) ?_
                  exact f_ri hx hb hr hlocks (by have e2 := fi_no (n := sVn S) (fun j hj => hno j (by omega)); have e3 : bnA S h q i = sVn S := e2; simp only [bnF, ht, hu, hzt, e3]; rw [c_1, c_2, if_neg (by simp; omega), if_neg (by omega), if_neg (by omega)]) dX1_broken_114
                · have hv := I.v (v := a) (by omega)
                  refine lv_aload_n hx hb dX1_broken_50 rfl (lv_at hl 2 rfl) ?_
                  refine va_get (D := (dC, dI)) (ci := 2) (v := .ref (ad 7)) (C := RX1) (T := TX1) (N := 14) hx hb hts hin hown hK hP 0 rfl rfl 8 (by decide) hf_44 (fun _ h9 => h9) rfl dX1_broken_51 ?_
                  refine lv_iload hx hb dX1_broken_54 (lv_at hl 0 rfl) ?_
                  refine f_iald hx hb hK hP 7 6 rfl rfl (k := a) (by omega) (by decide) (v := (nI (sVts S a))) rfl dX1_broken_56 ?_
                  refine f_cSi (As := [.int (nI (sVts S a))]) (rest := []) ⟨hx, hb, hml, hown, hts⟩ (c_X1_heightOf l (sVts S a) (by omega)) (va_cwS 1 hts gX1_broken_X1_heightOf rfl rfl rfl (by decide +kernel) ⟨Nat.le_of_ble_eq_true rfl, Nat.le_of_ble_eq_true rfl⟩) noB_bl noB_at rfl hl.1 rfl (Nat.le_of_ble_eq_true rfl) dX1_broken_57 ⟨Nat.zero_le _, Nat.zero_le _⟩ ?_
                  refine lv_iload_n hx hb dX1_broken_60 rfl (lv_at hl 3 rfl) ?_
                  refine f_ine (tgt := 107) hx hb (nI_toInt (by omega)) (nI_toInt (by omega)) dX1_broken_61 (by decide) (fun c_7 => ?_) (fun c_7 => ?_)
                  · have hz : bsT S h q a = 0 := by unfold bsT; rw [if_neg]; omega
                    have hz2 : bnT S h q i a = false := by
                      have e : ¬ i < sm a (bsT S h q) + bsT S h q a := by omega
                      simp [bnT, e]
                    refine lv_iinc (v := (nI (a + 1))) (lv' := [(6, .int (nI (a + 1))), (5, .int (nI k)), (0, .ref (ad 0)), (1, .int (nI h)), (2, .int (nI q)), (3, .int (nI i)), (4, .int u)]) hx hb dX1_broken_107 hl (k := 0) rfl (nI_add a 1) (by decide) rfl (fun ls hl => ?_)
                    refine lv_goto (tgt := 41) hx hb dX1_broken_110 (by decide) ?_
                    exact ih (a + 1) k (by omega) (by simp only [sm, hz]; omega) (by omega) (lt_s hno hz2) ls (lv_sub hl [0, 1, 2, 3, 4, 5, 6] rfl)
                  · have hz : bsT S h q a = cfF S q a := by unfold bsT; rw [if_pos]; omega
                    have hcf := cfF_le I q a
                    refine lv_aload_n hx hb dX1_broken_64 rfl (lv_at hl 2 rfl) ?_
                    refine lv_iload_n hx hb dX1_broken_65 rfl (lv_at hl 4 rfl) ?_
                    refine lv_iload hx hb dX1_broken_66 (lv_at hl 0 rfl) ?_
                    refine f_cVi (As := [.int (nI q), .int (nI a)]) (rest := []) ⟨hx, hb, hml, hown, hts⟩ (c_X1_countBreaksFrom l dC dI ad cy S q a I (by omega) (by omega)) (cwV 2 hts gX1_broken_X1_countBreaksFrom rfl rfl rfl (by decide +kernel) ⟨Nat.le_of_ble_eq_true rfl, Nat.le_of_ble_eq_true rfl⟩) roB_bl (va_recv hK hP (ci := 2) (q0 := 0) rfl rfl) (roB_at hP hK) rfl hl.1 rfl (Nat.le_of_ble_eq_true rfl) dX1_broken_68 ⟨Nat.zero_le _, Nat.zero_le _⟩ ?_
                    refine lv_istore (lv' := [(7, .int (nI (cfF S q a))), (6, .int (nI a)), (5, .int (nI k)), (0, .ref (ad 0)), (1, .int (nI h)), (2, .int (nI q)), (3, .int (nI i)), (4, .int u)]) hx hb dX1_broken_71 hl (by decide) rfl (fun ls hl => ?_)
                    refine lv_iload hx hb dX1_broken_73 (lv_at hl 2 rfl) ?_
                    refine lv_iload hx hb dX1_broken_75 (lv_at hl 0 rfl) ?_
                    refine f_ige (tgt := 100) hx hb (nI_toInt (by omega)) (nI_toInt (by omega)) dX1_broken_77 (by decide) (fun c_8 => ?_) (fun c_8 => ?_)
                    · refine lv_iload hx hb dX1_broken_100 (lv_at hl 2 rfl) ?_
                      refine lv_iload hx hb dX1_broken_102 (lv_at hl 0 rfl) ?_
                      refine lv_isub hx hb dX1_broken_104 ?_
                      refine f_ti (y := (nI (k - cfF S q a))) (pk_sub (by omega)) ?_
                      refine lv_istore (lv' := [(5, .int (nI (k - cfF S q a))), (7, .int (nI (cfF S q a))), (6, .int (nI a)), (0, .ref (ad 0)), (1, .int (nI h)), (2, .int (nI q)), (3, .int (nI i)), (4, .int u)]) hx hb dX1_broken_105 hl (by decide) rfl (fun ls hl => ?_)
                      have hz2 : bnT S h q i a = false := by
                        have e : ¬ i < sm a (bsT S h q) + bsT S h q a := by omega
                        simp [bnT, e]
                      refine lv_iinc (v := (nI (a + 1))) (lv' := [(6, .int (nI (a + 1))), (5, .int (nI (k - cfF S q a))), (7, .int (nI (cfF S q a))), (0, .ref (ad 0)), (1, .int (nI h)), (2, .int (nI q)), (3, .int (nI i)), (4, .int u)]) hx hb dX1_broken_107 hl (k := 2) rfl (nI_add a 1) (by decide) rfl (fun ls hl => ?_)
                      refine lv_goto (tgt := 41) hx hb dX1_broken_110 (by decide) ?_
                      exact ih (a + 1) (k - cfF S q a) (by omega) (by simp only [sm, hz]; omega) (by omega) (lt_s hno hz2) ls (lv_sub hl [0, 1, 3, 4, 5, 6, 7] rfl)
                    · refine lv_iload hx hb dX1_broken_80 (lv_at hl 7 rfl) ?_
                      refine f_0ne (tgt := 90) hx hb (rfl) dX1_broken_82 (by decide) (fun c_9 => ?_) (fun c_9 => ?_)
                      · refine lv_aload_n hx hb dX1_broken_90 rfl (lv_at hl 3 rfl) ?_
                        refine lv_iload_n hx hb dX1_broken_91 rfl (lv_at hl 5 rfl) ?_
                        refine lv_iload hx hb dX1_broken_92 (lv_at hl 1 rfl) ?_
                        refine lv_iload hx hb dX1_broken_94 (lv_at hl 2 rfl) ?_
                        refine f_cVi (As := [.int (nI q), .int (nI a), .int (nI k)]) (rest := []) ⟨hx, hb, hml, hown, hts⟩ (c_X1_partner l dC dI ad cy S q a k I (by omega) (by omega) (by omega)) (cwV 3 hts gX1_broken_X1_partner rfl rfl rfl (by decide +kernel) ⟨Nat.le_of_ble_eq_true rfl, Nat.le_of_ble_eq_true rfl⟩) roB_bl (va_recv hK hP (ci := 2) (q0 := 0) rfl rfl) (roB_at hP hK) rfl hl.1 rfl (Nat.le_of_ble_eq_true rfl) dX1_broken_96 ⟨Nat.zero_le _, Nat.zero_le _⟩ ?_
                        exact f_ri hx hb hr hlocks (by have e2 := fi_at (n := sVn S) hno (by simp [bnT]; omega) (by omega); have e3 : bnA S h q i = a := e2; simp only [bnF, ht, hu, hzt, e3]; rw [c_1, c_2, if_neg (by simp; omega), if_neg (by omega), if_pos (by omega)]; first | (rw [if_pos (by omega)]; done) | (rw [if_neg (by omega)]; congr 1; omega)) dX1_broken_99
                      · refine lv_iload hx hb dX1_broken_85 (lv_at hl 1 rfl) ?_
                        refine lv_goto (tgt := 99) hx hb dX1_broken_87 (by decide) ?_
                        exact f_ri hx hb hr hlocks (by have e2 := fi_at (n := sVn S) hno (by simp [bnT]; omega) (by omega); have e3 : bnA S h q i = a := e2; simp only [bnF, ht, hu, hzt, e3]; rw [c_1, c_2, if_neg (by simp; omega), if_neg (by omega), if_pos (by omega)]; first | (rw [if_pos (by omega)]; done) | (rw [if_neg (by omega)]; congr 1; omega)) dX1_broken_99
            exact loop_41 (sVn S - 0 + 1) 0 i (Nat.lt_succ_self _) (rfl) (Nat.zero_le _) (fun j hj => absurd hj (Nat.not_lt_zero _)) ls (lv_sub hl [0, 1, 2, 3, 4, 5, 6] rfl)
          · refine lv_iconst (v := (-1)) hx hb dX1_broken_33 (by decide) ?_
            exact f_ri hx hb hr hlocks (by simp only [bnF, ht, hu]; rw [c_1, c_2, if_neg (by simp; omega), if_pos (by omega)]) dX1_broken_34
        · refine lv_bipush (v := (-102)) hx hb dX1_broken_26 (by decide) ?_
          exact f_ri hx hb hr hlocks (by simp [bnF, c_1, c_2]; try omega) dX1_broken_28

abbrev rm_X1_named : Room := { frames := 6, cells := 0, slots := 0, locals := 137 }
set_option maxHeartbeats 4000000 in
set_option maxRecDepth 100000 in
theorem c_X1_named (l : Launch) (dC : Nat → ClassId) (dI : Nat → Nat → Nat) (ad : Nat → Nat) (cy : Nat → ClassId) (S : St) (x : Int32) (I : Inv S) : RoI l yX1_named wsX1_named rm_X1_named [.ref (ad 0), .int x] (xB dC dI ad cy S) (nmF S x) := by
  refine Ro_start (cc := cX1_named) (maxL := 5) (ret := (some .int)) (lv := [(0, .ref (ad 0)), (1, .int x)]) (by decide) rfl (Nat.le_of_ble_eq_true rfl) rfl ?_
  intro pp ee ss mm aa bl me co hx hb hr hml hts hown hlocks hnm hB ls hl
  obtain ⟨hP, hK⟩ := hB
  have hin : ∀ w ∈ wsX10, w ∈ wsX1_named := fun w h => List.mem_cons_of_mem _ (List.mem_append_right _ h)
  have hf_44 := hts (.fieldLink RX1 44 "FaultEvidence" "votes" "[I") (by decide +kernel)
  have hf_48 := hts (.fieldLink RX1 48 "FaultEvidence" "voteCount" "I") (by decide +kernel)
  have I1 := I.n
  refine lv_aload_n hx hb dX1_named_0 rfl (lv_at hl 0 rfl) ?_
  refine lv_iload_n hx hb dX1_named_1 rfl (lv_at hl 1 rfl) ?_
  refine f_cVi (As := [.int x]) (rest := []) ⟨hx, hb, hml, hown, hts⟩ (c_X1_hasBegun l dC dI ad cy S x I) (cwV 1 hts gX1_named_X1_hasBegun rfl rfl rfl (by decide +kernel) ⟨Nat.le_of_ble_eq_true rfl, Nat.le_of_ble_eq_true rfl⟩) roB_bl (va_recv hK hP (ci := 2) (q0 := 0) rfl rfl) (roB_at hP hK) rfl hl.1 rfl (Nat.le_of_ble_eq_true rfl) dX1_named_2 ⟨Nat.zero_le _, Nat.zero_le _⟩ ?_
  refine f_bne (tgt := 11) hx hb dX1_named_5 (by decide) (fun c_1 => ?_) (fun c_1 => ?_)
  · obtain ⟨h, h1, h2, rfl⟩ := bg_of c_1
    have ht := tn_nI (n := h) (by omega)
    refine lv_iconst (v := (nI 0)) hx hb dX1_named_11 (by decide) ?_
    refine lv_istore_n (lv' := [(2, .int (nI 0)), (0, .ref (ad 0)), (1, .int (nI h))]) hx hb dX1_named_12 rfl hl (by decide) rfl (fun ls hl => ?_)
    refine lv_iconst (v := (nI 0)) hx hb dX1_named_13 (by decide) ?_
    refine lv_istore_n (lv' := [(3, .int (nI 0)), (2, .int (nI 0)), (0, .ref (ad 0)), (1, .int (nI h))]) hx hb dX1_named_14 rfl hl (by decide) rfl (fun ls hl => ?_)
    have loop_15 : ∀ (n : Nat) (a : Nat) (M : Nat), sVn S - a < n → M = bitS 8 (fun k => ex a (nmT S h k)) → a ≤ sVn S → ∀ ls : Array Slot, lv_has ls 5 [(3, .int (nI a)), (2, .int (nI M)), (0, .ref (ad 0)), (1, .int (nI h))] → W pp l ee rm_X1_named ss mm aa bl me co ss.heap [] 0 0 (MQ bl (vp_Si (fun r => r = nmF S (nI h))) aa ss 0 0 (fun _ => False)) (F0 mm 15 ls []) := by
      intro n
      induction n with
      | zero => intro a M hm; exact absurd hm (Nat.not_lt_zero _)
      | succ n ih =>
        intro a M hm hM han ls hl
        refine lv_iload_n hx hb dX1_named_15 rfl (lv_at hl 0 rfl) ?_
        refine lv_aload_n hx hb dX1_named_16 rfl (lv_at hl 2 rfl) ?_
        refine va_get (D := (dC, dI)) (ci := 2) (v := .int (nI (sVn S))) (C := RX1) (T := TX1) (N := 14) hx hb hts hin hown hK hP 0 rfl rfl 9 (by decide) hf_48 (fun _ h9 => h9) rfl dX1_named_17 ?_
        refine f_ige (tgt := 80) hx hb (nI_toInt (by omega)) (nI_toInt (by omega)) dX1_named_20 (by decide) (fun c_2 => ?_) (fun c_2 => ?_)
        · refine lv_iload_n hx hb dX1_named_80 rfl (lv_at hl 1 rfl) ?_
          exact f_ri hx hb hr hlocks (by have e : a = sVn S := (by omega); simp only [nmF, ht]; rw [c_1, if_neg (by decide), hM, e]) dX1_named_81
        · have hv := I.v (v := a) (by omega)
          have hp : 2 ^ (sVts S a / 256 % 8) < 2 ^ 8 := Nat.pow_lt_pow_right (by decide) (by omega)
          have hM2 : M < 256 := by rw [hM]; exact bitS_lt 8 _
          have hM3 : M &&& 2 ^ (sVts S a / 256 % 8) ≤ M := Nat.and_le_left
          refine lv_iconst (v := (nI 1)) hx hb dX1_named_23 (by decide) ?_
          refine lv_aload_n hx hb dX1_named_24 rfl (lv_at hl 2 rfl) ?_
          refine va_get (D := (dC, dI)) (ci := 2) (v := .ref (ad 7)) (C := RX1) (T := TX1) (N := 14) hx hb hts hin hown hK hP 0 rfl rfl 8 (by decide) hf_44 (fun _ h9 => h9) rfl dX1_named_25 ?_
          refine lv_iload_n hx hb dX1_named_28 rfl (lv_at hl 0 rfl) ?_
          refine f_iald hx hb hK hP 7 6 rfl rfl (k := a) (by omega) (by decide) (v := (nI (sVts S a))) rfl dX1_named_29 ?_
          refine f_cSi (As := [.int (nI (sVts S a))]) (rest := [.int (nI 1)]) ⟨hx, hb, hml, hown, hts⟩ (c_X1_nodeOf l (sVts S a) (by omega)) (va_cwS 1 hts gX1_named_X1_nodeOf rfl rfl rfl (by decide +kernel) ⟨Nat.le_of_ble_eq_true rfl, Nat.le_of_ble_eq_true rfl⟩) noB_bl noB_at rfl hl.1 rfl (Nat.le_of_ble_eq_true rfl) dX1_named_30 ⟨Nat.zero_le _, Nat.zero_le _⟩ ?_
          refine lv_ishl hx hb dX1_named_33 ?_
          refine f_ti (y := (nI (2 ^ (sVts S a / 256 % 8)))) (f_shl1 (by omega)) ?_
          refine lv_istore (lv' := [(4, .int (nI (2 ^ (sVts S a / 256 % 8)))), (3, .int (nI a)), (2, .int (nI M)), (0, .ref (ad 0)), (1, .int (nI h))]) hx hb dX1_named_34 hl (by decide) rfl (fun ls hl => ?_)
          refine lv_aload_n hx hb dX1_named_36 rfl (lv_at hl 3 rfl) ?_
          refine va_get (D := (dC, dI)) (ci := 2) (v := .ref (ad 7)) (C := RX1) (T := TX1) (N := 14) hx hb hts hin hown hK hP 0 rfl rfl 8 (by decide) hf_44 (fun _ h9 => h9) rfl dX1_named_37 ?_
          refine lv_iload_n hx hb dX1_named_40 rfl (lv_at hl 1 rfl) ?_
          refine f_iald hx hb hK hP 7 6 rfl rfl (k := a) (by omega) (by decide) (v := (nI (sVts S a))) rfl dX1_named_41 ?_
          refine f_cSi (As := [.int (nI (sVts S a))]) (rest := []) ⟨hx, hb, hml, hown, hts⟩ (c_X1_heightOf l (sVts S a) (by omega)) (va_cwS 1 hts gX1_named_X1_heightOf rfl rfl rfl (by decide +kernel) ⟨Nat.le_of_ble_eq_true rfl, Nat.le_of_ble_eq_true rfl⟩) noB_bl noB_at rfl hl.1 rfl (Nat.le_of_ble_eq_true rfl) dX1_named_42 ⟨Nat.zero_le _, Nat.zero_le _⟩ ?_
          refine lv_iload_n hx hb dX1_named_45 rfl (lv_at hl 4 rfl) ?_
          refine f_ine (tgt := 74) hx hb (nI_toInt (by omega)) (nI_toInt (by omega)) dX1_named_46 (by decide) (fun c_3 => ?_) (fun c_3 => ?_)
          · have hz : M = bitS 8 (fun k => ex (a + 1) (nmT S h k)) := nm_same hM (fun k _ hk => by
              simp only [nmT, Bool.and_eq_true, decide_eq_true_eq] at hk
              omega)
            refine lv_iinc (v := (nI (a + 1))) (lv' := [(3, .int (nI (a + 1))), (4, .int (nI (2 ^ (sVts S a / 256 % 8)))), (2, .int (nI M)), (0, .ref (ad 0)), (1, .int (nI h))]) hx hb dX1_named_74 hl (k := 1) rfl (nI_add a 1) (by decide) rfl (fun ls hl => ?_)
            refine lv_goto (tgt := 15) hx hb dX1_named_77 (by decide) ?_
            exact ih (a + 1) M (by omega) (hz) (by omega) ls (lv_sub hl [0, 2, 3, 4] rfl)
          · refine lv_iload_n hx hb dX1_named_49 rfl (lv_at hl 2 rfl) ?_
            refine lv_iload hx hb dX1_named_50 (lv_at hl 0 rfl) ?_
            refine lv_iand hx hb dX1_named_52 ?_
            refine f_ti (y := (nI (M &&& 2 ^ (sVts S a / 256 % 8)))) (nx_and _ _) ?_
            refine f_0ne (tgt := 74) hx hb (nI_toInt (by omega)) dX1_named_53 (by decide) (fun c_4 => ?_) (fun c_4 => ?_)
            · have hz : M = bitS 8 (fun k => ex (a + 1) (nmT S h k)) := nm_same hM (fun k hk8 hk => by
                simp only [nmT, Bool.and_eq_true, decide_eq_true_eq] at hk
                have e := f_tb1 (x := M) (b := sVts S a / 256 % 8) (by omega)
                rw [hM, bitS_tb, hk.1.2] at e
                simpa [hk8] using e)
              refine lv_iinc (v := (nI (a + 1))) (lv' := [(3, .int (nI (a + 1))), (4, .int (nI (2 ^ (sVts S a / 256 % 8)))), (2, .int (nI M)), (0, .ref (ad 0)), (1, .int (nI h))]) hx hb dX1_named_74 hl (k := 1) rfl (nI_add a 1) (by decide) rfl (fun ls hl => ?_)
              refine lv_goto (tgt := 15) hx hb dX1_named_77 (by decide) ?_
              exact ih (a + 1) M (by omega) (hz) (by omega) ls (lv_sub hl [0, 2, 3, 4] rfl)
            · refine lv_aload_n hx hb dX1_named_56 rfl (lv_at hl 3 rfl) ?_
              refine lv_aload_n hx hb dX1_named_57 rfl (lv_at hl 3 rfl) ?_
              refine va_get (D := (dC, dI)) (ci := 2) (v := .ref (ad 7)) (C := RX1) (T := TX1) (N := 14) hx hb hts hin hown hK hP 0 rfl rfl 8 (by decide) hf_44 (fun _ h9 => h9) rfl dX1_named_58 ?_
              refine lv_iload_n hx hb dX1_named_61 rfl (lv_at hl 1 rfl) ?_
              refine f_iald hx hb hK hP 7 6 rfl rfl (k := a) (by omega) (by decide) (v := (nI (sVts S a))) rfl dX1_named_62 ?_
              refine f_cVi (As := [.int (nI (sVts S a))]) (rest := []) ⟨hx, hb, hml, hown, hts⟩ (c_X1_makesBreak l dC dI ad cy S (sVts S a) I (by omega) (by omega)) (cwV 1 hts gX1_named_X1_makesBreak rfl rfl rfl (by decide +kernel) ⟨Nat.le_of_ble_eq_true rfl, Nat.le_of_ble_eq_true rfl⟩) roB_bl (va_recv hK hP (ci := 2) (q0 := 0) rfl rfl) (roB_at hP hK) rfl hl.1 rfl (Nat.le_of_ble_eq_true rfl) dX1_named_63 ⟨Nat.zero_le _, Nat.zero_le _⟩ ?_
              refine f_beq (tgt := 74) hx hb dX1_named_66 (by decide) (fun c_5 => ?_) (fun c_5 => ?_)
              · have hz : M = bitS 8 (fun k => ex (a + 1) (nmT S h k)) := nm_same hM (fun k _ hk => by
                  simp [nmT, c_5] at hk)
                refine lv_iinc (v := (nI (a + 1))) (lv' := [(3, .int (nI (a + 1))), (4, .int (nI (2 ^ (sVts S a / 256 % 8)))), (2, .int (nI M)), (0, .ref (ad 0)), (1, .int (nI h))]) hx hb dX1_named_74 hl (k := 1) rfl (nI_add a 1) (by decide) rfl (fun ls hl => ?_)
                refine lv_goto (tgt := 15) hx hb dX1_named_77 (by decide) ?_
                exact ih (a + 1) M (by omega) (hz) (by omega) ls (lv_sub hl [0, 2, 3, 4] rfl)
              · have hz : M ||| 2 ^ (sVts S a / 256 % 8) = bitS 8 (fun k => ex (a + 1) (nmT S h k)) := nm_add hM (by omega) (fun j _ => by
                  have e : sVts S a / 2048 = h := by omega
                  simp [nmT, c_5, e])
                refine lv_iload_n hx hb dX1_named_69 rfl (lv_at hl 2 rfl) ?_
                refine lv_iload hx hb dX1_named_70 (lv_at hl 0 rfl) ?_
                refine lv_ior hx hb dX1_named_72 ?_
                refine f_ti (y := (nI (M ||| 2 ^ (sVts S a / 256 % 8)))) (nx_or _ _) ?_
                refine lv_istore_n (lv' := [(2, .int (nI (M ||| 2 ^ (sVts S a / 256 % 8)))), (4, .int (nI (2 ^ (sVts S a / 256 % 8)))), (3, .int (nI a)), (0, .ref (ad 0)), (1, .int (nI h))]) hx hb dX1_named_73 rfl hl (by decide) rfl (fun ls hl => ?_)
                refine lv_iinc (v := (nI (a + 1))) (lv' := [(3, .int (nI (a + 1))), (2, .int (nI (M ||| 2 ^ (sVts S a / 256 % 8)))), (4, .int (nI (2 ^ (sVts S a / 256 % 8)))), (0, .ref (ad 0)), (1, .int (nI h))]) hx hb dX1_named_74 hl (k := 2) rfl (nI_add a 1) (by decide) rfl (fun ls hl => ?_)
                refine lv_goto (tgt := 15) hx hb dX1_named_77 (by decide) ?_
                exact ih (a + 1) (M ||| 2 ^ (sVts S a / 256 % 8)) (by omega) (hz) (by omega) ls (lv_sub hl [0, 1, 3, 4] rfl)
    exact loop_15 (sVn S - 0 + 1) 0 0 (Nat.lt_succ_self _) (rfl) (Nat.zero_le _) ls (lv_sub hl [0, 1, 2, 3] rfl)
  · refine lv_bipush (v := (-102)) hx hb dX1_named_8 (by decide) ?_
    exact f_ri hx hb hr hlocks (by simp [nmF, c_1]) dX1_named_10
end
section
/-! the other object's cells out of the same state -/
def msF (S : St) (h r t b : Nat) : Bool := mostF S h (wS S h r t b)
theorem bk_ms (S : St) (h r b : Nat) : bkF S h r b = (decide (0 < b) && msF S h r 0 b) := rfl
def syF (S : St) (j : Nat) : Nat := bitS 8 (fun k => hasV S (vC k (j / 160) (j / 20 % 8) (j / 10 % 2) (j % 10)))
def rtF (S : St) (j : Nat) : Nat := if j < 3 then sRul S j else 0
def dnF (S : St) (j : Nat) : Bool := ex (sTn S) (fun i => decide (sVts S (sTa S i) / 256 * 3 + sTk S i = j))
theorem sy_at (S : St) {h r t b : Nat} (hr : r < 8) (ht : t < 2) (hb : b < 10) : syF S (((8 * h + r) * 2 + t) * 10 + b) = bitS 8 (fun k => hasV S (vC k h r t b)) := by
  unfold syF
  have e1 : (((8 * h + r) * 2 + t) * 10 + b) / 160 = h := by omega
  have e2 : (((8 * h + r) * 2 + t) * 10 + b) / 20 % 8 = r := by omega
  have e3 : (((8 * h + r) * 2 + t) * 10 + b) / 10 % 2 = t := by omega
  have e4 : (((8 * h + r) * 2 + t) * 10 + b) % 10 = b := by omega
  rw [e1, e2, e3, e4]
theorem sy_lt (S : St) (j : Nat) : syF S j < 256 := bitS_lt 8 _
def woT (S : St) (h m k : Nat) : Nat := if m.testBit k = true then sWts S (8 * h + k) else 0
def woF (S : St) (h m : Nat) : Nat := sm 8 (woT S h m)
theorem wo_at (S : St) {h r t b : Nat} (hr : r < 8) (ht : t < 2) (hb : b < 10) : woF S h (syF S (((8 * h + r) * 2 + t) * 10 + b)) = wS S h r t b := by
  unfold woF wS
  apply sm_congr
  intro i hi
  unfold woT
  rw [sy_at S hr ht hb, bitS_tb]
  simp [hi]
theorem woF_le {S : St} (I : Inv S) (h m : Nat) : woF S h m ≤ 8000000000 := by
  have := sm_le (n := 8) (f := woT S h m) (B := 1000000000) (fun i _ => by
    have := I.w (8 * h + i)
    unfold woT
    split <;> omega)
  unfold woF
  omega
abbrev mfs (ad : Nat → Nat) (S : St) : List Value := [.int (nI (sNn S)), .ref (ad 1), .ref (ad 2), .ref (ad 3), .int (nI (sHh S)), .ref (ad 4), .ref (ad 5), .int (nI (sVn S)), .ref (ad 6), .ref (ad 7), .ref (ad 8), .ref (ad 9), .ref (ad 10), .ref (ad 11), .ref (ad 12), .int (nI (sRul S 3)), .long (lN (sRul S 4)), .long (lN (sBrn S)), .int (nI (sTn S)), .ref (ad 13), .ref (ad 14), .ref (ad 15), .ref (ad 16), .ref (ad 17), .ref (ad 18), .ref (ad 19), .ref (ad 20)]
abbrev mw (ad : Nat → Nat) (cy : Nat → ClassId) (S : St) : va_W := [(ad 0, .inr (3, mfs ad S)), (ad 1, .inl (cy 1, 8, .inr (.inl (fun j => lN (sStk S j))))), (ad 2, .inl (cy 2, 8, .inr (.inl (fun j => lN (sPrs S j))))), (ad 3, .inl (cy 3, 8, .inl (fun j => bI (sOut S j)))), (ad 4, .inl (cy 4, 328, .inr (.inl (fun j => lN (sWts S j))))), (ad 5, .inl (cy 5, 41, .inr (.inl (fun j => lN (sTot S j))))), (ad 6, .inl (cy 6, 300, .inl (fun j => nI (sVts S j / 256 % 8)))), (ad 7, .inl (cy 7, 300, .inl (fun j => nI (sVts S j / 2048)))), (ad 8, .inl (cy 8, 300, .inl (fun j => nI (sVts S j / 32 % 8)))), (ad 9, .inl (cy 9, 300, .inl (fun j => nI (sVts S j / 16 % 2)))), (ad 10, .inl (cy 10, 300, .inl (fun j => nI (sVts S j % 16)))), (ad 11, .inl (cy 11, 6560, .inl (fun j => nI (syF S j)))), (ad 12, .inl (cy 12, 3, .inl (fun j => nI (rtF S j)))), (ad 13, .inl (cy 13, 960, .inl (fun j => nI (sTk S j)))), (ad 14, .inl (cy 14, 960, .inl (fun j => nI (sTa S j)))), (ad 15, .inl (cy 15, 960, .inl (fun j => sTb S j))), (ad 16, .inl (cy 16, 960, .inl (fun j => sTy S j))), (ad 17, .inl (cy 17, 960, .inl (fun j => nI (sTt S j)))), (ad 18, .inl (cy 18, 960, .inr (.inl (fun j => lN (sTc S j))))), (ad 19, .inl (cy 19, 960, .inr (.inl (fun j => lN (sTs S j))))), (ad 20, .inl (cy 20, 984, .inl (fun j => bI (dnF S j))))]
abbrev mty (cy : Nat → ClassId) : List (ClassId × FieldType) := [(cy 1, .long), (cy 2, .long), (cy 3, .boolean), (cy 4, .long), (cy 5, .long), (cy 6, .int), (cy 7, .int), (cy 8, .int), (cy 9, .int), (cy 10, .int), (cy 11, .int), (cy 12, .int), (cy 13, .int), (cy 14, .int), (cy 15, .int), (cy 16, .int), (cy 17, .int), (cy 18, .long), (cy 19, .long), (cy 20, .boolean)]
abbrev mB (dC : Nat → ClassId) (dI : Nat → Nat → Nat) (ad : Nat → Nat) (cy : Nat → ClassId) (S : St) : State → Prop := roB (dC, dI) (mw ad cy S) (mty cy)
def inF (v a b : Int64) : Bool := decide (a.toInt ≤ v.toInt) && decide (v.toInt ≤ b.toInt)
def ibF (S : St) (q a b : Nat) : Bool := if q = 0 then twF (sVts S a) (sVts S b) else if q = 1 then lkF S (sVts S a) (sVts S b) else decide (a = b) && brF S (sVts S a)
def sbF (S : St) (k h r t : Nat) : Nat := bitS 10 (fun b => hasV S (vC k h r t b))
def ctT (S : St) (h q a b : Nat) : Bool := decide (sVts S a / 2048 = h) && decide (sVts S b / 2048 = h) && (decide (q ≠ 0) || decide (a < b)) && ibF S q a b
theorem f_tb2 (m k : Nat) : m / 2 ^ k % 2 = if m.testBit k = true then 1 else 0 := by
  rw [Nat.testBit_eq_decide_div_mod_eq]
  have : m / 2 ^ k % 2 < 2 := Nat.mod_lt _ (by decide)
  by_cases h : m / 2 ^ k % 2 = 1
  · simp [h]
  · have h0 : m / 2 ^ k % 2 = 0 := by omega
    simp [h0]
theorem bitS_succ (n : Nat) (f : Nat → Bool) : bitS (n + 1) f = bitS n f + (if f n = true then 2 ^ n else 0) := rfl
theorem f_or2 {x k z : Nat} (h : x < 2 ^ k) : nI x ||| nI (z * 2 ^ k) = nI (x + z * 2 ^ k) := by
  rw [nx_or, Nat.or_comm, Nat.mul_comm, ← Nat.two_pow_add_eq_or_of_lt h, Nat.add_comm]
theorem f_shlv {z b : Nat} (hz : z < 2) (h : b < 31) : nI z <<< (nI b &&& 31) = nI (z * 2 ^ b) := by
  have hp : 2 ^ b ≤ 2 ^ 30 := Nat.pow_le_pow_right (by decide) (by omega)
  have hq : z * 2 ^ b ≤ 1 * 2 ^ b := Nat.mul_le_mul_right _ (by omega)
  exact pk_shlN (nI b &&& 31) b (f_sl b (by omega)) (by omega)
end
section
abbrev rm_X2_in : Room := { frames := 0, cells := 0, slots := 0, locals := 0 }
set_option maxHeartbeats 4000000 in
set_option maxRecDepth 100000 in
theorem c_X2_in (l : Launch) (x : Int64) (y : Int64) (z : Int64) : RoI l yX2_in wsX2_in rm_X2_in [.long x, .long y, .long z] (noB) (bI (inF x y z)) := by
  refine Ro_start (cc := cX2_in) (maxL := 6) (ret := (some .boolean)) (lv := [(0, .long x), (2, .long y), (4, .long z)]) (by decide) rfl (Nat.le_of_ble_eq_true rfl) rfl ?_
  intro pp ee ss mm aa bl me co hx hb hr hml hts hown hlocks hnm hB ls hl
  refine lv_lload_n hx hb dX2_in_0 rfl (lv_at hl 0 rfl) ?_
  refine lv_lload_n hx hb dX2_in_1 rfl (lv_at hl 1 rfl) ?_
  refine f_llt (tgt := 17) hx hb (rfl) (rfl) dX2_in_2 dX2_in_3 (by decide) (fun c_1 => ?_) (fun c_1 => ?_)
  · refine lv_iconst (v := (nI 0)) hx hb dX2_in_17 (by decide) ?_
    exact f_r0 hx hb hr hlocks (by rw [← Bool.not_eq_true]; simp only [inF, Bool.and_eq_true, Bool.or_eq_true, Bool.not_eq_true', decide_eq_true_eq]; omega) dX2_in_18
  · refine lv_lload_n hx hb dX2_in_6 rfl (lv_at hl 0 rfl) ?_
    refine lv_lload hx hb dX2_in_7 (lv_at hl 2 rfl) ?_
    refine f_lgt (tgt := 17) hx hb (rfl) (rfl) dX2_in_9 dX2_in_10 (by decide) (fun c_2 => ?_) (fun c_2 => ?_)
    · refine lv_iconst (v := (nI 0)) hx hb dX2_in_17 (by decide) ?_
      exact f_r0 hx hb hr hlocks (by rw [← Bool.not_eq_true]; simp only [inF, Bool.and_eq_true, Bool.or_eq_true, Bool.not_eq_true', decide_eq_true_eq]; omega) dX2_in_18
    · refine lv_iconst (v := (nI 1)) hx hb dX2_in_13 (by decide) ?_
      refine lv_goto (tgt := 18) hx hb dX2_in_14 (by decide) ?_
      exact f_r1 hx hb hr hlocks (by simp only [inF, Bool.and_eq_true, Bool.or_eq_true, Bool.not_eq_true', decide_eq_true_eq]; omega) dX2_in_18

abbrev rm_X2_place : Room := { frames := 0, cells := 0, slots := 0, locals := 0 }
set_option maxHeartbeats 4000000 in
set_option maxRecDepth 100000 in
theorem c_X2_place (l : Launch) (h : Nat) (r : Nat) (t : Nat) (b : Nat) : RoI l yX2_place wsX2_place rm_X2_place [.int (nI h), .int (nI r), .int (nI t), .int (nI b)] (noB) (nI (((8 * h + r) * 2 + t) * 10 + b)) := by
  refine Ro_start (cc := cX2_place) (maxL := 4) (ret := (some .int)) (lv := [(0, .int (nI h)), (1, .int (nI r)), (2, .int (nI t)), (3, .int (nI b))]) (by decide) rfl (Nat.le_of_ble_eq_true rfl) rfl ?_
  intro pp ee ss mm aa bl me co hx hb hr hml hts hown hlocks hnm hB ls hl
  refine lv_bipush (v := (nI 8)) hx hb dX2_place_0 (by decide) ?_
  refine lv_iload_n hx hb dX2_place_2 rfl (lv_at hl 0 rfl) ?_
  refine lv_imul hx hb dX2_place_3 ?_
  refine f_ti (y := (nI (8 * h))) (pk_mul _ _) ?_
  refine lv_iload_n hx hb dX2_place_4 rfl (lv_at hl 1 rfl) ?_
  refine lv_iadd hx hb dX2_place_5 ?_
  refine f_ti (y := (nI ((8 * h) + r))) (nI_add _ _) ?_
  refine lv_iconst (v := (nI 2)) hx hb dX2_place_6 (by decide) ?_
  refine lv_imul hx hb dX2_place_7 ?_
  refine f_ti (y := (nI (((8 * h) + r) * 2))) (pk_mul _ _) ?_
  refine lv_iload_n hx hb dX2_place_8 rfl (lv_at hl 2 rfl) ?_
  refine lv_iadd hx hb dX2_place_9 ?_
  refine f_ti (y := (nI ((((8 * h) + r) * 2) + t))) (nI_add _ _) ?_
  refine lv_bipush (v := (nI 10)) hx hb dX2_place_10 (by decide) ?_
  refine lv_imul hx hb dX2_place_12 ?_
  refine f_ti (y := (nI (((((8 * h) + r) * 2) + t) * 10))) (pk_mul _ _) ?_
  refine lv_iload_n hx hb dX2_place_13 rfl (lv_at hl 3 rfl) ?_
  refine lv_iadd hx hb dX2_place_14 ?_
  refine f_ti (y := (nI ((((((8 * h) + r) * 2) + t) * 10) + b))) (nI_add _ _) ?_
  exact f_ri hx hb hr hlocks (rfl) dX2_place_15

abbrev rm_X2_isNode : Room := { frames := 0, cells := 0, slots := 0, locals := 0 }
set_option maxHeartbeats 4000000 in
set_option maxRecDepth 100000 in
theorem c_X2_isNode (l : Launch) (dC : Nat → ClassId) (dI : Nat → Nat → Nat) (ad : Nat → Nat) (cy : Nat → ClassId) (S : St) (x : Int32) (I : Inv S) : RoI l yX2_isNode wsX2_isNode rm_X2_isNode [.ref (ad 0), .int x] (mB dC dI ad cy S) (bI (isNd S x)) := by
  refine Ro_start (cc := cX2_isNode) (maxL := 2) (ret := (some .boolean)) (lv := [(0, .ref (ad 0)), (1, .int x)]) (by decide) rfl (Nat.le_of_ble_eq_true rfl) rfl ?_
  intro pp ee ss mm aa bl me co hx hb hr hml hts hown hlocks hnm hB ls hl
  obtain ⟨hP, hK⟩ := hB
  have hin : ∀ w ∈ wsX20, w ∈ wsX2_isNode := fun w h => List.mem_cons_of_mem _ (List.mem_append_right _ h)
  have hf_76 := hts (.fieldLink RX2 76 "FaultEvidenceModel" "nodes" "I") (by decide +kernel)
  have I1 := I.n
  refine lv_iload_n hx hb dX2_isNode_0 rfl (lv_at hl 1 rfl) ?_
  refine f_0lt (tgt := 16) hx hb (rfl) dX2_isNode_1 (by decide) (fun c_1 => ?_) (fun c_1 => ?_)
  · refine lv_iconst (v := (nI 0)) hx hb dX2_isNode_16 (by decide) ?_
    exact f_r0 hx hb hr hlocks (by rw [← Bool.not_eq_true]; simp only [isNd, Bool.and_eq_true, Bool.or_eq_true, Bool.not_eq_true', decide_eq_true_eq]; omega) dX2_isNode_17
  · refine lv_iload_n hx hb dX2_isNode_4 rfl (lv_at hl 1 rfl) ?_
    refine lv_aload_n hx hb dX2_isNode_5 rfl (lv_at hl 0 rfl) ?_
    refine va_get (D := (dC, dI)) (ci := 3) (v := .int (nI (sNn S))) (C := RX2) (T := TX2) (N := 27) hx hb hts hin hown hK hP 0 rfl rfl 0 (by decide) hf_76 (fun _ h9 => h9) rfl dX2_isNode_6 ?_
    refine f_ige (tgt := 16) hx hb (rfl) (nI_toInt (by omega)) dX2_isNode_9 (by decide) (fun c_2 => ?_) (fun c_2 => ?_)
    · refine lv_iconst (v := (nI 0)) hx hb dX2_isNode_16 (by decide) ?_
      exact f_r0 hx hb hr hlocks (by rw [← Bool.not_eq_true]; simp only [isNd, Bool.and_eq_true, Bool.or_eq_true, Bool.not_eq_true', decide_eq_true_eq]; omega) dX2_isNode_17
    · refine lv_iconst (v := (nI 1)) hx hb dX2_isNode_12 (by decide) ?_
      refine lv_goto (tgt := 17) hx hb dX2_isNode_13 (by decide) ?_
      exact f_r1 hx hb hr hlocks (by simp only [isNd, Bool.and_eq_true, Bool.or_eq_true, Bool.not_eq_true', decide_eq_true_eq]; omega) dX2_isNode_17

abbrev rm_X2_isVote : Room := { frames := 0, cells := 0, slots := 0, locals := 0 }
set_option maxHeartbeats 4000000 in
set_option maxRecDepth 100000 in
theorem c_X2_isVote (l : Launch) (dC : Nat → ClassId) (dI : Nat → Nat → Nat) (ad : Nat → Nat) (cy : Nat → ClassId) (S : St) (x : Int32) (I : Inv S) : RoI l yX2_isVote wsX2_isVote rm_X2_isVote [.ref (ad 0), .int x] (mB dC dI ad cy S) (bI (isVt S x)) := by
  refine Ro_start (cc := cX2_isVote) (maxL := 2) (ret := (some .boolean)) (lv := [(0, .ref (ad 0)), (1, .int x)]) (by decide) rfl (Nat.le_of_ble_eq_true rfl) rfl ?_
  intro pp ee ss mm aa bl me co hx hb hr hml hts hown hlocks hnm hB ls hl
  obtain ⟨hP, hK⟩ := hB
  have hin : ∀ w ∈ wsX20, w ∈ wsX2_isVote := fun w h => List.mem_cons_of_mem _ (List.mem_append_right _ h)
  have hf_79 := hts (.fieldLink RX2 79 "FaultEvidenceModel" "votes" "I") (by decide +kernel)
  have I1 := I.n
  refine lv_iload_n hx hb dX2_isVote_0 rfl (lv_at hl 1 rfl) ?_
  refine f_0lt (tgt := 16) hx hb (rfl) dX2_isVote_1 (by decide) (fun c_1 => ?_) (fun c_1 => ?_)
  · refine lv_iconst (v := (nI 0)) hx hb dX2_isVote_16 (by decide) ?_
    exact f_r0 hx hb hr hlocks (by rw [← Bool.not_eq_true]; simp only [isVt, Bool.and_eq_true, Bool.or_eq_true, Bool.not_eq_true', decide_eq_true_eq]; omega) dX2_isVote_17
  · refine lv_iload_n hx hb dX2_isVote_4 rfl (lv_at hl 1 rfl) ?_
    refine lv_aload_n hx hb dX2_isVote_5 rfl (lv_at hl 0 rfl) ?_
    refine va_get (D := (dC, dI)) (ci := 3) (v := .int (nI (sVn S))) (C := RX2) (T := TX2) (N := 27) hx hb hts hin hown hK hP 0 rfl rfl 7 (by decide) hf_79 (fun _ h9 => h9) rfl dX2_isVote_6 ?_
    refine f_ige (tgt := 16) hx hb (rfl) (nI_toInt (by omega)) dX2_isVote_9 (by decide) (fun c_2 => ?_) (fun c_2 => ?_)
    · refine lv_iconst (v := (nI 0)) hx hb dX2_isVote_16 (by decide) ?_
      exact f_r0 hx hb hr hlocks (by rw [← Bool.not_eq_true]; simp only [isVt, Bool.and_eq_true, Bool.or_eq_true, Bool.not_eq_true', decide_eq_true_eq]; omega) dX2_isVote_17
    · refine lv_iconst (v := (nI 1)) hx hb dX2_isVote_12 (by decide) ?_
      refine lv_goto (tgt := 17) hx hb dX2_isVote_13 (by decide) ?_
      exact f_r1 hx hb hr hlocks (by simp only [isVt, Bool.and_eq_true, Bool.or_eq_true, Bool.not_eq_true', decide_eq_true_eq]; omega) dX2_isVote_17

abbrev rm_X2_isHeight : Room := { frames := 0, cells := 0, slots := 0, locals := 0 }
set_option maxHeartbeats 4000000 in
set_option maxRecDepth 100000 in
theorem c_X2_isHeight (l : Launch) (dC : Nat → ClassId) (dI : Nat → Nat → Nat) (ad : Nat → Nat) (cy : Nat → ClassId) (S : St) (x : Int32) (I : Inv S) : RoI l yX2_isHeight wsX2_isHeight rm_X2_isHeight [.ref (ad 0), .int x] (mB dC dI ad cy S) (bI (isBg S x)) := by
  refine Ro_start (cc := cX2_isHeight) (maxL := 2) (ret := (some .boolean)) (lv := [(0, .ref (ad 0)), (1, .int x)]) (by decide) rfl (Nat.le_of_ble_eq_true rfl) rfl ?_
  intro pp ee ss mm aa bl me co hx hb hr hml hts hown hlocks hnm hB ls hl
  obtain ⟨hP, hK⟩ := hB
  have hin : ∀ w ∈ wsX20, w ∈ wsX2_isHeight := fun w h => List.mem_cons_of_mem _ (List.mem_append_right _ h)
  have hf_82 := hts (.fieldLink RX2 82 "FaultEvidenceModel" "height" "I") (by decide +kernel)
  have I1 := I.n
  refine lv_iload_n hx hb dX2_isHeight_0 rfl (lv_at hl 1 rfl) ?_
  refine lv_iconst (v := (nI 1)) hx hb dX2_isHeight_1 (by decide) ?_
  refine f_ilt (tgt := 17) hx hb (rfl) (nI_toInt (by omega)) dX2_isHeight_2 (by decide) (fun c_1 => ?_) (fun c_1 => ?_)
  · refine lv_iconst (v := (nI 0)) hx hb dX2_isHeight_17 (by decide) ?_
    exact f_r0 hx hb hr hlocks (by rw [← Bool.not_eq_true]; simp only [isBg, Bool.and_eq_true, Bool.or_eq_true, Bool.not_eq_true', decide_eq_true_eq]; omega) dX2_isHeight_18
  · refine lv_iload_n hx hb dX2_isHeight_5 rfl (lv_at hl 1 rfl) ?_
    refine lv_aload_n hx hb dX2_isHeight_6 rfl (lv_at hl 0 rfl) ?_
    refine va_get (D := (dC, dI)) (ci := 3) (v := .int (nI (sHh S))) (C := RX2) (T := TX2) (N := 27) hx hb hts hin hown hK hP 0 rfl rfl 4 (by decide) hf_82 (fun _ h9 => h9) rfl dX2_isHeight_7 ?_
    refine f_igt (tgt := 17) hx hb (rfl) (nI_toInt (by omega)) dX2_isHeight_10 (by decide) (fun c_2 => ?_) (fun c_2 => ?_)
    · refine lv_iconst (v := (nI 0)) hx hb dX2_isHeight_17 (by decide) ?_
      exact f_r0 hx hb hr hlocks (by rw [← Bool.not_eq_true]; simp only [isBg, Bool.and_eq_true, Bool.or_eq_true, Bool.not_eq_true', decide_eq_true_eq]; omega) dX2_isHeight_18
    · refine lv_iconst (v := (nI 1)) hx hb dX2_isHeight_13 (by decide) ?_
      refine lv_goto (tgt := 18) hx hb dX2_isHeight_14 (by decide) ?_
      exact f_r1 hx hb hr hlocks (by simp only [isBg, Bool.and_eq_true, Bool.or_eq_true, Bool.not_eq_true', decide_eq_true_eq]; omega) dX2_isHeight_18

abbrev rm_X2_weightOf : Room := { frames := 0, cells := 0, slots := 0, locals := 0 }
set_option maxHeartbeats 4000000 in
set_option maxRecDepth 100000 in
theorem c_X2_weightOf (l : Launch) (dC : Nat → ClassId) (dI : Nat → Nat → Nat) (ad : Nat → Nat) (cy : Nat → ClassId) (S : St) (h : Nat) (m : Nat) (I : Inv S) (hh : h ≤ 40) (hm1 : m < 256) : RoL l yX2_weightOf wsX2_weightOf rm_X2_weightOf [.ref (ad 0), .int (nI h), .int (nI m)] (mB dC dI ad cy S) (lN (woF S h m)) := by
  refine Ro_start (cc := cX2_weightOf) (maxL := 6) (ret := (some .long)) (lv := [(0, .ref (ad 0)), (1, .int (nI h)), (2, .int (nI m))]) (by decide) rfl (Nat.le_of_ble_eq_true rfl) rfl ?_
  intro pp ee ss mm aa bl me co hx hb hr hml hts hown hlocks hnm hB ls hl
  obtain ⟨hP, hK⟩ := hB
  have hin : ∀ w ∈ wsX20, w ∈ wsX2_weightOf := fun w h => List.mem_cons_of_mem _ (List.mem_append_right _ h)
  have hf_20 := hts (.fieldLink RX2 20 "FaultEvidenceModel" "weights" "[J") (by decide +kernel)
  have I1 := I.n
  refine lv_lconst (v := (lN 0)) hx hb dX2_weightOf_0 (by decide) ?_
  refine lv_lstore_n (lv' := [(3, .long (lN 0)), (0, .ref (ad 0)), (1, .int (nI h)), (2, .int (nI m))]) hx hb dX2_weightOf_1 rfl hl (by decide) rfl (fun ls hl => ?_)
  refine lv_iconst (v := (nI 0)) hx hb dX2_weightOf_2 (by decide) ?_
  refine lv_istore (lv' := [(5, .int (nI 0)), (3, .long (lN 0)), (0, .ref (ad 0)), (1, .int (nI h)), (2, .int (nI m))]) hx hb dX2_weightOf_3 hl (by decide) rfl (fun ls hl => ?_)
  have loop_5 : ∀ (n : Nat) (k : Nat) (w : Nat), 8 - k < n → w = sm k (woT S h m) → k ≤ 8 → ∀ ls : Array Slot, lv_has ls 6 [(5, .int (nI k)), (3, .long (lN w)), (0, .ref (ad 0)), (1, .int (nI h)), (2, .int (nI m))] → W pp l ee rm_X2_weightOf ss mm aa bl me co ss.heap [] 0 0 (MQ bl (vp_Sl (fun r => r = lN (woF S h m))) aa ss 0 0 (fun _ => False)) (F0 mm 5 ls []) := by
    intro n
    induction n with
    | zero => intro k w hm; exact absurd hm (Nat.not_lt_zero _)
    | succ n ih =>
      intro k w hm hw hk ls hl
      refine lv_iload hx hb dX2_weightOf_5 (lv_at hl 0 rfl) ?_
      refine lv_bipush (v := (nI 8)) hx hb dX2_weightOf_7 (by decide) ?_
      refine f_ige (tgt := 47) hx hb (nI_toInt (by omega)) (nI_toInt (by omega)) dX2_weightOf_9 (by decide) (fun c_1 => ?_) (fun c_1 => ?_)
      · refine lv_lload_n hx hb dX2_weightOf_47 rfl (lv_at hl 1 rfl) ?_
        exact f_rl hx hb hr hlocks (by have e : k = 8 := (by omega); rw [hw, e]; rfl) dX2_weightOf_48
      · refine lv_lload_n hx hb dX2_weightOf_12 rfl (lv_at hl 1 rfl) ?_
        refine lv_iload_n hx hb dX2_weightOf_13 rfl (lv_at hl 4 rfl) ?_
        refine lv_iload hx hb dX2_weightOf_14 (lv_at hl 0 rfl) ?_
        refine lv_ishr hx hb dX2_weightOf_16 ?_
        refine f_ti (y := (nI (m / 2 ^ k))) (f_shrv (by omega) (by omega)) ?_
        refine lv_iconst (v := (nI 1)) hx hb dX2_weightOf_17 (by decide) ?_
        have hql : m / 2 ^ k ≤ m := Nat.div_le_self _ _
        refine lv_iand hx hb dX2_weightOf_18 ?_
        refine f_ti (y := (nI ((m / 2 ^ k) % 2))) (pk_andN (by omega) 1 (by decide)) ?_
        refine lv_iconst (v := (nI 1)) hx hb dX2_weightOf_19 (by decide) ?_
        have hq := f_tb2 m k
        refine f_ine (tgt := 38) hx hb (nI_toInt (by omega)) (nI_toInt (by omega)) dX2_weightOf_20 (by decide) (fun c_2 => ?_) (fun c_2 => ?_)
        · have hz : woT S h m k = 0 := by
            unfold woT
            rw [if_neg]
            intro e
            rw [if_pos e] at hq
            omega
          refine lv_lconst (v := (lN 0)) hx hb dX2_weightOf_38 (by decide) ?_
          refine lv_ladd hx hb dX2_weightOf_39 ?_
          refine f_tl (y := (lN (w + 0))) (lN_add _ _) ?_
          refine lv_lstore_n (lv' := [(3, .long (lN (w + 0))), (5, .int (nI k)), (0, .ref (ad 0)), (1, .int (nI h)), (2, .int (nI m))]) hx hb dX2_weightOf_40 rfl hl (by decide) rfl (fun ls hl => ?_)
          refine lv_iinc (v := (nI (k + 1))) (lv' := [(5, .int (nI (k + 1))), (3, .long (lN (w + 0))), (0, .ref (ad 0)), (1, .int (nI h)), (2, .int (nI m))]) hx hb dX2_weightOf_41 hl (k := 1) rfl (nI_add k 1) (by decide) rfl (fun ls hl => ?_)
          refine lv_goto (tgt := 5) hx hb dX2_weightOf_44 (by decide) ?_
          exact ih (k + 1) (w + 0) (by omega) (by rw [sm, ← hw, hz]) (by omega) ls (lv_sub hl [0, 1, 2, 3, 4] rfl)
        · have hz : woT S h m k = sWts S (8 * h + k) := by
            unfold woT
            rw [if_pos]
            rw [← Bool.not_eq_false]
            intro e
            rw [e, if_neg (by decide)] at hq
            omega
          refine lv_aload_n hx hb dX2_weightOf_23 rfl (lv_at hl 2 rfl) ?_
          refine va_get (D := (dC, dI)) (ci := 3) (v := .ref (ad 4)) (C := RX2) (T := TX2) (N := 27) hx hb hts hin hown hK hP 0 rfl rfl 5 (by decide) hf_20 (fun _ h9 => h9) rfl dX2_weightOf_24 ?_
          refine lv_bipush (v := (nI 8)) hx hb dX2_weightOf_27 (by decide) ?_
          refine lv_iload_n hx hb dX2_weightOf_29 rfl (lv_at hl 3 rfl) ?_
          refine lv_imul hx hb dX2_weightOf_30 ?_
          refine f_ti (y := (nI (8 * h))) (pk_mul _ _) ?_
          refine lv_iload hx hb dX2_weightOf_31 (lv_at hl 0 rfl) ?_
          refine lv_iadd hx hb dX2_weightOf_33 ?_
          refine f_ti (y := (nI ((8 * h) + k))) (nI_add _ _) ?_
          refine f_lald hx hb hK hP 4 3 rfl rfl (k := ((8 * h) + k)) (by omega) (by decide) (v := (lN (sWts S ((8 * h) + k)))) rfl dX2_weightOf_34 ?_
          refine lv_goto (tgt := 39) hx hb dX2_weightOf_35 (by decide) ?_
          refine lv_ladd hx hb dX2_weightOf_39 ?_
          refine f_tl (y := (lN (w + (sWts S ((8 * h) + k))))) (lN_add _ _) ?_
          refine lv_lstore_n (lv' := [(3, .long (lN (w + (sWts S ((8 * h) + k))))), (5, .int (nI k)), (0, .ref (ad 0)), (1, .int (nI h)), (2, .int (nI m))]) hx hb dX2_weightOf_40 rfl hl (by decide) rfl (fun ls hl => ?_)
          refine lv_iinc (v := (nI (k + 1))) (lv' := [(5, .int (nI (k + 1))), (3, .long (lN (w + (sWts S ((8 * h) + k))))), (0, .ref (ad 0)), (1, .int (nI h)), (2, .int (nI m))]) hx hb dX2_weightOf_41 hl (k := 1) rfl (nI_add k 1) (by decide) rfl (fun ls hl => ?_)
          refine lv_goto (tgt := 5) hx hb dX2_weightOf_44 (by decide) ?_
          exact ih (k + 1) (w + (sWts S ((8 * h) + k))) (by omega) (by rw [sm, ← hw, hz]) (by omega) ls (lv_sub hl [0, 1, 2, 3, 4] rfl)
  exact loop_5 (8 - 0 + 1) 0 0 (Nat.lt_succ_self _) (rfl) (by decide) ls (lv_sub hl [0, 1, 2, 3, 4] rfl)

abbrev rm_X2_haveMost : Room := { frames := 1, cells := 0, slots := 0, locals := 25 }
set_option maxHeartbeats 4000000 in
set_option maxRecDepth 100000 in
theorem c_X2_haveMost (l : Launch) (dC : Nat → ClassId) (dI : Nat → Nat → Nat) (ad : Nat → Nat) (cy : Nat → ClassId) (S : St) (h : Nat) (m : Nat) (I : Inv S) (hh : h ≤ 40) (hm1 : m < 256) : RoI l yX2_haveMost wsX2_haveMost rm_X2_haveMost [.ref (ad 0), .int (nI h), .int (nI m)] (mB dC dI ad cy S) (bI (mostF S h (woF S h m))) := by
  refine Ro_start (cc := cX2_haveMost) (maxL := 3) (ret := (some .boolean)) (lv := [(0, .ref (ad 0)), (1, .int (nI h)), (2, .int (nI m))]) (by decide) rfl (Nat.le_of_ble_eq_true rfl) rfl ?_
  intro pp ee ss mm aa bl me co hx hb hr hml hts hown hlocks hnm hB ls hl
  obtain ⟨hP, hK⟩ := hB
  have hin : ∀ w ∈ wsX20, w ∈ wsX2_haveMost := fun w h => List.mem_cons_of_mem _ (List.mem_append_right _ h)
  have hf_23 := hts (.fieldLink RX2 23 "FaultEvidenceModel" "totals" "[J") (by decide +kernel)
  have hc_85 := hts (.constantLong RX2 85 (3)) (by decide +kernel)
  have hc_91 := hts (.constantLong RX2 91 (2)) (by decide +kernel)
  have I1 := I.n
  have I2 := I.t h
  have I3 := woF_le I h m
  refine lv_ldc2 (v := 3) hx hb hown hc_85 dX2_haveMost_0 ?_
  refine f_tl (y := (lN 3)) (by decide) ?_
  refine lv_aload_n hx hb dX2_haveMost_3 rfl (lv_at hl 0 rfl) ?_
  refine lv_iload_n hx hb dX2_haveMost_4 rfl (lv_at hl 1 rfl) ?_
  refine lv_iload_n hx hb dX2_haveMost_5 rfl (lv_at hl 2 rfl) ?_
  refine f_cVl (As := [.int (nI h), .int (nI m)]) (rest := [.long (lN 3)]) ⟨hx, hb, hml, hown, hts⟩ (c_X2_weightOf l dC dI ad cy S h m I (by omega) (by omega)) (cwV 2 hts gX2_haveMost_X2_weightOf rfl rfl rfl (by decide +kernel) ⟨Nat.le_of_ble_eq_true rfl, Nat.le_of_ble_eq_true rfl⟩) roB_bl (va_recv hK hP (ci := 3) (q0 := 0) rfl rfl) (roB_at hP hK) rfl hl.1 rfl (Nat.le_of_ble_eq_true rfl) dX2_haveMost_6 ⟨Nat.zero_le _, Nat.zero_le _⟩ ?_
  refine lv_lmul hx hb dX2_haveMost_9 ?_
  refine f_tl (y := (lN (3 * (woF S h m)))) (lN_mul _ _) ?_
  refine lv_ldc2 (v := 2) hx hb hown hc_91 dX2_haveMost_10 ?_
  refine f_tl (y := (lN 2)) (by decide) ?_
  refine lv_aload_n hx hb dX2_haveMost_13 rfl (lv_at hl 0 rfl) ?_
  refine va_get (D := (dC, dI)) (ci := 3) (v := .ref (ad 5)) (C := RX2) (T := TX2) (N := 27) hx hb hts hin hown hK hP 0 rfl rfl 6 (by decide) hf_23 (fun _ h9 => h9) rfl dX2_haveMost_14 ?_
  refine lv_iload_n hx hb dX2_haveMost_17 rfl (lv_at hl 1 rfl) ?_
  refine f_lald hx hb hK hP 5 4 rfl rfl (k := h) (by omega) (by decide) (v := (lN (sTot S h))) rfl dX2_haveMost_18 ?_
  refine lv_lmul hx hb dX2_haveMost_19 ?_
  refine f_tl (y := (lN (2 * (sTot S h)))) (lN_mul _ _) ?_
  refine f_lle (tgt := 28) hx hb (pk_lT (by omega)) (pk_lT (by omega)) dX2_haveMost_20 dX2_haveMost_21 (by decide) (fun c_1 => ?_) (fun c_1 => ?_)
  · refine lv_iconst (v := (nI 0)) hx hb dX2_haveMost_28 (by decide) ?_
    exact f_r0 hx hb hr hlocks (by rw [← Bool.not_eq_true]; simp only [mostF, Bool.and_eq_true, Bool.or_eq_true, Bool.not_eq_true', decide_eq_true_eq]; omega) dX2_haveMost_29
  · refine lv_iconst (v := (nI 1)) hx hb dX2_haveMost_24 (by decide) ?_
    refine lv_goto (tgt := 29) hx hb dX2_haveMost_25 (by decide) ?_
    exact f_r1 hx hb hr hlocks (by simp only [mostF, Bool.and_eq_true, Bool.or_eq_true, Bool.not_eq_true', decide_eq_true_eq]; omega) dX2_haveMost_29

abbrev rm_X2_isBacked : Room := { frames := 2, cells := 0, slots := 0, locals := 47 }
set_option maxHeartbeats 4000000 in
set_option maxRecDepth 100000 in
theorem c_X2_isBacked (l : Launch) (dC : Nat → ClassId) (dI : Nat → Nat → Nat) (ad : Nat → Nat) (cy : Nat → ClassId) (S : St) (h : Nat) (r : Nat) (b : Nat) (I : Inv S) (hh : h ≤ 40) (hr1 : r < 8) (hb1 : b < 10) : RoI l yX2_isBacked wsX2_isBacked rm_X2_isBacked [.ref (ad 0), .int (nI h), .int (nI r), .int (nI b)] (mB dC dI ad cy S) (bI (msF S h r 0 b)) := by
  refine Ro_start (cc := cX2_isBacked) (maxL := 4) (ret := (some .boolean)) (lv := [(0, .ref (ad 0)), (1, .int (nI h)), (2, .int (nI r)), (3, .int (nI b))]) (by decide) rfl (Nat.le_of_ble_eq_true rfl) rfl ?_
  intro pp ee ss mm aa bl me co hx hb hr hml hts hown hlocks hnm hB ls hl
  obtain ⟨hP, hK⟩ := hB
  have hin : ∀ w ∈ wsX20, w ∈ wsX2_isBacked := fun w h => List.mem_cons_of_mem _ (List.mem_append_right _ h)
  have hf_42 := hts (.fieldLink RX2 42 "FaultEvidenceModel" "saying" "[I") (by decide +kernel)
  have I1 := I.n
  have I2 := sy_lt S (((8 * h + r) * 2 + 0) * 10 + b)
  refine lv_aload_n hx hb dX2_isBacked_0 rfl (lv_at hl 0 rfl) ?_
  refine lv_iload_n hx hb dX2_isBacked_1 rfl (lv_at hl 1 rfl) ?_
  refine lv_aload_n hx hb dX2_isBacked_2 rfl (lv_at hl 0 rfl) ?_
  refine va_get (D := (dC, dI)) (ci := 3) (v := .ref (ad 11)) (C := RX2) (T := TX2) (N := 27) hx hb hts hin hown hK hP 0 rfl rfl 13 (by decide) hf_42 (fun _ h9 => h9) rfl dX2_isBacked_3 ?_
  refine lv_iload_n hx hb dX2_isBacked_6 rfl (lv_at hl 1 rfl) ?_
  refine lv_iload_n hx hb dX2_isBacked_7 rfl (lv_at hl 2 rfl) ?_
  refine lv_iconst (v := (nI 0)) hx hb dX2_isBacked_8 (by decide) ?_
  refine lv_iload_n hx hb dX2_isBacked_9 rfl (lv_at hl 3 rfl) ?_
  refine f_cSi (As := [.int (nI h), .int (nI r), .int (nI 0), .int (nI b)]) (rest := [.ref (ad 11), .int (nI h), .ref (ad 0)]) ⟨hx, hb, hml, hown, hts⟩ (c_X2_place l h r 0 b) (va_cwS 4 hts gX2_isBacked_X2_place rfl rfl rfl (by decide +kernel) ⟨Nat.le_of_ble_eq_true rfl, Nat.le_of_ble_eq_true rfl⟩) noB_bl noB_at rfl hl.1 rfl (Nat.le_of_ble_eq_true rfl) dX2_isBacked_10 ⟨Nat.zero_le _, Nat.zero_le _⟩ ?_
  refine f_iald hx hb hK hP 11 10 rfl rfl (k := (((8 * h + r) * 2 + 0) * 10 + b)) (by omega) (by decide) (v := (nI (syF S (((8 * h + r) * 2 + 0) * 10 + b)))) rfl dX2_isBacked_13 ?_
  refine f_cVi (As := [.int (nI h), .int (nI (syF S (((8 * h + r) * 2 + 0) * 10 + b)))]) (rest := []) ⟨hx, hb, hml, hown, hts⟩ (c_X2_haveMost l dC dI ad cy S h (syF S (((8 * h + r) * 2 + 0) * 10 + b)) I (by omega) (by omega)) (cwV 2 hts gX2_isBacked_X2_haveMost rfl rfl rfl (by decide +kernel) ⟨Nat.le_of_ble_eq_true rfl, Nat.le_of_ble_eq_true rfl⟩) roB_bl (va_recv hK hP (ci := 3) (q0 := 0) rfl rfl) (roB_at hP hK) rfl hl.1 rfl (Nat.le_of_ble_eq_true rfl) dX2_isBacked_14 ⟨Nat.zero_le _, Nat.zero_le _⟩ ?_
  exact f_rb hx hb hr hlocks (by unfold msF; rw [wo_at S hr1 (by decide) hb1]) dX2_isBacked_17

abbrev rm_X2_isCertain : Room := { frames := 2, cells := 0, slots := 0, locals := 47 }
set_option maxHeartbeats 4000000 in
set_option maxRecDepth 100000 in
theorem c_X2_isCertain (l : Launch) (dC : Nat → ClassId) (dI : Nat → Nat → Nat) (ad : Nat → Nat) (cy : Nat → ClassId) (S : St) (h : Nat) (b : Nat) (I : Inv S) (hh : h ≤ 40) (hb1 : b < 10) : RoI l yX2_isCertain wsX2_isCertain rm_X2_isCertain [.ref (ad 0), .int (nI h), .int (nI b)] (mB dC dI ad cy S) (bI (ex 8 (fun r => msF S h r 1 b))) := by
  refine Ro_start (cc := cX2_isCertain) (maxL := 5) (ret := (some .boolean)) (lv := [(0, .ref (ad 0)), (1, .int (nI h)), (2, .int (nI b))]) (by decide) rfl (Nat.le_of_ble_eq_true rfl) rfl ?_
  intro pp ee ss mm aa bl me co hx hb hr hml hts hown hlocks hnm hB ls hl
  obtain ⟨hP, hK⟩ := hB
  have hin : ∀ w ∈ wsX20, w ∈ wsX2_isCertain := fun w h => List.mem_cons_of_mem _ (List.mem_append_right _ h)
  have hf_42 := hts (.fieldLink RX2 42 "FaultEvidenceModel" "saying" "[I") (by decide +kernel)
  have I1 := I.n
  refine lv_iconst (v := (nI 0)) hx hb dX2_isCertain_0 (by decide) ?_
  refine f_ti (y := (bI false)) rfl ?_
  refine lv_istore_n (lv' := [(3, .int (bI false)), (0, .ref (ad 0)), (1, .int (nI h)), (2, .int (nI b))]) hx hb dX2_isCertain_1 rfl hl (by decide) rfl (fun ls hl => ?_)
  refine lv_iconst (v := (nI 0)) hx hb dX2_isCertain_2 (by decide) ?_
  refine lv_istore (lv' := [(4, .int (nI 0)), (3, .int (bI false)), (0, .ref (ad 0)), (1, .int (nI h)), (2, .int (nI b))]) hx hb dX2_isCertain_3 hl (by decide) rfl (fun ls hl => ?_)
  have loop_5 : ∀ (n : Nat) (r : Nat) (F : Bool), 8 - r < n → F = ex r (fun r => msF S h r 1 b) → r ≤ 8 → ∀ ls : Array Slot, lv_has ls 5 [(4, .int (nI r)), (3, .int (bI F)), (0, .ref (ad 0)), (1, .int (nI h)), (2, .int (nI b))] → W pp l ee rm_X2_isCertain ss mm aa bl me co ss.heap [] 0 0 (MQ bl (vp_Si (fun r => r = bI (ex 8 (fun r => msF S h r 1 b)))) aa ss 0 0 (fun _ => False)) (F0 mm 5 ls []) := by
    intro n
    induction n with
    | zero => intro r F hm; exact absurd hm (Nat.not_lt_zero _)
    | succ n ih =>
      intro r F hm hF hr1 ls hl
      refine lv_iload hx hb dX2_isCertain_5 (lv_at hl 0 rfl) ?_
      refine lv_bipush (v := (nI 8)) hx hb dX2_isCertain_7 (by decide) ?_
      refine f_ige (tgt := 49) hx hb (nI_toInt (by omega)) (nI_toInt (by omega)) dX2_isCertain_9 (by decide) (fun c_1 => ?_) (fun c_1 => ?_)
      · refine lv_iload_n hx hb dX2_isCertain_49 rfl (lv_at hl 1 rfl) ?_
        exact f_rb hx hb hr hlocks (by have e : r = 8 := (by omega); rw [hF, e]) dX2_isCertain_50
      · refine lv_iload_n hx hb dX2_isCertain_12 rfl (lv_at hl 1 rfl) ?_
        refine f_bne (tgt := 37) hx hb dX2_isCertain_13 (by decide) (fun c_2 => ?_) (fun c_2 => ?_)
        · refine lv_iconst (v := (nI 1)) hx hb dX2_isCertain_37 (by decide) ?_
          refine lv_goto (tgt := 42) hx hb dX2_isCertain_38 (by decide) ?_
          refine f_ti (y := (bI true)) rfl ?_
          refine lv_istore_n (lv' := [(3, .int (bI true)), (4, .int (nI r)), (0, .ref (ad 0)), (1, .int (nI h)), (2, .int (nI b))]) hx hb dX2_isCertain_42 rfl hl (by decide) rfl (fun ls hl => ?_)
          refine lv_iinc (v := (nI (r + 1))) (lv' := [(4, .int (nI (r + 1))), (3, .int (bI true)), (0, .ref (ad 0)), (1, .int (nI h)), (2, .int (nI b))]) hx hb dX2_isCertain_43 hl (k := 1) rfl (nI_add r 1) (by decide) rfl (fun ls hl => ?_)
          refine lv_goto (tgt := 5) hx hb dX2_isCertain_46 (by decide) ?_
          exact ih (r + 1) true (by omega) (by simp [ex, ← hF, c_2]) (by omega) ls (lv_sub hl [0, 1, 2, 3, 4] rfl)
        · refine lv_aload_n hx hb dX2_isCertain_16 rfl (lv_at hl 2 rfl) ?_
          refine lv_iload_n hx hb dX2_isCertain_17 rfl (lv_at hl 3 rfl) ?_
          refine lv_aload_n hx hb dX2_isCertain_18 rfl (lv_at hl 2 rfl) ?_
          refine va_get (D := (dC, dI)) (ci := 3) (v := .ref (ad 11)) (C := RX2) (T := TX2) (N := 27) hx hb hts hin hown hK hP 0 rfl rfl 13 (by decide) hf_42 (fun _ h9 => h9) rfl dX2_isCertain_19 ?_
          refine lv_iload_n hx hb dX2_isCertain_22 rfl (lv_at hl 3 rfl) ?_
          refine lv_iload hx hb dX2_isCertain_23 (lv_at hl 0 rfl) ?_
          refine lv_iconst (v := (nI 1)) hx hb dX2_isCertain_25 (by decide) ?_
          refine lv_iload_n hx hb dX2_isCertain_26 rfl (lv_at hl 4 rfl) ?_
          refine f_cSi (As := [.int (nI h), .int (nI r), .int (nI 1), .int (nI b)]) (rest := [.ref (ad 11), .int (nI h), .ref (ad 0)]) ⟨hx, hb, hml, hown, hts⟩ (c_X2_place l h r 1 b) (va_cwS 4 hts gX2_isCertain_X2_place rfl rfl rfl (by decide +kernel) ⟨Nat.le_of_ble_eq_true rfl, Nat.le_of_ble_eq_true rfl⟩) noB_bl noB_at rfl hl.1 rfl (Nat.le_of_ble_eq_true rfl) dX2_isCertain_27 ⟨Nat.zero_le _, Nat.zero_le _⟩ ?_
          refine f_iald hx hb hK hP 11 10 rfl rfl (k := (((8 * h + r) * 2 + 1) * 10 + b)) (by omega) (by decide) (v := (nI (syF S (((8 * h + r) * 2 + 1) * 10 + b)))) rfl dX2_isCertain_30 ?_
          have I2 := sy_lt S (((8 * h + r) * 2 + 1) * 10 + b)
          refine f_cVi (As := [.int (nI h), .int (nI (syF S (((8 * h + r) * 2 + 1) * 10 + b)))]) (rest := []) ⟨hx, hb, hml, hown, hts⟩ (c_X2_haveMost l dC dI ad cy S h (syF S (((8 * h + r) * 2 + 1) * 10 + b)) I (by omega) (by omega)) (cwV 2 hts gX2_isCertain_X2_haveMost rfl rfl rfl (by decide +kernel) ⟨Nat.le_of_ble_eq_true rfl, Nat.le_of_ble_eq_true rfl⟩) roB_bl (va_recv hK hP (ci := 3) (q0 := 0) rfl rfl) (roB_at hP hK) rfl hl.1 rfl (Nat.le_of_ble_eq_true rfl) dX2_isCertain_31 ⟨Nat.zero_le _, Nat.zero_le _⟩ ?_
          refine f_beq (tgt := 41) hx hb dX2_isCertain_34 (by decide) (fun c_3 => ?_) (fun c_3 => ?_)
          · rw [wo_at S (by omega) (by decide) hb1] at c_3
            have c_3 : msF S h r 1 b = false := c_3
            refine lv_iconst (v := (nI 0)) hx hb dX2_isCertain_41 (by decide) ?_
            refine f_ti (y := (bI false)) rfl ?_
            refine lv_istore_n (lv' := [(3, .int (bI false)), (4, .int (nI r)), (0, .ref (ad 0)), (1, .int (nI h)), (2, .int (nI b))]) hx hb dX2_isCertain_42 rfl hl (by decide) rfl (fun ls hl => ?_)
            refine lv_iinc (v := (nI (r + 1))) (lv' := [(4, .int (nI (r + 1))), (3, .int (bI false)), (0, .ref (ad 0)), (1, .int (nI h)), (2, .int (nI b))]) hx hb dX2_isCertain_43 hl (k := 1) rfl (nI_add r 1) (by decide) rfl (fun ls hl => ?_)
            refine lv_goto (tgt := 5) hx hb dX2_isCertain_46 (by decide) ?_
            exact ih (r + 1) false (by omega) (by simp [ex, ← hF, c_2, c_3]) (by omega) ls (lv_sub hl [0, 1, 2, 3, 4] rfl)
          · rw [wo_at S (by omega) (by decide) hb1] at c_3
            have c_3 : msF S h r 1 b = true := c_3
            refine lv_iconst (v := (nI 1)) hx hb dX2_isCertain_37 (by decide) ?_
            refine lv_goto (tgt := 42) hx hb dX2_isCertain_38 (by decide) ?_
            refine f_ti (y := (bI true)) rfl ?_
            refine lv_istore_n (lv' := [(3, .int (bI true)), (4, .int (nI r)), (0, .ref (ad 0)), (1, .int (nI h)), (2, .int (nI b))]) hx hb dX2_isCertain_42 rfl hl (by decide) rfl (fun ls hl => ?_)
            refine lv_iinc (v := (nI (r + 1))) (lv' := [(4, .int (nI (r + 1))), (3, .int (bI true)), (0, .ref (ad 0)), (1, .int (nI h)), (2, .int (nI b))]) hx hb dX2_isCertain_43 hl (k := 1) rfl (nI_add r 1) (by decide) rfl (fun ls hl => ?_)
            refine lv_goto (tgt := 5) hx hb dX2_isCertain_46 (by decide) ?_
            exact ih (r + 1) true (by omega) (by simp [ex, ← hF, c_2, c_3]) (by omega) ls (lv_sub hl [0, 1, 2, 3, 4] rfl)
  exact loop_5 (8 - 0 + 1) 0 false (Nat.lt_succ_self _) (rfl) (by decide) ls (lv_sub hl [0, 1, 2, 3, 4] rfl)

abbrev rm_X2_isTwice : Room := { frames := 0, cells := 0, slots := 0, locals := 0 }
set_option maxHeartbeats 4000000 in
set_option maxRecDepth 100000 in
theorem c_X2_isTwice (l : Launch) (dC : Nat → ClassId) (dI : Nat → Nat → Nat) (ad : Nat → Nat) (cy : Nat → ClassId) (S : St) (a : Nat) (b : Nat) (I : Inv S) (ha : a < sVn S) (hb1 : b < sVn S) : RoI l yX2_isTwice wsX2_isTwice rm_X2_isTwice [.ref (ad 0), .int (nI a), .int (nI b)] (mB dC dI ad cy S) (bI (twF (sVts S a) (sVts S b))) := by
  refine Ro_start (cc := cX2_isTwice) (maxL := 3) (ret := (some .boolean)) (lv := [(0, .ref (ad 0)), (1, .int (nI a)), (2, .int (nI b))]) (by decide) rfl (Nat.le_of_ble_eq_true rfl) rfl ?_
  intro pp ee ss mm aa bl me co hx hb hr hml hts hown hlocks hnm hB ls hl
  obtain ⟨hP, hK⟩ := hB
  have hin : ∀ w ∈ wsX20, w ∈ wsX2_isTwice := fun w h => List.mem_cons_of_mem _ (List.mem_append_right _ h)
  have hf_26 := hts (.fieldLink RX2 26 "FaultEvidenceModel" "who" "[I") (by decide +kernel)
  have hf_30 := hts (.fieldLink RX2 30 "FaultEvidenceModel" "when" "[I") (by decide +kernel)
  have hf_33 := hts (.fieldLink RX2 33 "FaultEvidenceModel" "rounds" "[I") (by decide +kernel)
  have hf_36 := hts (.fieldLink RX2 36 "FaultEvidenceModel" "steps" "[I") (by decide +kernel)
  have hf_39 := hts (.fieldLink RX2 39 "FaultEvidenceModel" "blocks" "[I") (by decide +kernel)
  have I1 := I.n
  have v1 := I.v ha
  have v2 := I.v hb1
  refine lv_aload_n hx hb dX2_isTwice_0 rfl (lv_at hl 0 rfl) ?_
  refine va_get (D := (dC, dI)) (ci := 3) (v := .ref (ad 6)) (C := RX2) (T := TX2) (N := 27) hx hb hts hin hown hK hP 0 rfl rfl 8 (by decide) hf_26 (fun _ h9 => h9) rfl dX2_isTwice_1 ?_
  refine lv_iload_n hx hb dX2_isTwice_4 rfl (lv_at hl 1 rfl) ?_
  refine f_iald hx hb hK hP 6 5 rfl rfl (k := a) (by omega) (by decide) (v := (nI (sVts S a / 256 % 8))) rfl dX2_isTwice_5 ?_
  refine lv_aload_n hx hb dX2_isTwice_6 rfl (lv_at hl 0 rfl) ?_
  refine va_get (D := (dC, dI)) (ci := 3) (v := .ref (ad 6)) (C := RX2) (T := TX2) (N := 27) hx hb hts hin hown hK hP 0 rfl rfl 8 (by decide) hf_26 (fun _ h9 => h9) rfl dX2_isTwice_7 ?_
  refine lv_iload_n hx hb dX2_isTwice_10 rfl (lv_at hl 2 rfl) ?_
  refine f_iald hx hb hK hP 6 5 rfl rfl (k := b) (by omega) (by decide) (v := (nI (sVts S b / 256 % 8))) rfl dX2_isTwice_11 ?_
  refine f_ine (tgt := 79) hx hb (nI_toInt (by omega)) (nI_toInt (by omega)) dX2_isTwice_12 (by decide) (fun c_1 => ?_) (fun c_1 => ?_)
  · refine lv_iconst (v := (nI 0)) hx hb dX2_isTwice_79 (by decide) ?_
    exact f_r0 hx hb hr hlocks (by rw [← Bool.not_eq_true]; simp only [twF, ne_eq, Bool.and_eq_true, Bool.or_eq_true, Bool.not_eq_true', decide_eq_true_eq]; omega) dX2_isTwice_80
  · refine lv_aload_n hx hb dX2_isTwice_15 rfl (lv_at hl 0 rfl) ?_
    refine va_get (D := (dC, dI)) (ci := 3) (v := .ref (ad 7)) (C := RX2) (T := TX2) (N := 27) hx hb hts hin hown hK hP 0 rfl rfl 9 (by decide) hf_30 (fun _ h9 => h9) rfl dX2_isTwice_16 ?_
    refine lv_iload_n hx hb dX2_isTwice_19 rfl (lv_at hl 1 rfl) ?_
    refine f_iald hx hb hK hP 7 6 rfl rfl (k := a) (by omega) (by decide) (v := (nI (sVts S a / 2048))) rfl dX2_isTwice_20 ?_
    refine lv_aload_n hx hb dX2_isTwice_21 rfl (lv_at hl 0 rfl) ?_
    refine va_get (D := (dC, dI)) (ci := 3) (v := .ref (ad 7)) (C := RX2) (T := TX2) (N := 27) hx hb hts hin hown hK hP 0 rfl rfl 9 (by decide) hf_30 (fun _ h9 => h9) rfl dX2_isTwice_22 ?_
    refine lv_iload_n hx hb dX2_isTwice_25 rfl (lv_at hl 2 rfl) ?_
    refine f_iald hx hb hK hP 7 6 rfl rfl (k := b) (by omega) (by decide) (v := (nI (sVts S b / 2048))) rfl dX2_isTwice_26 ?_
    refine f_ine (tgt := 79) hx hb (nI_toInt (by omega)) (nI_toInt (by omega)) dX2_isTwice_27 (by decide) (fun c_2 => ?_) (fun c_2 => ?_)
    · refine lv_iconst (v := (nI 0)) hx hb dX2_isTwice_79 (by decide) ?_
      exact f_r0 hx hb hr hlocks (by rw [← Bool.not_eq_true]; simp only [twF, ne_eq, Bool.and_eq_true, Bool.or_eq_true, Bool.not_eq_true', decide_eq_true_eq]; omega) dX2_isTwice_80
    · refine lv_aload_n hx hb dX2_isTwice_30 rfl (lv_at hl 0 rfl) ?_
      refine va_get (D := (dC, dI)) (ci := 3) (v := .ref (ad 8)) (C := RX2) (T := TX2) (N := 27) hx hb hts hin hown hK hP 0 rfl rfl 10 (by decide) hf_33 (fun _ h9 => h9) rfl dX2_isTwice_31 ?_
      refine lv_iload_n hx hb dX2_isTwice_34 rfl (lv_at hl 1 rfl) ?_
      refine f_iald hx hb hK hP 8 7 rfl rfl (k := a) (by omega) (by decide) (v := (nI (sVts S a / 32 % 8))) rfl dX2_isTwice_35 ?_
      refine lv_aload_n hx hb dX2_isTwice_36 rfl (lv_at hl 0 rfl) ?_
      refine va_get (D := (dC, dI)) (ci := 3) (v := .ref (ad 8)) (C := RX2) (T := TX2) (N := 27) hx hb hts hin hown hK hP 0 rfl rfl 10 (by decide) hf_33 (fun _ h9 => h9) rfl dX2_isTwice_37 ?_
      refine lv_iload_n hx hb dX2_isTwice_40 rfl (lv_at hl 2 rfl) ?_
      refine f_iald hx hb hK hP 8 7 rfl rfl (k := b) (by omega) (by decide) (v := (nI (sVts S b / 32 % 8))) rfl dX2_isTwice_41 ?_
      refine f_ine (tgt := 79) hx hb (nI_toInt (by omega)) (nI_toInt (by omega)) dX2_isTwice_42 (by decide) (fun c_3 => ?_) (fun c_3 => ?_)
      · refine lv_iconst (v := (nI 0)) hx hb dX2_isTwice_79 (by decide) ?_
        exact f_r0 hx hb hr hlocks (by rw [← Bool.not_eq_true]; simp only [twF, ne_eq, Bool.and_eq_true, Bool.or_eq_true, Bool.not_eq_true', decide_eq_true_eq]; omega) dX2_isTwice_80
      · refine lv_aload_n hx hb dX2_isTwice_45 rfl (lv_at hl 0 rfl) ?_
        refine va_get (D := (dC, dI)) (ci := 3) (v := .ref (ad 9)) (C := RX2) (T := TX2) (N := 27) hx hb hts hin hown hK hP 0 rfl rfl 11 (by decide) hf_36 (fun _ h9 => h9) rfl dX2_isTwice_46 ?_
        refine lv_iload_n hx hb dX2_isTwice_49 rfl (lv_at hl 1 rfl) ?_
        refine f_iald hx hb hK hP 9 8 rfl rfl (k := a) (by omega) (by decide) (v := (nI (sVts S a / 16 % 2))) rfl dX2_isTwice_50 ?_
        refine lv_aload_n hx hb dX2_isTwice_51 rfl (lv_at hl 0 rfl) ?_
        refine va_get (D := (dC, dI)) (ci := 3) (v := .ref (ad 9)) (C := RX2) (T := TX2) (N := 27) hx hb hts hin hown hK hP 0 rfl rfl 11 (by decide) hf_36 (fun _ h9 => h9) rfl dX2_isTwice_52 ?_
        refine lv_iload_n hx hb dX2_isTwice_55 rfl (lv_at hl 2 rfl) ?_
        refine f_iald hx hb hK hP 9 8 rfl rfl (k := b) (by omega) (by decide) (v := (nI (sVts S b / 16 % 2))) rfl dX2_isTwice_56 ?_
        refine f_ine (tgt := 79) hx hb (nI_toInt (by omega)) (nI_toInt (by omega)) dX2_isTwice_57 (by decide) (fun c_4 => ?_) (fun c_4 => ?_)
        · refine lv_iconst (v := (nI 0)) hx hb dX2_isTwice_79 (by decide) ?_
          exact f_r0 hx hb hr hlocks (by rw [← Bool.not_eq_true]; simp only [twF, ne_eq, Bool.and_eq_true, Bool.or_eq_true, Bool.not_eq_true', decide_eq_true_eq]; omega) dX2_isTwice_80
        · refine lv_aload_n hx hb dX2_isTwice_60 rfl (lv_at hl 0 rfl) ?_
          refine va_get (D := (dC, dI)) (ci := 3) (v := .ref (ad 10)) (C := RX2) (T := TX2) (N := 27) hx hb hts hin hown hK hP 0 rfl rfl 12 (by decide) hf_39 (fun _ h9 => h9) rfl dX2_isTwice_61 ?_
          refine lv_iload_n hx hb dX2_isTwice_64 rfl (lv_at hl 1 rfl) ?_
          refine f_iald hx hb hK hP 10 9 rfl rfl (k := a) (by omega) (by decide) (v := (nI (sVts S a % 16))) rfl dX2_isTwice_65 ?_
          refine lv_aload_n hx hb dX2_isTwice_66 rfl (lv_at hl 0 rfl) ?_
          refine va_get (D := (dC, dI)) (ci := 3) (v := .ref (ad 10)) (C := RX2) (T := TX2) (N := 27) hx hb hts hin hown hK hP 0 rfl rfl 12 (by decide) hf_39 (fun _ h9 => h9) rfl dX2_isTwice_67 ?_
          refine lv_iload_n hx hb dX2_isTwice_70 rfl (lv_at hl 2 rfl) ?_
          refine f_iald hx hb hK hP 10 9 rfl rfl (k := b) (by omega) (by decide) (v := (nI (sVts S b % 16))) rfl dX2_isTwice_71 ?_
          refine f_ieq (tgt := 79) hx hb (nI_toInt (by omega)) (nI_toInt (by omega)) dX2_isTwice_72 (by decide) (fun c_5 => ?_) (fun c_5 => ?_)
          · refine lv_iconst (v := (nI 0)) hx hb dX2_isTwice_79 (by decide) ?_
            exact f_r0 hx hb hr hlocks (by rw [← Bool.not_eq_true]; simp only [twF, ne_eq, Bool.and_eq_true, Bool.or_eq_true, Bool.not_eq_true', decide_eq_true_eq]; omega) dX2_isTwice_80
          · refine lv_iconst (v := (nI 1)) hx hb dX2_isTwice_75 (by decide) ?_
            refine lv_goto (tgt := 80) hx hb dX2_isTwice_76 (by decide) ?_
            exact f_r1 hx hb hr hlocks (by simp only [twF, ne_eq, Bool.and_eq_true, Bool.or_eq_true, Bool.not_eq_true', decide_eq_true_eq]; omega) dX2_isTwice_80

abbrev rm_X2_isLock : Room := { frames := 3, cells := 0, slots := 0, locals := 70 }
set_option maxHeartbeats 4000000 in
set_option maxRecDepth 100000 in
theorem c_X2_isLock (l : Launch) (dC : Nat → ClassId) (dI : Nat → Nat → Nat) (ad : Nat → Nat) (cy : Nat → ClassId) (S : St) (a : Nat) (b : Nat) (I : Inv S) (ha : a < sVn S) (hb1 : b < sVn S) : RoI l yX2_isLock wsX2_isLock rm_X2_isLock [.ref (ad 0), .int (nI a), .int (nI b)] (mB dC dI ad cy S) (bI (lkF S (sVts S a) (sVts S b))) := by
  refine Ro_start (cc := cX2_isLock) (maxL := 5) (ret := (some .boolean)) (lv := [(0, .ref (ad 0)), (1, .int (nI a)), (2, .int (nI b))]) (by decide) rfl (Nat.le_of_ble_eq_true rfl) rfl ?_
  intro pp ee ss mm aa bl me co hx hb hr hml hts hown hlocks hnm hB ls hl
  obtain ⟨hP, hK⟩ := hB
  have hin : ∀ w ∈ wsX20, w ∈ wsX2_isLock := fun w h => List.mem_cons_of_mem _ (List.mem_append_right _ h)
  have hf_26 := hts (.fieldLink RX2 26 "FaultEvidenceModel" "who" "[I") (by decide +kernel)
  have hf_30 := hts (.fieldLink RX2 30 "FaultEvidenceModel" "when" "[I") (by decide +kernel)
  have hf_33 := hts (.fieldLink RX2 33 "FaultEvidenceModel" "rounds" "[I") (by decide +kernel)
  have hf_36 := hts (.fieldLink RX2 36 "FaultEvidenceModel" "steps" "[I") (by decide +kernel)
  have hf_39 := hts (.fieldLink RX2 39 "FaultEvidenceModel" "blocks" "[I") (by decide +kernel)
  have I1 := I.n
  have v1 := I.v ha
  have v2 := I.v hb1
  refine lv_aload_n hx hb dX2_isLock_0 rfl (lv_at hl 0 rfl) ?_
  refine va_get (D := (dC, dI)) (ci := 3) (v := .ref (ad 6)) (C := RX2) (T := TX2) (N := 27) hx hb hts hin hown hK hP 0 rfl rfl 8 (by decide) hf_26 (fun _ h9 => h9) rfl dX2_isLock_1 ?_
  refine lv_iload_n hx hb dX2_isLock_4 rfl (lv_at hl 1 rfl) ?_
  refine f_iald hx hb hK hP 6 5 rfl rfl (k := a) (by omega) (by decide) (v := (nI (sVts S a / 256 % 8))) rfl dX2_isLock_5 ?_
  refine lv_aload_n hx hb dX2_isLock_6 rfl (lv_at hl 0 rfl) ?_
  refine va_get (D := (dC, dI)) (ci := 3) (v := .ref (ad 6)) (C := RX2) (T := TX2) (N := 27) hx hb hts hin hown hK hP 0 rfl rfl 8 (by decide) hf_26 (fun _ h9 => h9) rfl dX2_isLock_7 ?_
  refine lv_iload_n hx hb dX2_isLock_10 rfl (lv_at hl 2 rfl) ?_
  refine f_iald hx hb hK hP 6 5 rfl rfl (k := b) (by omega) (by decide) (v := (nI (sVts S b / 256 % 8))) rfl dX2_isLock_11 ?_
  refine f_ine (tgt := 97) hx hb (nI_toInt (by omega)) (nI_toInt (by omega)) dX2_isLock_12 (by decide) (fun c_1 => ?_) (fun c_1 => ?_)
  · refine lv_iconst (v := (nI 0)) hx hb dX2_isLock_97 (by decide) ?_
    exact f_r0 hx hb hr hlocks (by rw [← Bool.not_eq_true]; simp only [lkF, lkg, Bool.and_eq_true, decide_eq_true_eq]; omega) dX2_isLock_98
  · refine lv_aload_n hx hb dX2_isLock_15 rfl (lv_at hl 0 rfl) ?_
    refine va_get (D := (dC, dI)) (ci := 3) (v := .ref (ad 7)) (C := RX2) (T := TX2) (N := 27) hx hb hts hin hown hK hP 0 rfl rfl 9 (by decide) hf_30 (fun _ h9 => h9) rfl dX2_isLock_16 ?_
    refine lv_iload_n hx hb dX2_isLock_19 rfl (lv_at hl 1 rfl) ?_
    refine f_iald hx hb hK hP 7 6 rfl rfl (k := a) (by omega) (by decide) (v := (nI (sVts S a / 2048))) rfl dX2_isLock_20 ?_
    refine lv_aload_n hx hb dX2_isLock_21 rfl (lv_at hl 0 rfl) ?_
    refine va_get (D := (dC, dI)) (ci := 3) (v := .ref (ad 7)) (C := RX2) (T := TX2) (N := 27) hx hb hts hin hown hK hP 0 rfl rfl 9 (by decide) hf_30 (fun _ h9 => h9) rfl dX2_isLock_22 ?_
    refine lv_iload_n hx hb dX2_isLock_25 rfl (lv_at hl 2 rfl) ?_
    refine f_iald hx hb hK hP 7 6 rfl rfl (k := b) (by omega) (by decide) (v := (nI (sVts S b / 2048))) rfl dX2_isLock_26 ?_
    refine f_ine (tgt := 97) hx hb (nI_toInt (by omega)) (nI_toInt (by omega)) dX2_isLock_27 (by decide) (fun c_2 => ?_) (fun c_2 => ?_)
    · refine lv_iconst (v := (nI 0)) hx hb dX2_isLock_97 (by decide) ?_
      exact f_r0 hx hb hr hlocks (by rw [← Bool.not_eq_true]; simp only [lkF, lkg, Bool.and_eq_true, decide_eq_true_eq]; omega) dX2_isLock_98
    · refine lv_aload_n hx hb dX2_isLock_30 rfl (lv_at hl 0 rfl) ?_
      refine va_get (D := (dC, dI)) (ci := 3) (v := .ref (ad 9)) (C := RX2) (T := TX2) (N := 27) hx hb hts hin hown hK hP 0 rfl rfl 11 (by decide) hf_36 (fun _ h9 => h9) rfl dX2_isLock_31 ?_
      refine lv_iload_n hx hb dX2_isLock_34 rfl (lv_at hl 1 rfl) ?_
      refine f_iald hx hb hK hP 9 8 rfl rfl (k := a) (by omega) (by decide) (v := (nI (sVts S a / 16 % 2))) rfl dX2_isLock_35 ?_
      refine lv_iconst (v := (nI 1)) hx hb dX2_isLock_36 (by decide) ?_
      refine f_ine (tgt := 97) hx hb (nI_toInt (by omega)) (nI_toInt (by omega)) dX2_isLock_37 (by decide) (fun c_3 => ?_) (fun c_3 => ?_)
      · refine lv_iconst (v := (nI 0)) hx hb dX2_isLock_97 (by decide) ?_
        exact f_r0 hx hb hr hlocks (by rw [← Bool.not_eq_true]; simp only [lkF, lkg, Bool.and_eq_true, decide_eq_true_eq]; omega) dX2_isLock_98
      · refine lv_aload_n hx hb dX2_isLock_40 rfl (lv_at hl 0 rfl) ?_
        refine va_get (D := (dC, dI)) (ci := 3) (v := .ref (ad 9)) (C := RX2) (T := TX2) (N := 27) hx hb hts hin hown hK hP 0 rfl rfl 11 (by decide) hf_36 (fun _ h9 => h9) rfl dX2_isLock_41 ?_
        refine lv_iload_n hx hb dX2_isLock_44 rfl (lv_at hl 2 rfl) ?_
        refine f_iald hx hb hK hP 9 8 rfl rfl (k := b) (by omega) (by decide) (v := (nI (sVts S b / 16 % 2))) rfl dX2_isLock_45 ?_
        refine f_0ne (tgt := 97) hx hb (nI_toInt (by omega)) dX2_isLock_46 (by decide) (fun c_4 => ?_) (fun c_4 => ?_)
        · refine lv_iconst (v := (nI 0)) hx hb dX2_isLock_97 (by decide) ?_
          exact f_r0 hx hb hr hlocks (by rw [← Bool.not_eq_true]; simp only [lkF, lkg, Bool.and_eq_true, decide_eq_true_eq]; omega) dX2_isLock_98
        · refine lv_aload_n hx hb dX2_isLock_49 rfl (lv_at hl 0 rfl) ?_
          refine va_get (D := (dC, dI)) (ci := 3) (v := .ref (ad 8)) (C := RX2) (T := TX2) (N := 27) hx hb hts hin hown hK hP 0 rfl rfl 10 (by decide) hf_33 (fun _ h9 => h9) rfl dX2_isLock_50 ?_
          refine lv_iload_n hx hb dX2_isLock_53 rfl (lv_at hl 1 rfl) ?_
          refine f_iald hx hb hK hP 8 7 rfl rfl (k := a) (by omega) (by decide) (v := (nI (sVts S a / 32 % 8))) rfl dX2_isLock_54 ?_
          refine lv_aload_n hx hb dX2_isLock_55 rfl (lv_at hl 0 rfl) ?_
          refine va_get (D := (dC, dI)) (ci := 3) (v := .ref (ad 8)) (C := RX2) (T := TX2) (N := 27) hx hb hts hin hown hK hP 0 rfl rfl 10 (by decide) hf_33 (fun _ h9 => h9) rfl dX2_isLock_56 ?_
          refine lv_iload_n hx hb dX2_isLock_59 rfl (lv_at hl 2 rfl) ?_
          refine f_iald hx hb hK hP 8 7 rfl rfl (k := b) (by omega) (by decide) (v := (nI (sVts S b / 32 % 8))) rfl dX2_isLock_60 ?_
          refine f_ige (tgt := 97) hx hb (nI_toInt (by omega)) (nI_toInt (by omega)) dX2_isLock_61 (by decide) (fun c_5 => ?_) (fun c_5 => ?_)
          · refine lv_iconst (v := (nI 0)) hx hb dX2_isLock_97 (by decide) ?_
            exact f_r0 hx hb hr hlocks (by rw [← Bool.not_eq_true]; simp only [lkF, lkg, Bool.and_eq_true, decide_eq_true_eq]; omega) dX2_isLock_98
          · refine lv_aload_n hx hb dX2_isLock_64 rfl (lv_at hl 0 rfl) ?_
            refine va_get (D := (dC, dI)) (ci := 3) (v := .ref (ad 10)) (C := RX2) (T := TX2) (N := 27) hx hb hts hin hown hK hP 0 rfl rfl 12 (by decide) hf_39 (fun _ h9 => h9) rfl dX2_isLock_65 ?_
            refine lv_iload_n hx hb dX2_isLock_68 rfl (lv_at hl 1 rfl) ?_
            refine f_iald hx hb hK hP 10 9 rfl rfl (k := a) (by omega) (by decide) (v := (nI (sVts S a % 16))) rfl dX2_isLock_69 ?_
            refine f_0eq (tgt := 97) hx hb (nI_toInt (by omega)) dX2_isLock_70 (by decide) (fun c_6 => ?_) (fun c_6 => ?_)
            · refine lv_iconst (v := (nI 0)) hx hb dX2_isLock_97 (by decide) ?_
              exact f_r0 hx hb hr hlocks (by rw [← Bool.not_eq_true]; simp only [lkF, lkg, Bool.and_eq_true, decide_eq_true_eq]; omega) dX2_isLock_98
            · refine lv_aload_n hx hb dX2_isLock_73 rfl (lv_at hl 0 rfl) ?_
              refine va_get (D := (dC, dI)) (ci := 3) (v := .ref (ad 10)) (C := RX2) (T := TX2) (N := 27) hx hb hts hin hown hK hP 0 rfl rfl 12 (by decide) hf_39 (fun _ h9 => h9) rfl dX2_isLock_74 ?_
              refine lv_iload_n hx hb dX2_isLock_77 rfl (lv_at hl 2 rfl) ?_
              refine f_iald hx hb hK hP 10 9 rfl rfl (k := b) (by omega) (by decide) (v := (nI (sVts S b % 16))) rfl dX2_isLock_78 ?_
              refine f_0eq (tgt := 97) hx hb (nI_toInt (by omega)) dX2_isLock_79 (by decide) (fun c_7 => ?_) (fun c_7 => ?_)
              · refine lv_iconst (v := (nI 0)) hx hb dX2_isLock_97 (by decide) ?_
                exact f_r0 hx hb hr hlocks (by rw [← Bool.not_eq_true]; simp only [lkF, lkg, Bool.and_eq_true, decide_eq_true_eq]; omega) dX2_isLock_98
              · refine lv_aload_n hx hb dX2_isLock_82 rfl (lv_at hl 0 rfl) ?_
                refine va_get (D := (dC, dI)) (ci := 3) (v := .ref (ad 10)) (C := RX2) (T := TX2) (N := 27) hx hb hts hin hown hK hP 0 rfl rfl 12 (by decide) hf_39 (fun _ h9 => h9) rfl dX2_isLock_83 ?_
                refine lv_iload_n hx hb dX2_isLock_86 rfl (lv_at hl 1 rfl) ?_
                refine f_iald hx hb hK hP 10 9 rfl rfl (k := a) (by omega) (by decide) (v := (nI (sVts S a % 16))) rfl dX2_isLock_87 ?_
                refine lv_aload_n hx hb dX2_isLock_88 rfl (lv_at hl 0 rfl) ?_
                refine va_get (D := (dC, dI)) (ci := 3) (v := .ref (ad 10)) (C := RX2) (T := TX2) (N := 27) hx hb hts hin hown hK hP 0 rfl rfl 12 (by decide) hf_39 (fun _ h9 => h9) rfl dX2_isLock_89 ?_
                refine lv_iload_n hx hb dX2_isLock_92 rfl (lv_at hl 2 rfl) ?_
                refine f_iald hx hb hK hP 10 9 rfl rfl (k := b) (by omega) (by decide) (v := (nI (sVts S b % 16))) rfl dX2_isLock_93 ?_
                refine f_ine (tgt := 99) hx hb (nI_toInt (by omega)) (nI_toInt (by omega)) dX2_isLock_94 (by decide) (fun c_8 => ?_) (fun c_8 => ?_)
                · have hbz : 0 < sVts S b % 16 := by omega
                  have hab : sVts S a / 2048 = sVts S b / 2048 := by omega
                  refine lv_iconst (v := (nI 0)) hx hb dX2_isLock_99 (by decide) ?_
                  refine f_ti (y := (bI false)) rfl ?_
                  refine lv_istore_n (lv' := [(3, .int (bI false)), (0, .ref (ad 0)), (1, .int (nI a)), (2, .int (nI b))]) hx hb dX2_isLock_100 rfl hl (by decide) rfl (fun ls hl => ?_)
                  refine lv_aload_n hx hb dX2_isLock_101 rfl (lv_at hl 1 rfl) ?_
                  refine va_get (D := (dC, dI)) (ci := 3) (v := .ref (ad 8)) (C := RX2) (T := TX2) (N := 27) hx hb hts hin hown hK hP 0 rfl rfl 10 (by decide) hf_33 (fun _ h9 => h9) rfl dX2_isLock_102 ?_
                  refine lv_iload_n hx hb dX2_isLock_105 rfl (lv_at hl 2 rfl) ?_
                  refine f_iald hx hb hK hP 8 7 rfl rfl (k := a) (by omega) (by decide) (v := (nI (sVts S a / 32 % 8))) rfl dX2_isLock_106 ?_
                  refine lv_istore (lv' := [(4, .int (nI (sVts S a / 32 % 8))), (3, .int (bI false)), (0, .ref (ad 0)), (1, .int (nI a)), (2, .int (nI b))]) hx hb dX2_isLock_107 hl (by decide) rfl (fun ls hl => ?_)
                  have loop_109 : ∀ (n : Nat) (q : Nat) (F : Bool), 8 - q < n → F = ex q (ulT S (sVts S b / 2048) (sVts S b % 16) (sVts S a / 32 % 8)) → sVts S a / 32 % 8 ≤ q → q ≤ sVts S b / 32 % 8 → ∀ ls : Array Slot, lv_has ls 5 [(4, .int (nI q)), (3, .int (bI F)), (0, .ref (ad 0)), (1, .int (nI a)), (2, .int (nI b))] → W pp l ee rm_X2_isLock ss mm aa bl me co ss.heap [] 0 0 (MQ bl (vp_Si (fun r => r = bI (lkF S (sVts S a) (sVts S b)))) aa ss 0 0 (fun _ => False)) (F0 mm 109 ls []) := by
                    intro n
                    induction n with
                    | zero => intro q F hm; exact absurd hm (Nat.not_lt_zero _)
                    | succ n ih =>
                      intro q F hm hF hq hq2 ls hl
                      refine lv_iload hx hb dX2_isLock_109 (lv_at hl 0 rfl) ?_
                      refine lv_aload_n hx hb dX2_isLock_111 rfl (lv_at hl 2 rfl) ?_
                      refine va_get (D := (dC, dI)) (ci := 3) (v := .ref (ad 8)) (C := RX2) (T := TX2) (N := 27) hx hb hts hin hown hK hP 0 rfl rfl 10 (by decide) hf_33 (fun _ h9 => h9) rfl dX2_isLock_112 ?_
                      refine lv_iload_n hx hb dX2_isLock_115 rfl (lv_at hl 4 rfl) ?_
                      refine f_iald hx hb hK hP 8 7 rfl rfl (k := b) (by omega) (by decide) (v := (nI (sVts S b / 32 % 8))) rfl dX2_isLock_116 ?_
                      refine f_ige (tgt := 157) hx hb (nI_toInt (by omega)) (nI_toInt (by omega)) dX2_isLock_117 (by decide) (fun c_9 => ?_) (fun c_9 => ?_)
                      · refine lv_iload_n hx hb dX2_isLock_157 rfl (lv_at hl 1 rfl) ?_
                        refine f_bne (tgt := 165) hx hb dX2_isLock_158 (by decide) (fun c_10 => ?_) (fun c_10 => ?_)
                        · refine lv_iconst (v := (nI 0)) hx hb dX2_isLock_165 (by decide) ?_
                          exact f_r0 hx hb hr hlocks (by have e : q = sVts S b / 32 % 8 := (by omega); have hu : ulF S (sVts S b / 2048) (sVts S b % 16) (sVts S a / 32 % 8) (sVts S b / 32 % 8) = true := (by unfold ulF; rw [← e, ← hF]; assumption); simp [lkF, hu]) dX2_isLock_166
                        · refine lv_iconst (v := (nI 1)) hx hb dX2_isLock_161 (by decide) ?_
                          refine lv_goto (tgt := 166) hx hb dX2_isLock_162 (by decide) ?_
                          exact f_r1 hx hb hr hlocks (by have e : q = sVts S b / 32 % 8 := (by omega); have hu : ulF S (sVts S b / 2048) (sVts S b % 16) (sVts S a / 32 % 8) (sVts S b / 32 % 8) = false := (by unfold ulF; rw [← e, ← hF]; assumption); simp [lkF, lkg, hu]; omega) dX2_isLock_166
                      · refine lv_iload_n hx hb dX2_isLock_120 rfl (lv_at hl 1 rfl) ?_
                        refine f_bne (tgt := 145) hx hb dX2_isLock_121 (by decide) (fun c_11 => ?_) (fun c_11 => ?_)
                        · refine lv_iconst (v := (nI 1)) hx hb dX2_isLock_145 (by decide) ?_
                          refine lv_goto (tgt := 150) hx hb dX2_isLock_146 (by decide) ?_
                          refine f_ti (y := (bI true)) rfl ?_
                          refine lv_istore_n (lv' := [(3, .int (bI true)), (4, .int (nI q)), (0, .ref (ad 0)), (1, .int (nI a)), (2, .int (nI b))]) hx hb dX2_isLock_150 rfl hl (by decide) rfl (fun ls hl => ?_)
                          refine lv_iinc (v := (nI (q + 1))) (lv' := [(4, .int (nI (q + 1))), (3, .int (bI true)), (0, .ref (ad 0)), (1, .int (nI a)), (2, .int (nI b))]) hx hb dX2_isLock_151 hl (k := 1) rfl (nI_add q 1) (by decide) rfl (fun ls hl => ?_)
                          refine lv_goto (tgt := 109) hx hb dX2_isLock_154 (by decide) ?_
                          exact ih (q + 1) true (by omega) (by simp [ex, ulT, bk_ms, hq, hbz, ← hF, c_11]) (by omega) (by omega) ls (lv_sub hl [0, 1, 2, 3, 4] rfl)
                        · refine lv_aload_n hx hb dX2_isLock_124 rfl (lv_at hl 2 rfl) ?_
                          refine lv_aload_n hx hb dX2_isLock_125 rfl (lv_at hl 2 rfl) ?_
                          refine va_get (D := (dC, dI)) (ci := 3) (v := .ref (ad 7)) (C := RX2) (T := TX2) (N := 27) hx hb hts hin hown hK hP 0 rfl rfl 9 (by decide) hf_30 (fun _ h9 => h9) rfl dX2_isLock_126 ?_
                          refine lv_iload_n hx hb dX2_isLock_129 rfl (lv_at hl 3 rfl) ?_
                          refine f_iald hx hb hK hP 7 6 rfl rfl (k := a) (by omega) (by decide) (v := (nI (sVts S a / 2048))) rfl dX2_isLock_130 ?_
                          refine lv_iload hx hb dX2_isLock_131 (lv_at hl 0 rfl) ?_
                          refine lv_aload_n hx hb dX2_isLock_133 rfl (lv_at hl 2 rfl) ?_
                          refine va_get (D := (dC, dI)) (ci := 3) (v := .ref (ad 10)) (C := RX2) (T := TX2) (N := 27) hx hb hts hin hown hK hP 0 rfl rfl 12 (by decide) hf_39 (fun _ h9 => h9) rfl dX2_isLock_134 ?_
                          refine lv_iload_n hx hb dX2_isLock_137 rfl (lv_at hl 4 rfl) ?_
                          refine f_iald hx hb hK hP 10 9 rfl rfl (k := b) (by omega) (by decide) (v := (nI (sVts S b % 16))) rfl dX2_isLock_138 ?_
                          refine f_cVi (As := [.int (nI (sVts S a / 2048)), .int (nI q), .int (nI (sVts S b % 16))]) (rest := []) ⟨hx, hb, hml, hown, hts⟩ (c_X2_isBacked l dC dI ad cy S (sVts S a / 2048) q (sVts S b % 16) I (by omega) (by omega) (by omega)) (cwV 3 hts gX2_isLock_X2_isBacked rfl rfl rfl (by decide +kernel) ⟨Nat.le_of_ble_eq_true rfl, Nat.le_of_ble_eq_true rfl⟩) roB_bl (va_recv hK hP (ci := 3) (q0 := 0) rfl rfl) (roB_at hP hK) rfl hl.1 rfl (Nat.le_of_ble_eq_true rfl) dX2_isLock_139 ⟨Nat.zero_le _, Nat.zero_le _⟩ ?_
                          refine f_beq (tgt := 149) hx hb dX2_isLock_142 (by decide) (fun c_12 => ?_) (fun c_12 => ?_)
                          · rw [hab] at c_12
                            refine lv_iconst (v := (nI 0)) hx hb dX2_isLock_149 (by decide) ?_
                            refine f_ti (y := (bI false)) rfl ?_
                            refine lv_istore_n (lv' := [(3, .int (bI false)), (4, .int (nI q)), (0, .ref (ad 0)), (1, .int (nI a)), (2, .int (nI b))]) hx hb dX2_isLock_150 rfl hl (by decide) rfl (fun ls hl => ?_)
                            refine lv_iinc (v := (nI (q + 1))) (lv' := [(4, .int (nI (q + 1))), (3, .int (bI false)), (0, .ref (ad 0)), (1, .int (nI a)), (2, .int (nI b))]) hx hb dX2_isLock_151 hl (k := 1) rfl (nI_add q 1) (by decide) rfl (fun ls hl => ?_)
                            refine lv_goto (tgt := 109) hx hb dX2_isLock_154 (by decide) ?_
                            exact ih (q + 1) false (by omega) (by simp [ex, ulT, bk_ms, hq, hbz, ← hF, c_11, c_12]) (by omega) (by omega) ls (lv_sub hl [0, 1, 2, 3, 4] rfl)
                          · rw [hab] at c_12
                            refine lv_iconst (v := (nI 1)) hx hb dX2_isLock_145 (by decide) ?_
                            refine lv_goto (tgt := 150) hx hb dX2_isLock_146 (by decide) ?_
                            refine f_ti (y := (bI true)) rfl ?_
                            refine lv_istore_n (lv' := [(3, .int (bI true)), (4, .int (nI q)), (0, .ref (ad 0)), (1, .int (nI a)), (2, .int (nI b))]) hx hb dX2_isLock_150 rfl hl (by decide) rfl (fun ls hl => ?_)
                            refine lv_iinc (v := (nI (q + 1))) (lv' := [(4, .int (nI (q + 1))), (3, .int (bI true)), (0, .ref (ad 0)), (1, .int (nI a)), (2, .int (nI b))]) hx hb dX2_isLock_151 hl (k := 1) rfl (nI_add q 1) (by decide) rfl (fun ls hl => ?_)
                            refine lv_goto (tgt := 109) hx hb dX2_isLock_154 (by decide) ?_
                            exact ih (q + 1) true (by omega) (by simp [ex, ulT, bk_ms, hq, hbz, ← hF, c_11, c_12]) (by omega) (by omega) ls (lv_sub hl [0, 1, 2, 3, 4] rfl)
                  exact loop_109 (8 - (sVts S a / 32 % 8) + 1) (sVts S a / 32 % 8) false (Nat.lt_succ_self _) ((ex_no (fun i hi => by have e : ¬ sVts S a / 32 % 8 ≤ i := (by omega); simp [ulT, e])).symm) (Nat.le_refl _) (by omega) ls (lv_sub hl [0, 1, 2, 3, 4] rfl)
                · refine lv_iconst (v := (nI 0)) hx hb dX2_isLock_97 (by decide) ?_
                  exact f_r0 hx hb hr hlocks (by rw [← Bool.not_eq_true]; simp only [lkF, lkg, Bool.and_eq_true, decide_eq_true_eq]; omega) dX2_isLock_98

abbrev rm_X2_isBare : Room := { frames := 3, cells := 0, slots := 0, locals := 70 }
set_option maxHeartbeats 4000000 in
set_option maxRecDepth 100000 in
theorem c_X2_isBare (l : Launch) (dC : Nat → ClassId) (dI : Nat → Nat → Nat) (ad : Nat → Nat) (cy : Nat → ClassId) (S : St) (a : Nat) (I : Inv S) (ha : a < sVn S) : RoI l yX2_isBare wsX2_isBare rm_X2_isBare [.ref (ad 0), .int (nI a)] (mB dC dI ad cy S) (bI (brF S (sVts S a))) := by
  refine Ro_start (cc := cX2_isBare) (maxL := 2) (ret := (some .boolean)) (lv := [(0, .ref (ad 0)), (1, .int (nI a))]) (by decide) rfl (Nat.le_of_ble_eq_true rfl) rfl ?_
  intro pp ee ss mm aa bl me co hx hb hr hml hts hown hlocks hnm hB ls hl
  obtain ⟨hP, hK⟩ := hB
  have hin : ∀ w ∈ wsX20, w ∈ wsX2_isBare := fun w h => List.mem_cons_of_mem _ (List.mem_append_right _ h)
  have hf_30 := hts (.fieldLink RX2 30 "FaultEvidenceModel" "when" "[I") (by decide +kernel)
  have hf_33 := hts (.fieldLink RX2 33 "FaultEvidenceModel" "rounds" "[I") (by decide +kernel)
  have hf_36 := hts (.fieldLink RX2 36 "FaultEvidenceModel" "steps" "[I") (by decide +kernel)
  have hf_39 := hts (.fieldLink RX2 39 "FaultEvidenceModel" "blocks" "[I") (by decide +kernel)
  have I1 := I.n
  have v1 := I.v ha
  refine lv_aload_n hx hb dX2_isBare_0 rfl (lv_at hl 0 rfl) ?_
  refine va_get (D := (dC, dI)) (ci := 3) (v := .ref (ad 9)) (C := RX2) (T := TX2) (N := 27) hx hb hts hin hown hK hP 0 rfl rfl 11 (by decide) hf_36 (fun _ h9 => h9) rfl dX2_isBare_1 ?_
  refine lv_iload_n hx hb dX2_isBare_4 rfl (lv_at hl 1 rfl) ?_
  refine f_iald hx hb hK hP 9 8 rfl rfl (k := a) (by omega) (by decide) (v := (nI (sVts S a / 16 % 2))) rfl dX2_isBare_5 ?_
  refine lv_iconst (v := (nI 1)) hx hb dX2_isBare_6 (by decide) ?_
  refine f_ine (tgt := 48) hx hb (nI_toInt (by omega)) (nI_toInt (by omega)) dX2_isBare_7 (by decide) (fun c_1 => ?_) (fun c_1 => ?_)
  · refine lv_iconst (v := (nI 0)) hx hb dX2_isBare_48 (by decide) ?_
    exact f_r0 hx hb hr hlocks (by rw [← Bool.not_eq_true]; simp [brF, lkg, bk_ms] <;> omega) dX2_isBare_49
  · refine lv_aload_n hx hb dX2_isBare_10 rfl (lv_at hl 0 rfl) ?_
    refine va_get (D := (dC, dI)) (ci := 3) (v := .ref (ad 10)) (C := RX2) (T := TX2) (N := 27) hx hb hts hin hown hK hP 0 rfl rfl 12 (by decide) hf_39 (fun _ h9 => h9) rfl dX2_isBare_11 ?_
    refine lv_iload_n hx hb dX2_isBare_14 rfl (lv_at hl 1 rfl) ?_
    refine f_iald hx hb hK hP 10 9 rfl rfl (k := a) (by omega) (by decide) (v := (nI (sVts S a % 16))) rfl dX2_isBare_15 ?_
    refine f_0le (tgt := 48) hx hb (nI_toInt (by omega)) dX2_isBare_16 (by decide) (fun c_2 => ?_) (fun c_2 => ?_)
    · refine lv_iconst (v := (nI 0)) hx hb dX2_isBare_48 (by decide) ?_
      exact f_r0 hx hb hr hlocks (by rw [← Bool.not_eq_true]; simp [brF, lkg, bk_ms] <;> omega) dX2_isBare_49
    · refine lv_aload_n hx hb dX2_isBare_19 rfl (lv_at hl 0 rfl) ?_
      refine lv_aload_n hx hb dX2_isBare_20 rfl (lv_at hl 0 rfl) ?_
      refine va_get (D := (dC, dI)) (ci := 3) (v := .ref (ad 7)) (C := RX2) (T := TX2) (N := 27) hx hb hts hin hown hK hP 0 rfl rfl 9 (by decide) hf_30 (fun _ h9 => h9) rfl dX2_isBare_21 ?_
      refine lv_iload_n hx hb dX2_isBare_24 rfl (lv_at hl 1 rfl) ?_
      refine f_iald hx hb hK hP 7 6 rfl rfl (k := a) (by omega) (by decide) (v := (nI (sVts S a / 2048))) rfl dX2_isBare_25 ?_
      refine lv_aload_n hx hb dX2_isBare_26 rfl (lv_at hl 0 rfl) ?_
      refine va_get (D := (dC, dI)) (ci := 3) (v := .ref (ad 8)) (C := RX2) (T := TX2) (N := 27) hx hb hts hin hown hK hP 0 rfl rfl 10 (by decide) hf_33 (fun _ h9 => h9) rfl dX2_isBare_27 ?_
      refine lv_iload_n hx hb dX2_isBare_30 rfl (lv_at hl 1 rfl) ?_
      refine f_iald hx hb hK hP 8 7 rfl rfl (k := a) (by omega) (by decide) (v := (nI (sVts S a / 32 % 8))) rfl dX2_isBare_31 ?_
      refine lv_aload_n hx hb dX2_isBare_32 rfl (lv_at hl 0 rfl) ?_
      refine va_get (D := (dC, dI)) (ci := 3) (v := .ref (ad 10)) (C := RX2) (T := TX2) (N := 27) hx hb hts hin hown hK hP 0 rfl rfl 12 (by decide) hf_39 (fun _ h9 => h9) rfl dX2_isBare_33 ?_
      refine lv_iload_n hx hb dX2_isBare_36 rfl (lv_at hl 1 rfl) ?_
      refine f_iald hx hb hK hP 10 9 rfl rfl (k := a) (by omega) (by decide) (v := (nI (sVts S a % 16))) rfl dX2_isBare_37 ?_
      refine f_cVi (As := [.int (nI (sVts S a / 2048)), .int (nI (sVts S a / 32 % 8)), .int (nI (sVts S a % 16))]) (rest := []) ⟨hx, hb, hml, hown, hts⟩ (c_X2_isBacked l dC dI ad cy S (sVts S a / 2048) (sVts S a / 32 % 8) (sVts S a % 16) I (by omega) (by omega) (by omega)) (cwV 3 hts gX2_isBare_X2_isBacked rfl rfl rfl (by decide +kernel) ⟨Nat.le_of_ble_eq_true rfl, Nat.le_of_ble_eq_true rfl⟩) roB_bl (va_recv hK hP (ci := 3) (q0 := 0) rfl rfl) (roB_at hP hK) rfl hl.1 rfl (Nat.le_of_ble_eq_true rfl) dX2_isBare_38 ⟨Nat.zero_le _, Nat.zero_le _⟩ ?_
      refine f_bne (tgt := 48) hx hb dX2_isBare_41 (by decide) (fun c_3 => ?_) (fun c_3 => ?_)
      · refine lv_iconst (v := (nI 0)) hx hb dX2_isBare_48 (by decide) ?_
        exact f_r0 hx hb hr hlocks (by rw [← Bool.not_eq_true]; simp [brF, lkg, bk_ms, c_3] <;> omega) dX2_isBare_49
      · refine lv_iconst (v := (nI 1)) hx hb dX2_isBare_44 (by decide) ?_
        refine lv_goto (tgt := 49) hx hb dX2_isBare_45 (by decide) ?_
        exact f_r1 hx hb hr hlocks (by simp [brF, lkg, bk_ms, c_3] <;> omega) dX2_isBare_49

abbrev rm_X2_isBreak : Room := { frames := 4, cells := 0, slots := 0, locals := 94 }
set_option maxHeartbeats 4000000 in
set_option maxRecDepth 100000 in
theorem c_X2_isBreak (l : Launch) (dC : Nat → ClassId) (dI : Nat → Nat → Nat) (ad : Nat → Nat) (cy : Nat → ClassId) (S : St) (q : Nat) (a : Nat) (b : Nat) (I : Inv S) (hq : q < 3) (ha : a < sVn S) (hb1 : b < sVn S) : RoI l yX2_isBreak wsX2_isBreak rm_X2_isBreak [.ref (ad 0), .int (nI q), .int (nI a), .int (nI b)] (mB dC dI ad cy S) (bI (ibF S q a b)) := by
  refine Ro_start (cc := cX2_isBreak) (maxL := 4) (ret := (some .boolean)) (lv := [(0, .ref (ad 0)), (1, .int (nI q)), (2, .int (nI a)), (3, .int (nI b))]) (by decide) rfl (Nat.le_of_ble_eq_true rfl) rfl ?_
  intro pp ee ss mm aa bl me co hx hb hr hml hts hown hlocks hnm hB ls hl
  obtain ⟨hP, hK⟩ := hB
  have I1 := I.n
  have v1 := I.v ha
  have v2 := I.v hb1
  refine lv_iload_n hx hb dX2_isBreak_0 rfl (lv_at hl 1 rfl) ?_
  refine f_0ne (tgt := 11) hx hb (nI_toInt (by omega)) dX2_isBreak_1 (by decide) (fun c_1 => ?_) (fun c_1 => ?_)
  · refine lv_iload_n hx hb dX2_isBreak_11 rfl (lv_at hl 1 rfl) ?_
    refine lv_iconst (v := (nI 1)) hx hb dX2_isBreak_12 (by decide) ?_
    refine f_ine (tgt := 25) hx hb (nI_toInt (by omega)) (nI_toInt (by omega)) dX2_isBreak_13 (by decide) (fun c_2 => ?_) (fun c_2 => ?_)
    · refine lv_iload_n hx hb dX2_isBreak_25 rfl (lv_at hl 2 rfl) ?_
      refine lv_iload_n hx hb dX2_isBreak_26 rfl (lv_at hl 3 rfl) ?_
      refine f_ine (tgt := 42) hx hb (nI_toInt (by omega)) (nI_toInt (by omega)) dX2_isBreak_27 (by decide) (fun c_3 => ?_) (fun c_3 => ?_)
      · refine lv_iconst (v := (nI 0)) hx hb dX2_isBreak_42 (by decide) ?_
        exact f_r0 hx hb hr hlocks (by have e : q = 2 := (by omega); rw [← Bool.not_eq_true]; simp [ibF, e] <;> omega) dX2_isBreak_43
      · refine lv_aload_n hx hb dX2_isBreak_30 rfl (lv_at hl 0 rfl) ?_
        refine lv_iload_n hx hb dX2_isBreak_31 rfl (lv_at hl 2 rfl) ?_
        refine f_cVi (As := [.int (nI a)]) (rest := []) ⟨hx, hb, hml, hown, hts⟩ (c_X2_isBare l dC dI ad cy S a I (by omega)) (cwV 1 hts gX2_isBreak_X2_isBare rfl rfl rfl (by decide +kernel) ⟨Nat.le_of_ble_eq_true rfl, Nat.le_of_ble_eq_true rfl⟩) roB_bl (va_recv hK hP (ci := 3) (q0 := 0) rfl rfl) (roB_at hP hK) rfl hl.1 rfl (Nat.le_of_ble_eq_true rfl) dX2_isBreak_32 ⟨Nat.zero_le _, Nat.zero_le _⟩ ?_
        refine f_beq (tgt := 42) hx hb dX2_isBreak_35 (by decide) (fun c_4 => ?_) (fun c_4 => ?_)
        · refine lv_iconst (v := (nI 0)) hx hb dX2_isBreak_42 (by decide) ?_
          exact f_r0 hx hb hr hlocks (by have e : q = 2 := (by omega); rw [← Bool.not_eq_true]; simp [ibF, e, c_4] <;> omega) dX2_isBreak_43
        · refine lv_iconst (v := (nI 1)) hx hb dX2_isBreak_38 (by decide) ?_
          refine lv_goto (tgt := 43) hx hb dX2_isBreak_39 (by decide) ?_
          exact f_r1 hx hb hr hlocks (by have e : q = 2 := (by omega); simp [ibF, e, c_4]; omega) dX2_isBreak_43
    · refine lv_aload_n hx hb dX2_isBreak_16 rfl (lv_at hl 0 rfl) ?_
      refine lv_iload_n hx hb dX2_isBreak_17 rfl (lv_at hl 2 rfl) ?_
      refine lv_iload_n hx hb dX2_isBreak_18 rfl (lv_at hl 3 rfl) ?_
      refine f_cVi (As := [.int (nI a), .int (nI b)]) (rest := []) ⟨hx, hb, hml, hown, hts⟩ (c_X2_isLock l dC dI ad cy S a b I (by omega) (by omega)) (cwV 2 hts gX2_isBreak_X2_isLock rfl rfl rfl (by decide +kernel) ⟨Nat.le_of_ble_eq_true rfl, Nat.le_of_ble_eq_true rfl⟩) roB_bl (va_recv hK hP (ci := 3) (q0 := 0) rfl rfl) (roB_at hP hK) rfl hl.1 rfl (Nat.le_of_ble_eq_true rfl) dX2_isBreak_19 ⟨Nat.zero_le _, Nat.zero_le _⟩ ?_
      refine lv_goto (tgt := 43) hx hb dX2_isBreak_22 (by decide) ?_
      exact f_rb hx hb hr hlocks (by have e : q = 1 := (by omega); simp [ibF, e]) dX2_isBreak_43
  · refine lv_aload_n hx hb dX2_isBreak_4 rfl (lv_at hl 0 rfl) ?_
    refine lv_iload_n hx hb dX2_isBreak_5 rfl (lv_at hl 2 rfl) ?_
    refine lv_iload_n hx hb dX2_isBreak_6 rfl (lv_at hl 3 rfl) ?_
    refine f_cVi (As := [.int (nI a), .int (nI b)]) (rest := []) ⟨hx, hb, hml, hown, hts⟩ (c_X2_isTwice l dC dI ad cy S a b I (by omega) (by omega)) (cwV 2 hts gX2_isBreak_X2_isTwice rfl rfl rfl (by decide +kernel) ⟨Nat.le_of_ble_eq_true rfl, Nat.le_of_ble_eq_true rfl⟩) roB_bl (va_recv hK hP (ci := 3) (q0 := 0) rfl rfl) (roB_at hP hK) rfl hl.1 rfl (Nat.le_of_ble_eq_true rfl) dX2_isBreak_7 ⟨Nat.zero_le _, Nat.zero_le _⟩ ?_
    exact f_rb hx hb hr hlocks (by have e : q = 0 := (by omega); simp [ibF, e]) dX2_isBreak_10
end
