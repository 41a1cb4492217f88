section
-- ===== PART A: goes FIRST, ahead of the names: the tables' words, and 'selects' of the private methods out of them =====
/-- a private method of a class that the tables say can be made, by its rows of tables_1 -/
def lw_okq (q : MethodName × Nat) : Prop := (q.1.cls ≠ "java/lang/invoke/MethodHandle" ∧ q.1.cls ≠ "java/lang/invoke/VarHandle") ∧ Cond.instantiable q.1.cls q.2 ∈ tables_1 ∧ Cond.privateMethod q.1 ∈ tables_1 ∧ Cond.instanceMethod q.1 ∈ tables_1
theorem lw_p0 : lw_okq (⟨"StraightFurrow$Reader", "goesOn", "()V"⟩, 5) := ⟨⟨by decide +kernel, by decide +kernel⟩, List.mem_of_getElem? (i := 240) (by decide +kernel), List.mem_of_getElem? (i := 339) (by decide +kernel), List.mem_of_getElem? (i := 340) (by decide +kernel)⟩
theorem lw_p1 : lw_okq (⟨"StraightFurrow$Reader", "heads", "(Ljava/lang/String;)Z"⟩, 5) := ⟨⟨by decide +kernel, by decide +kernel⟩, List.mem_of_getElem? (i := 240) (by decide +kernel), List.mem_of_getElem? (i := 346) (by decide +kernel), List.mem_of_getElem? (i := 347) (by decide +kernel)⟩
theorem lw_p2 : lw_okq (⟨"StraightFurrow$Reader", "eats", "(I)Z"⟩, 5) := ⟨⟨by decide +kernel, by decide +kernel⟩, List.mem_of_getElem? (i := 240) (by decide +kernel), List.mem_of_getElem? (i := 398) (by decide +kernel), List.mem_of_getElem? (i := 399) (by decide +kernel)⟩
theorem lw_p3 : lw_okq (⟨"StraightFurrow$Reader", "readsNumber", "()Z"⟩, 5) := ⟨⟨by decide +kernel, by decide +kernel⟩, List.mem_of_getElem? (i := 240) (by decide +kernel), List.mem_of_getElem? (i := 402) (by decide +kernel), List.mem_of_getElem? (i := 403) (by decide +kernel)⟩
theorem lw_p4 : lw_okq (⟨"StraightFurrow$Reader", "either", "(I)Z"⟩, 5) := ⟨⟨by decide +kernel, by decide +kernel⟩, List.mem_of_getElem? (i := 240) (by decide +kernel), List.mem_of_getElem? (i := 409) (by decide +kernel), List.mem_of_getElem? (i := 410) (by decide +kernel)⟩
theorem lw_p5 : lw_okq (⟨"StraightFurrow$Reader", "both", "(I)Z"⟩, 5) := ⟨⟨by decide +kernel, by decide +kernel⟩, List.mem_of_getElem? (i := 240) (by decide +kernel), List.mem_of_getElem? (i := 413) (by decide +kernel), List.mem_of_getElem? (i := 414) (by decide +kernel)⟩
theorem lw_p6 : lw_okq (⟨"StraightFurrow$Reader", "factor", "(I)Z"⟩, 5) := ⟨⟨by decide +kernel, by decide +kernel⟩, List.mem_of_getElem? (i := 240) (by decide +kernel), List.mem_of_getElem? (i := 417) (by decide +kernel), List.mem_of_getElem? (i := 418) (by decide +kernel)⟩
theorem lw_p7 : lw_okq (⟨"StraightFurrow$Reader", "test", "()Z"⟩, 5) := ⟨⟨by decide +kernel, by decide +kernel⟩, List.mem_of_getElem? (i := 240) (by decide +kernel), List.mem_of_getElem? (i := 421) (by decide +kernel), List.mem_of_getElem? (i := 422) (by decide +kernel)⟩
theorem lw_p8 : lw_okq (⟨"StraightFurrow$Reader", "eatsOneOf", "(Ljava/lang/String;)I"⟩, 5) := ⟨⟨by decide +kernel, by decide +kernel⟩, List.mem_of_getElem? (i := 240) (by decide +kernel), List.mem_of_getElem? (i := 426) (by decide +kernel), List.mem_of_getElem? (i := 427) (by decide +kernel)⟩
theorem lw_p9 : lw_okq (⟨"StraightFurrow", "decided", "(II)I"⟩, 10) := ⟨⟨by decide +kernel, by decide +kernel⟩, List.mem_of_getElem? (i := 20) (by decide +kernel), List.mem_of_getElem? (i := 540) (by decide +kernel), List.mem_of_getElem? (i := 541) (by decide +kernel)⟩
theorem lw_p10 : lw_okq (⟨"StraightFurrow", "winner", "()I"⟩, 10) := ⟨⟨by decide +kernel, by decide +kernel⟩, List.mem_of_getElem? (i := 20) (by decide +kernel), List.mem_of_getElem? (i := 548) (by decide +kernel), List.mem_of_getElem? (i := 549) (by decide +kernel)⟩
theorem lw_p11 : lw_okq (⟨"StraightFurrow", "scoreIfLaid", "(III)I"⟩, 10) := ⟨⟨by decide +kernel, by decide +kernel⟩, List.mem_of_getElem? (i := 20) (by decide +kernel), List.mem_of_getElem? (i := 614) (by decide +kernel), List.mem_of_getElem? (i := 615) (by decide +kernel)⟩
theorem lw_p12 : lw_okq (⟨"StraightFurrow$Clearing", "search", "(IIIII)V"⟩, 7) := ⟨⟨by decide +kernel, by decide +kernel⟩, List.mem_of_getElem? (i := 212) (by decide +kernel), List.mem_of_getElem? (i := 631) (by decide +kernel), List.mem_of_getElem? (i := 632) (by decide +kernel)⟩
theorem lw_p13 : lw_okq (⟨"StraightFurrow$Clearing", "keeps", "(II)V"⟩, 7) := ⟨⟨by decide +kernel, by decide +kernel⟩, List.mem_of_getElem? (i := 212) (by decide +kernel), List.mem_of_getElem? (i := 643) (by decide +kernel), List.mem_of_getElem? (i := 644) (by decide +kernel)⟩
theorem lw_p14 : lw_okq (⟨"StraightFurrow", "isAsSeen", "(LStraightFurrow$Plough;I)Z"⟩, 10) := ⟨⟨by decide +kernel, by decide +kernel⟩, List.mem_of_getElem? (i := 20) (by decide +kernel), List.mem_of_getElem? (i := 668) (by decide +kernel), List.mem_of_getElem? (i := 669) (by decide +kernel)⟩
theorem lw_p15 : lw_okq (⟨"StraightFurrow$Deeds", "runs", "(IIII)I"⟩, 5) := ⟨⟨by decide +kernel, by decide +kernel⟩, List.mem_of_getElem? (i := 265) (by decide +kernel), List.mem_of_getElem? (i := 732) (by decide +kernel), List.mem_of_getElem? (i := 733) (by decide +kernel)⟩
def lw_privs_1 : List (MethodName × Nat) := [(⟨"StraightFurrow$Reader", "goesOn", "()V"⟩, 5), (⟨"StraightFurrow$Reader", "heads", "(Ljava/lang/String;)Z"⟩, 5), (⟨"StraightFurrow$Reader", "eats", "(I)Z"⟩, 5), (⟨"StraightFurrow$Reader", "readsNumber", "()Z"⟩, 5), (⟨"StraightFurrow$Reader", "either", "(I)Z"⟩, 5), (⟨"StraightFurrow$Reader", "both", "(I)Z"⟩, 5), (⟨"StraightFurrow$Reader", "factor", "(I)Z"⟩, 5), (⟨"StraightFurrow$Reader", "test", "()Z"⟩, 5), (⟨"StraightFurrow$Reader", "eatsOneOf", "(Ljava/lang/String;)I"⟩, 5), (⟨"StraightFurrow", "decided", "(II)I"⟩, 10), (⟨"StraightFurrow", "winner", "()I"⟩, 10), (⟨"StraightFurrow", "scoreIfLaid", "(III)I"⟩, 10), (⟨"StraightFurrow$Clearing", "search", "(IIIII)V"⟩, 7), (⟨"StraightFurrow$Clearing", "keeps", "(II)V"⟩, 7), (⟨"StraightFurrow", "isAsSeen", "(LStraightFurrow$Plough;I)Z"⟩, 10), (⟨"StraightFurrow$Deeds", "runs", "(IIII)I"⟩, 5)]
theorem lw_r1 : ∀ q ∈ lw_privs_1, lw_okq q := List.forall_mem_cons.mpr ⟨lw_p0, List.forall_mem_cons.mpr ⟨lw_p1, List.forall_mem_cons.mpr ⟨lw_p2, List.forall_mem_cons.mpr ⟨lw_p3, List.forall_mem_cons.mpr ⟨lw_p4, List.forall_mem_cons.mpr ⟨lw_p5, List.forall_mem_cons.mpr ⟨lw_p6, List.forall_mem_cons.mpr ⟨lw_p7, List.forall_mem_cons.mpr ⟨lw_p8, List.forall_mem_cons.mpr ⟨lw_p9, List.forall_mem_cons.mpr ⟨lw_p10, List.forall_mem_cons.mpr ⟨lw_p11, List.forall_mem_cons.mpr ⟨lw_p12, List.forall_mem_cons.mpr ⟨lw_p13, List.forall_mem_cons.mpr ⟨lw_p14, List.forall_mem_cons.mpr ⟨lw_p15, fun _ h => absurd h List.not_mem_nil⟩⟩⟩⟩⟩⟩⟩⟩⟩⟩⟩⟩⟩⟩⟩⟩
theorem lw_p16 : lw_okq (⟨"StraightFurrow$Deeds", "begins", "(I)V"⟩, 5) := ⟨⟨by decide +kernel, by decide +kernel⟩, List.mem_of_getElem? (i := 265) (by decide +kernel), List.mem_of_getElem? (i := 744) (by decide +kernel), List.mem_of_getElem? (i := 745) (by decide +kernel)⟩
theorem lw_p17 : lw_okq (⟨"StraightFurrowModel", "clauseHere", "()V"⟩, 22) := ⟨⟨by decide +kernel, by decide +kernel⟩, List.mem_of_getElem? (i := 787) (by decide +kernel), List.mem_of_getElem? (i := 871) (by decide +kernel), List.mem_of_getElem? (i := 872) (by decide +kernel)⟩
theorem lw_p18 : lw_okq (⟨"StraightFurrowModel", "here", "()I"⟩, 22) := ⟨⟨by decide +kernel, by decide +kernel⟩, List.mem_of_getElem? (i := 787) (by decide +kernel), List.mem_of_getElem? (i := 875) (by decide +kernel), List.mem_of_getElem? (i := 876) (by decide +kernel)⟩
theorem lw_p19 : lw_okq (⟨"StraightFurrowModel", "tellsHere", "(ILjava/lang/String;)V"⟩, 22) := ⟨⟨by decide +kernel, by decide +kernel⟩, List.mem_of_getElem? (i := 787) (by decide +kernel), List.mem_of_getElem? (i := 880) (by decide +kernel), List.mem_of_getElem? (i := 881) (by decide +kernel)⟩
theorem lw_p20 : lw_okq (⟨"StraightFurrowModel", "spells", "(Ljava/lang/String;)V"⟩, 22) := ⟨⟨by decide +kernel, by decide +kernel⟩, List.mem_of_getElem? (i := 787) (by decide +kernel), List.mem_of_getElem? (i := 884) (by decide +kernel), List.mem_of_getElem? (i := 885) (by decide +kernel)⟩
theorem lw_p21 : lw_okq (⟨"StraightFurrowModel", "must", "(I)V"⟩, 22) := ⟨⟨by decide +kernel, by decide +kernel⟩, List.mem_of_getElem? (i := 787) (by decide +kernel), List.mem_of_getElem? (i := 890) (by decide +kernel), List.mem_of_getElem? (i := 891) (by decide +kernel)⟩
theorem lw_p22 : lw_okq (⟨"StraightFurrowModel", "figures", "()I"⟩, 22) := ⟨⟨by decide +kernel, by decide +kernel⟩, List.mem_of_getElem? (i := 787) (by decide +kernel), List.mem_of_getElem? (i := 894) (by decide +kernel), List.mem_of_getElem? (i := 895) (by decide +kernel)⟩
theorem lw_p23 : lw_okq (⟨"StraightFurrowModel", "much", "(ILjava/lang/String;)V"⟩, 22) := ⟨⟨by decide +kernel, by decide +kernel⟩, List.mem_of_getElem? (i := 787) (by decide +kernel), List.mem_of_getElem? (i := 899) (by decide +kernel), List.mem_of_getElem? (i := 900) (by decide +kernel)⟩
theorem lw_p24 : lw_okq (⟨"StraightFurrowModel", "some", "()V"⟩, 22) := ⟨⟨by decide +kernel, by decide +kernel⟩, List.mem_of_getElem? (i := 787) (by decide +kernel), List.mem_of_getElem? (i := 903) (by decide +kernel), List.mem_of_getElem? (i := 904) (by decide +kernel)⟩
theorem lw_p25 : lw_okq (⟨"StraightFurrowModel", "every", "()V"⟩, 22) := ⟨⟨by decide +kernel, by decide +kernel⟩, List.mem_of_getElem? (i := 787) (by decide +kernel), List.mem_of_getElem? (i := 907) (by decide +kernel), List.mem_of_getElem? (i := 908) (by decide +kernel)⟩
theorem lw_p26 : lw_okq (⟨"StraightFurrowModel", "factor", "()V"⟩, 22) := ⟨⟨by decide +kernel, by decide +kernel⟩, List.mem_of_getElem? (i := 787) (by decide +kernel), List.mem_of_getElem? (i := 911) (by decide +kernel), List.mem_of_getElem? (i := 912) (by decide +kernel)⟩
theorem lw_p27 : lw_okq (⟨"StraightFurrowModel", "emits", "(I)V"⟩, 22) := ⟨⟨by decide +kernel, by decide +kernel⟩, List.mem_of_getElem? (i := 787) (by decide +kernel), List.mem_of_getElem? (i := 915) (by decide +kernel), List.mem_of_getElem? (i := 916) (by decide +kernel)⟩
theorem lw_p28 : lw_okq (⟨"StraightFurrowModel", "among", "(Ljava/lang/String;)I"⟩, 22) := ⟨⟨by decide +kernel, by decide +kernel⟩, List.mem_of_getElem? (i := 787) (by decide +kernel), List.mem_of_getElem? (i := 920) (by decide +kernel), List.mem_of_getElem? (i := 921) (by decide +kernel)⟩
theorem lw_p29 : lw_okq (⟨"StraightFurrowModel", "isMan", "(I)Z"⟩, 22) := ⟨⟨by decide +kernel, by decide +kernel⟩, List.mem_of_getElem? (i := 787) (by decide +kernel), List.mem_of_getElem? (i := 937) (by decide +kernel), List.mem_of_getElem? (i := 938) (by decide +kernel)⟩
theorem lw_p30 : lw_okq (⟨"StraightFurrowModel", "scoreOf", "(I)I"⟩, 22) := ⟨⟨by decide +kernel, by decide +kernel⟩, List.mem_of_getElem? (i := 787) (by decide +kernel), List.mem_of_getElem? (i := 942) (by decide +kernel), List.mem_of_getElem? (i := 943) (by decide +kernel)⟩
theorem lw_p31 : lw_okq (⟨"StraightFurrowModel", "scoreFrom", "(II)I"⟩, 22) := ⟨⟨by decide +kernel, by decide +kernel⟩, List.mem_of_getElem? (i := 787) (by decide +kernel), List.mem_of_getElem? (i := 946) (by decide +kernel), List.mem_of_getElem? (i := 947) (by decide +kernel)⟩
def lw_privs_2 : List (MethodName × Nat) := [(⟨"StraightFurrow$Deeds", "begins", "(I)V"⟩, 5), (⟨"StraightFurrowModel", "clauseHere", "()V"⟩, 22), (⟨"StraightFurrowModel", "here", "()I"⟩, 22), (⟨"StraightFurrowModel", "tellsHere", "(ILjava/lang/String;)V"⟩, 22), (⟨"StraightFurrowModel", "spells", "(Ljava/lang/String;)V"⟩, 22), (⟨"StraightFurrowModel", "must", "(I)V"⟩, 22), (⟨"StraightFurrowModel", "figures", "()I"⟩, 22), (⟨"StraightFurrowModel", "much", "(ILjava/lang/String;)V"⟩, 22), (⟨"StraightFurrowModel", "some", "()V"⟩, 22), (⟨"StraightFurrowModel", "every", "()V"⟩, 22), (⟨"StraightFurrowModel", "factor", "()V"⟩, 22), (⟨"StraightFurrowModel", "emits", "(I)V"⟩, 22), (⟨"StraightFurrowModel", "among", "(Ljava/lang/String;)I"⟩, 22), (⟨"StraightFurrowModel", "isMan", "(I)Z"⟩, 22), (⟨"StraightFurrowModel", "scoreOf", "(I)I"⟩, 22), (⟨"StraightFurrowModel", "scoreFrom", "(II)I"⟩, 22)]
theorem lw_r2 : ∀ q ∈ lw_privs_2, lw_okq q := List.forall_mem_cons.mpr ⟨lw_p16, List.forall_mem_cons.mpr ⟨lw_p17, List.forall_mem_cons.mpr ⟨lw_p18, List.forall_mem_cons.mpr ⟨lw_p19, List.forall_mem_cons.mpr ⟨lw_p20, List.forall_mem_cons.mpr ⟨lw_p21, List.forall_mem_cons.mpr ⟨lw_p22, List.forall_mem_cons.mpr ⟨lw_p23, List.forall_mem_cons.mpr ⟨lw_p24, List.forall_mem_cons.mpr ⟨lw_p25, List.forall_mem_cons.mpr ⟨lw_p26, List.forall_mem_cons.mpr ⟨lw_p27, List.forall_mem_cons.mpr ⟨lw_p28, List.forall_mem_cons.mpr ⟨lw_p29, List.forall_mem_cons.mpr ⟨lw_p30, List.forall_mem_cons.mpr ⟨lw_p31, fun _ h => absurd h List.not_mem_nil⟩⟩⟩⟩⟩⟩⟩⟩⟩⟩⟩⟩⟩⟩⟩⟩
theorem lw_p32 : lw_okq (⟨"StraightFurrowModel", "straysBy", "(IIII)I"⟩, 22) := ⟨⟨by decide +kernel, by decide +kernel⟩, List.mem_of_getElem? (i := 787) (by decide +kernel), List.mem_of_getElem? (i := 950) (by decide +kernel), List.mem_of_getElem? (i := 951) (by decide +kernel)⟩
theorem lw_p33 : lw_okq (⟨"StraightFurrowModel", "driftOf", "(IIII)I"⟩, 22) := ⟨⟨by decide +kernel, by decide +kernel⟩, List.mem_of_getElem? (i := 787) (by decide +kernel), List.mem_of_getElem? (i := 954) (by decide +kernel), List.mem_of_getElem? (i := 955) (by decide +kernel)⟩
theorem lw_p34 : lw_okq (⟨"StraightFurrowModel", "tellsOf", "(II)I"⟩, 22) := ⟨⟨by decide +kernel, by decide +kernel⟩, List.mem_of_getElem? (i := 787) (by decide +kernel), List.mem_of_getElem? (i := 958) (by decide +kernel), List.mem_of_getElem? (i := 959) (by decide +kernel)⟩
theorem lw_p35 : lw_okq (⟨"StraightFurrowModel", "countsLine", "()V"⟩, 22) := ⟨⟨by decide +kernel, by decide +kernel⟩, List.mem_of_getElem? (i := 787) (by decide +kernel), List.mem_of_getElem? (i := 965) (by decide +kernel), List.mem_of_getElem? (i := 966) (by decide +kernel)⟩
theorem lw_p36 : lw_okq (⟨"StraightFurrowModel", "span", "()I"⟩, 22) := ⟨⟨by decide +kernel, by decide +kernel⟩, List.mem_of_getElem? (i := 787) (by decide +kernel), List.mem_of_getElem? (i := 969) (by decide +kernel), List.mem_of_getElem? (i := 970) (by decide +kernel)⟩
theorem lw_p37 : lw_okq (⟨"StraightFurrowModel", "becomes", "(II)I"⟩, 22) := ⟨⟨by decide +kernel, by decide +kernel⟩, List.mem_of_getElem? (i := 787) (by decide +kernel), List.mem_of_getElem? (i := 977) (by decide +kernel), List.mem_of_getElem? (i := 978) (by decide +kernel)⟩
theorem lw_p38 : lw_okq (⟨"StraightFurrowModel", "bitsOf", "(I)I"⟩, 22) := ⟨⟨by decide +kernel, by decide +kernel⟩, List.mem_of_getElem? (i := 787) (by decide +kernel), List.mem_of_getElem? (i := 1004) (by decide +kernel), List.mem_of_getElem? (i := 1005) (by decide +kernel)⟩
theorem lw_p39 : lw_okq (⟨"StraightFurrowModel", "bestOne", "()I"⟩, 22) := ⟨⟨by decide +kernel, by decide +kernel⟩, List.mem_of_getElem? (i := 787) (by decide +kernel), List.mem_of_getElem? (i := 1008) (by decide +kernel), List.mem_of_getElem? (i := 1009) (by decide +kernel)⟩
theorem lw_p40 : lw_okq (⟨"StraightFurrowModel", "isCase", "(I)Z"⟩, 22) := ⟨⟨by decide +kernel, by decide +kernel⟩, List.mem_of_getElem? (i := 787) (by decide +kernel), List.mem_of_getElem? (i := 1013) (by decide +kernel), List.mem_of_getElem? (i := 1014) (by decide +kernel)⟩
theorem lw_p41 : lw_okq (⟨"StraightFurrowModel", "decided", "(I)I"⟩, 22) := ⟨⟨by decide +kernel, by decide +kernel⟩, List.mem_of_getElem? (i := 787) (by decide +kernel), List.mem_of_getElem? (i := 1017) (by decide +kernel), List.mem_of_getElem? (i := 1018) (by decide +kernel)⟩
theorem lw_p42 : lw_okq (⟨"StraightFurrowModel", "goesOn", "(I)V"⟩, 22) := ⟨⟨by decide +kernel, by decide +kernel⟩, List.mem_of_getElem? (i := 787) (by decide +kernel), List.mem_of_getElem? (i := 1025) (by decide +kernel), List.mem_of_getElem? (i := 1026) (by decide +kernel)⟩
theorem lw_p43 : lw_okq (⟨"StraightFurrowModel", "goes", "()V"⟩, 22) := ⟨⟨by decide +kernel, by decide +kernel⟩, List.mem_of_getElem? (i := 787) (by decide +kernel), List.mem_of_getElem? (i := 1029) (by decide +kernel), List.mem_of_getElem? (i := 1030) (by decide +kernel)⟩
theorem lw_p44 : lw_okq (⟨"StraightFurrowModel", "keeps", "()V"⟩, 22) := ⟨⟨by decide +kernel, by decide +kernel⟩, List.mem_of_getElem? (i := 787) (by decide +kernel), List.mem_of_getElem? (i := 1045) (by decide +kernel), List.mem_of_getElem? (i := 1046) (by decide +kernel)⟩
theorem lw_p45 : lw_okq (⟨"StraightFurrowModel", "goesBack", "()V"⟩, 22) := ⟨⟨by decide +kernel, by decide +kernel⟩, List.mem_of_getElem? (i := 787) (by decide +kernel), List.mem_of_getElem? (i := 1049) (by decide +kernel), List.mem_of_getElem? (i := 1050) (by decide +kernel)⟩
theorem lw_p46 : lw_okq (⟨"StraightFurrowModel", "scoreLaying", "(III)I"⟩, 22) := ⟨⟨by decide +kernel, by decide +kernel⟩, List.mem_of_getElem? (i := 787) (by decide +kernel), List.mem_of_getElem? (i := 1065) (by decide +kernel), List.mem_of_getElem? (i := 1066) (by decide +kernel)⟩
theorem lw_p47 : lw_okq (⟨"StraightFurrowModel", "scoreClearing", "(II)I"⟩, 22) := ⟨⟨by decide +kernel, by decide +kernel⟩, List.mem_of_getElem? (i := 787) (by decide +kernel), List.mem_of_getElem? (i := 1076) (by decide +kernel), List.mem_of_getElem? (i := 1077) (by decide +kernel)⟩
def lw_privs_3 : List (MethodName × Nat) := [(⟨"StraightFurrowModel", "straysBy", "(IIII)I"⟩, 22), (⟨"StraightFurrowModel", "driftOf", "(IIII)I"⟩, 22), (⟨"StraightFurrowModel", "tellsOf", "(II)I"⟩, 22), (⟨"StraightFurrowModel", "countsLine", "()V"⟩, 22), (⟨"StraightFurrowModel", "span", "()I"⟩, 22), (⟨"StraightFurrowModel", "becomes", "(II)I"⟩, 22), (⟨"StraightFurrowModel", "bitsOf", "(I)I"⟩, 22), (⟨"StraightFurrowModel", "bestOne", "()I"⟩, 22), (⟨"StraightFurrowModel", "isCase", "(I)Z"⟩, 22), (⟨"StraightFurrowModel", "decided", "(I)I"⟩, 22), (⟨"StraightFurrowModel", "goesOn", "(I)V"⟩, 22), (⟨"StraightFurrowModel", "goes", "()V"⟩, 22), (⟨"StraightFurrowModel", "keeps", "()V"⟩, 22), (⟨"StraightFurrowModel", "goesBack", "()V"⟩, 22), (⟨"StraightFurrowModel", "scoreLaying", "(III)I"⟩, 22), (⟨"StraightFurrowModel", "scoreClearing", "(II)I"⟩, 22)]
theorem lw_r3 : ∀ q ∈ lw_privs_3, lw_okq q := List.forall_mem_cons.mpr ⟨lw_p32, List.forall_mem_cons.mpr ⟨lw_p33, List.forall_mem_cons.mpr ⟨lw_p34, List.forall_mem_cons.mpr ⟨lw_p35, List.forall_mem_cons.mpr ⟨lw_p36, List.forall_mem_cons.mpr ⟨lw_p37, List.forall_mem_cons.mpr ⟨lw_p38, List.forall_mem_cons.mpr ⟨lw_p39, List.forall_mem_cons.mpr ⟨lw_p40, List.forall_mem_cons.mpr ⟨lw_p41, List.forall_mem_cons.mpr ⟨lw_p42, List.forall_mem_cons.mpr ⟨lw_p43, List.forall_mem_cons.mpr ⟨lw_p44, List.forall_mem_cons.mpr ⟨lw_p45, List.forall_mem_cons.mpr ⟨lw_p46, List.forall_mem_cons.mpr ⟨lw_p47, fun _ h => absurd h List.not_mem_nil⟩⟩⟩⟩⟩⟩⟩⟩⟩⟩⟩⟩⟩⟩⟩⟩
theorem lw_p48 : lw_okq (⟨"StraightFurrowModel", "isAsSeen", "(II)Z"⟩, 22) := ⟨⟨by decide +kernel, by decide +kernel⟩, List.mem_of_getElem? (i := 787) (by decide +kernel), List.mem_of_getElem? (i := 1092) (by decide +kernel), List.mem_of_getElem? (i := 1093) (by decide +kernel)⟩
theorem lw_p49 : lw_okq (⟨"StraightFurrowModel", "goesBy", "(II)V"⟩, 22) := ⟨⟨by decide +kernel, by decide +kernel⟩, List.mem_of_getElem? (i := 787) (by decide +kernel), List.mem_of_getElem? (i := 1121) (by decide +kernel), List.mem_of_getElem? (i := 1122) (by decide +kernel)⟩
theorem lw_p50 : lw_okq (⟨"StraightFurrowModel", "ploughsActs", "(I)I"⟩, 22) := ⟨⟨by decide +kernel, by decide +kernel⟩, List.mem_of_getElem? (i := 787) (by decide +kernel), List.mem_of_getElem? (i := 1137) (by decide +kernel), List.mem_of_getElem? (i := 1138) (by decide +kernel)⟩
theorem lw_p51 : lw_okq (⟨"StraightFurrowModel", "ranBody", "(I)V"⟩, 22) := ⟨⟨by decide +kernel, by decide +kernel⟩, List.mem_of_getElem? (i := 787) (by decide +kernel), List.mem_of_getElem? (i := 1144) (by decide +kernel), List.mem_of_getElem? (i := 1145) (by decide +kernel)⟩
theorem lw_p52 : lw_okq (⟨"StraightFurrowModel", "plainPloughs", "(I)I"⟩, 22) := ⟨⟨by decide +kernel, by decide +kernel⟩, List.mem_of_getElem? (i := 787) (by decide +kernel), List.mem_of_getElem? (i := 1148) (by decide +kernel), List.mem_of_getElem? (i := 1149) (by decide +kernel)⟩
theorem lw_p53 : lw_okq (⟨"StraightFurrowModel", "looksActs", "(I)I"⟩, 22) := ⟨⟨by decide +kernel, by decide +kernel⟩, List.mem_of_getElem? (i := 787) (by decide +kernel), List.mem_of_getElem? (i := 1152) (by decide +kernel), List.mem_of_getElem? (i := 1153) (by decide +kernel)⟩
theorem lw_p54 : lw_okq (⟨"StraightFurrowModel", "plainLooks", "(I)I"⟩, 22) := ⟨⟨by decide +kernel, by decide +kernel⟩, List.mem_of_getElem? (i := 787) (by decide +kernel), List.mem_of_getElem? (i := 1156) (by decide +kernel), List.mem_of_getElem? (i := 1157) (by decide +kernel)⟩
theorem lw_p55 : lw_okq (⟨"StraightFurrowModel", "swearsActs", "(I)I"⟩, 22) := ⟨⟨by decide +kernel, by decide +kernel⟩, List.mem_of_getElem? (i := 787) (by decide +kernel), List.mem_of_getElem? (i := 1160) (by decide +kernel), List.mem_of_getElem? (i := 1161) (by decide +kernel)⟩
theorem lw_p56 : lw_okq (⟨"StraightFurrowModel", "plainTelling", "(I)I"⟩, 22) := ⟨⟨by decide +kernel, by decide +kernel⟩, List.mem_of_getElem? (i := 787) (by decide +kernel), List.mem_of_getElem? (i := 1164) (by decide +kernel), List.mem_of_getElem? (i := 1165) (by decide +kernel)⟩
def lw_privs_4 : List (MethodName × Nat) := [(⟨"StraightFurrowModel", "isAsSeen", "(II)Z"⟩, 22), (⟨"StraightFurrowModel", "goesBy", "(II)V"⟩, 22), (⟨"StraightFurrowModel", "ploughsActs", "(I)I"⟩, 22), (⟨"StraightFurrowModel", "ranBody", "(I)V"⟩, 22), (⟨"StraightFurrowModel", "plainPloughs", "(I)I"⟩, 22), (⟨"StraightFurrowModel", "looksActs", "(I)I"⟩, 22), (⟨"StraightFurrowModel", "plainLooks", "(I)I"⟩, 22), (⟨"StraightFurrowModel", "swearsActs", "(I)I"⟩, 22), (⟨"StraightFurrowModel", "plainTelling", "(I)I"⟩, 22)]
theorem lw_r4 : ∀ q ∈ lw_privs_4, lw_okq q := List.forall_mem_cons.mpr ⟨lw_p48, List.forall_mem_cons.mpr ⟨lw_p49, List.forall_mem_cons.mpr ⟨lw_p50, List.forall_mem_cons.mpr ⟨lw_p51, List.forall_mem_cons.mpr ⟨lw_p52, List.forall_mem_cons.mpr ⟨lw_p53, List.forall_mem_cons.mpr ⟨lw_p54, List.forall_mem_cons.mpr ⟨lw_p55, List.forall_mem_cons.mpr ⟨lw_p56, fun _ h => absurd h List.not_mem_nil⟩⟩⟩⟩⟩⟩⟩⟩⟩
def lw_privs : List (MethodName × Nat) := lw_privs_1 ++ (lw_privs_2 ++ (lw_privs_3 ++ (lw_privs_4)))
def lw_tbl : List Cond := k2_sels lw_privs ++ tables_1
theorem lw_privs_ok : ∀ q ∈ lw_privs, lw_okq q := by
  show ∀ q ∈ lw_privs_1 ++ (lw_privs_2 ++ (lw_privs_3 ++ (lw_privs_4))), lw_okq q
  exact List.forall_mem_append.mpr ⟨lw_r1, List.forall_mem_append.mpr ⟨lw_r2, List.forall_mem_append.mpr ⟨lw_r3, lw_r4⟩⟩⟩
-- ===== end of PART A; then your names; then what follows =====
/-! THE CLAIM OUT OF ONE WALK OF THE LAW'S BODY. Your part is whole_start (and what it stands on); all else here is the same for every law, but numbers. -/
def R_law : String := "StraightFurrowLaw"
def lw_P (b : Addr) (xs : List Int32) (args : Array Value) (s : State) : Prop := args = #[.ref b] ∧ s.IntsAt b xs ∧ xs.length ≤ 2048 ∧ (Jvm.Cond.and given_1 narrow_1).before args s = true
def lw_Q (_ : Array Value) (s : State) (o : Outcome) (t : State) : Prop := o = .returned (some (.int 1)) ∧ Framed s o t [] 600000 7302250
def lw_Z (below : List Frame) (a : Array Value) (s : State) : State → Prop := fun t => ∃ o, t.status = .running ∧ Ended t below o ∧ lw_Q a s o t
/-- the law's own end, with 1 on the stack, nothing written that was there before, its room as the claim has it -/
theorem lw_ret {p : Program} {l : Launch} {e : Env} {s : State} {m : MethodId} {below : List Frame} {meth : Method} {c : Code} {b : Nat} (hx : p.tables.exec = Jvm.exec) (hb : c.code = code) (hr : meth.sig.returnType = ret) (hlocks : meth.locks = false) {pc : Nat} {H : Heap} {ls : Array Slot} (hdg : decode code pc = .ok (.ireturn, 1)) : W p l e room_1 s m #[Value.ref b] below meth c H [] 600000 7302250 (lw_Z below #[Value.ref b] s) (F0 m pc ls [.int 1]) := by
  intro T hT X
  obtain ⟨fs, hret, hrun, hended, hW, hframe⟩ := X.leave (v := some (.int 1)) (hlocks := hlocks) (fun h => by rw [hr] at h; cases h)
  have hmeth' : T.vm.method? m = some meth := X.method'
  refine ⟨T.setFrames fs, ?_, .returned (some (.int 1)), hrun, hended, rfl, ⟨_, rfl⟩, hW, hframe⟩
  jvm_step X.here [X.here.top, hx, hb, hdg, hmeth', hr, ret, narrow_b1]
  (try refine ⟨rfl, ?_⟩); (try refine ⟨rfl, ?_⟩)
  first | (intro acts; rw [hret _ acts rfl rfl rfl]) | rw [hret _ _ rfl rfl rfl]
  exact Steps.refl _
/-- what holds at the law's entry: the machine, the code, the tables' words (any of lw_tbl by 'hts w (by decide +kernel)'), the script of L ints xs at the cell b, what the Statement gives of the start (any of its parts by flat_of_before) -/
def lw_At (p : Program) (s : State) (m : MethodId) (meth : Method) (c : Code) (b L : Nat) (xs : Nat → Int32) : Prop :=
  p.tables.exec = Jvm.exec ∧ c.code = code ∧ meth.sig.returnType = ret ∧ c.maxLocals = 4 ∧ s.vm.findClass R_law = some m.cls ∧ (∀ w ∈ lw_tbl, w.before #[Value.ref b] s = true) ∧ va_X b L xs s s.heap ∧ b < s.heap.size ∧ meth.locks = false ∧ (Jvm.Cond.and given_1 narrow_1).before #[Value.ref b] s = true
/-! ===== BEGIN printed: names, fields, word lists, decode rows ===== -/
def RX0 : String := "StraightFurrow$Clearing"
def TX0 : u_T := fun k => match k with
  | 0 => ("StraightFurrow$Clearing", "moves", "[I", true)
  | 1 => ("StraightFurrow$Clearing", "bareMoves", "[I", true)
  | 2 => ("StraightFurrow$Clearing", "lying", "I", false)
  | 3 => ("StraightFurrow$Clearing", "first", "I", false)
  | 4 => ("StraightFurrow$Clearing", "mayLose", "I", false)
  | 5 => ("StraightFurrow$Clearing", "best", "I", false)
  | _ => ("StraightFurrow$Clearing", "fewest", "I", false)
def tyX0 : Nat → FieldType := fun k => match k with
  | 0 => .array .int
  | 1 => .array .int
  | 2 => .int
  | 3 => .int
  | 4 => .int
  | 5 => .int
  | _ => .int
abbrev wsX00 : List Cond := u_ws RX0 TX0 7
theorem nmX0 : ∀ a, a < 7 → ∀ b, b < 7 → a ≠ b → (TX0 a).2.1 ≠ (TX0 b).2.1 := by decide +kernel
theorem tyX0_ok : ∀ k, k < 7 → parseFieldDescriptor (TX0 k).2.2.1 = some (tyX0 k) := by decide +kernel
abbrev cX0_init : ByteArray := prog_2_method_1_code
def yX0_init : MethodName := ⟨RX0, "<init>", "()V"⟩
abbrev cX0_fewestTaken : ByteArray := prog_2_method_2_code
def yX0_fewestTaken : MethodName := ⟨RX0, "fewestTaken", "(LStraightFurrow$Plough;LStraightFurrow$Plough;I)I"⟩
abbrev cX0_search : ByteArray := prog_2_method_3_code
def yX0_search : MethodName := ⟨RX0, "search", "(IIIII)V"⟩
abbrev cX0_keeps : ByteArray := prog_2_method_4_code
def yX0_keeps : MethodName := ⟨RX0, "keeps", "(II)V"⟩
abbrev cX0_latestOf : ByteArray := prog_2_method_5_code
def yX0_latestOf : MethodName := ⟨RX0, "latestOf", "(II)I"⟩
abbrev cX0_lossOf : ByteArray := prog_2_method_6_code
def yX0_lossOf : MethodName := ⟨RX0, "lossOf", "(II)I"⟩
def RX1 : String := "StraightFurrow$Deeds"
def TX1 : u_T := fun k => match k with
  | 0 => ("StraightFurrow$Deeds", "bodies", "[I", true)
  | 1 => ("StraightFurrow$Deeds", "ran", "I", false)
  | 2 => ("StraightFurrow$Deeds", "man", "I", false)
  | 3 => ("StraightFurrow$Deeds", "kind", "I", false)
  | _ => ("StraightFurrow$Deeds", "value", "I", false)
def tyX1 : Nat → FieldType := fun k => match k with
  | 0 => .array .int
  | 1 => .int
  | 2 => .int
  | 3 => .int
  | _ => .int
abbrev wsX10 : List Cond := u_ws RX1 TX1 5
theorem nmX1 : ∀ a, a < 5 → ∀ b, b < 5 → a ≠ b → (TX1 a).2.1 ≠ (TX1 b).2.1 := by decide +kernel
theorem tyX1_ok : ∀ k, k < 5 → parseFieldDescriptor (TX1 k).2.2.1 = some (tyX1 k) := by decide +kernel
abbrev cX1_init : ByteArray := prog_3_method_1_code
def yX1_init : MethodName := ⟨RX1, "<init>", "()V"⟩
abbrev cX1_forgets : ByteArray := prog_3_method_2_code
def yX1_forgets : MethodName := ⟨RX1, "forgets", "()V"⟩
abbrev cX1_bodyAt : ByteArray := prog_3_method_3_code
def yX1_bodyAt : MethodName := ⟨RX1, "bodyAt", "(I)I"⟩
abbrev cX1_acts : ByteArray := prog_3_method_4_code
def yX1_acts : MethodName := ⟨RX1, "acts", "(LStraightFurrow$Land;III)I"⟩
abbrev cX1_runs : ByteArray := prog_3_method_5_code
def yX1_runs : MethodName := ⟨RX1, "runs", "(IIII)I"⟩
abbrev cX1_bodyOf : ByteArray := prog_3_method_6_code
def yX1_bodyOf : MethodName := ⟨RX1, "bodyOf", "(II)I"⟩
abbrev cX1_begins : ByteArray := prog_3_method_7_code
def yX1_begins : MethodName := ⟨RX1, "begins", "(I)V"⟩
def RX2 : String := "StraightFurrow$Land"
def TX2 : u_T := fun k => match k with
  | 0 => ("StraightFurrow$Land", "year", "I", false)
  | 1 => ("StraightFurrow$Land", "men", "I", false)
  | 2 => ("StraightFurrow$Land", "gone", "I", false)
  | 3 => ("StraightFurrow$Land", "believed", "I", false)
  | 4 => ("StraightFurrow$Land", "finds", "[I", true)
  | 5 => ("StraightFurrow$Land", "kinds", "[I", true)
  | 6 => ("StraightFurrow$Land", "values", "[I", true)
  | 7 => ("StraightFurrow$Land", "pegs", "[I", true)
  | 8 => ("StraightFurrow$Land", "wins", "[I", true)
  | _ => ("StraightFurrow$Land", "rows", "[I", true)
def tyX2 : Nat → FieldType := fun k => match k with
  | 0 => .int
  | 1 => .int
  | 2 => .int
  | 3 => .int
  | 4 => .array .int
  | 5 => .array .int
  | 6 => .array .int
  | 7 => .array .int
  | 8 => .array .int
  | _ => .array .int
abbrev wsX20 : List Cond := u_ws RX2 TX2 10
theorem nmX2 : ∀ a, a < 10 → ∀ b, b < 10 → a ≠ b → (TX2 a).2.1 ≠ (TX2 b).2.1 := by decide +kernel
theorem tyX2_ok : ∀ k, k < 10 → parseFieldDescriptor (TX2 k).2.2.1 = some (tyX2 k) := by decide +kernel
abbrev cX2_init : ByteArray := prog_4_method_1_code
def yX2_init : MethodName := ⟨RX2, "<init>", "()V"⟩
abbrev cX2_has : ByteArray := prog_4_method_2_code
def yX2_has : MethodName := ⟨RX2, "has", "(I)Z"⟩
abbrev cX2_adds : ByteArray := prog_4_method_3_code
def yX2_adds : MethodName := ⟨RX2, "adds", "(III)I"⟩
abbrev cX2_goesAway : ByteArray := prog_4_method_4_code
def yX2_goesAway : MethodName := ⟨RX2, "goesAway", "(IZ)V"⟩
abbrev cX2_winsOfAll : ByteArray := prog_4_method_5_code
def yX2_winsOfAll : MethodName := ⟨RX2, "winsOfAll", "()I"⟩
abbrev cX2_takes : ByteArray := prog_4_method_6_code
def yX2_takes : MethodName := ⟨RX2, "takes", "(LStraightFurrow$Land;)V"⟩
def RX3 : String := "StraightFurrow$Parish"
def TX3 : u_T := fun k => match k with
  | 0 => ("StraightFurrow$Parish", "ops", "[I", true)
  | 1 => ("StraightFurrow$Parish", "numbers", "[I", true)
  | 2 => ("StraightFurrow$Parish", "size", "I", false)
  | _ => ("StraightFurrow$Parish", "mark", "I", false)
def tyX3 : Nat → FieldType := fun k => match k with
  | 0 => .array .int
  | 1 => .array .int
  | 2 => .int
  | _ => .int
abbrev wsX30 : List Cond := u_ws RX3 TX3 4
theorem nmX3 : ∀ a, a < 4 → ∀ b, b < 4 → a ≠ b → (TX3 a).2.1 ≠ (TX3 b).2.1 := by decide +kernel
theorem tyX3_ok : ∀ k, k < 4 → parseFieldDescriptor (TX3 k).2.2.1 = some (tyX3 k) := by decide +kernel
abbrev cX3_init : ByteArray := prog_5_method_1_code
def yX3_init : MethodName := ⟨RX3, "<init>", "()V"⟩
abbrev cX3_empties : ByteArray := prog_5_method_2_code
def yX3_empties : MethodName := ⟨RX3, "empties", "()V"⟩
abbrev cX3_adds : ByteArray := prog_5_method_3_code
def yX3_adds : MethodName := ⟨RX3, "adds", "(II)V"⟩
abbrev cX3_drift : ByteArray := prog_5_method_4_code
def yX3_drift : MethodName := ⟨RX3, "drift", "([I)I"⟩
abbrev cX3_takes : ByteArray := prog_5_method_5_code
def yX3_takes : MethodName := ⟨RX3, "takes", "(LStraightFurrow$Parish;)V"⟩
def RX4 : String := "StraightFurrow$Plough"
def TX4 : u_T := fun k => match k with
  | 0 => ("StraightFurrow$Plough", "land", "LStraightFurrow$Land;", true)
  | 1 => ("StraightFurrow$Plough", "parish", "LStraightFurrow$Parish;", true)
  | 2 => ("StraightFurrow$Plough", "facts", "[I", true)
  | 3 => ("StraightFurrow$Plough", "scores", "[I", true)
  | 4 => ("StraightFurrow$Plough", "lanes", "[I", true)
  | 5 => ("StraightFurrow$Plough", "off", "I", false)
  | _ => ("StraightFurrow$Plough", "bends", "I", false)
def tyX4 : Nat → FieldType := fun k => match k with
  | 0 => .object "StraightFurrow$Land"
  | 1 => .object "StraightFurrow$Parish"
  | 2 => .array .int
  | 3 => .array .int
  | 4 => .array .int
  | 5 => .int
  | _ => .int
abbrev wsX40 : List Cond := u_ws RX4 TX4 7
theorem nmX4 : ∀ a, a < 7 → ∀ b, b < 7 → a ≠ b → (TX4 a).2.1 ≠ (TX4 b).2.1 := by decide +kernel
theorem tyX4_ok : ∀ k, k < 7 → parseFieldDescriptor (TX4 k).2.2.1 = some (tyX4 k) := by decide +kernel
abbrev cX4_init : ByteArray := prog_6_method_1_code
def yX4_init : MethodName := ⟨RX4, "<init>", "(LStraightFurrow$Land;LStraightFurrow$Parish;)V"⟩
abbrev cX4_strayed : ByteArray := prog_6_method_2_code
def yX4_strayed : MethodName := ⟨RX4, "strayed", "(III)I"⟩
abbrev cX4_moved : ByteArray := prog_6_method_3_code
def yX4_moved : MethodName := ⟨RX4, "moved", "(III)I"⟩
abbrev cX4_goes : ByteArray := prog_6_method_4_code
def yX4_goes : MethodName := ⟨RX4, "goes", "(II)I"⟩
abbrev cX4_laneAt : ByteArray := prog_6_method_5_code
def yX4_laneAt : MethodName := ⟨RX4, "laneAt", "(I)I"⟩
abbrev cX4_span : ByteArray := prog_6_method_6_code
def yX4_span : MethodName := ⟨RX4, "span", "()I"⟩
abbrev cX4_score : ByteArray := prog_6_method_7_code
def yX4_score : MethodName := ⟨RX4, "score", "()I"⟩
abbrev cX4_pegScore : ByteArray := prog_6_method_8_code
def yX4_pegScore : MethodName := ⟨RX4, "pegScore", "(I)I"⟩
abbrev cX4_scoresAll : ByteArray := prog_6_method_9_code
def yX4_scoresAll : MethodName := ⟨RX4, "scoresAll", "()V"⟩
abbrev cX4_whoHas : ByteArray := prog_6_method_10_code
def yX4_whoHas : MethodName := ⟨RX4, "whoHas", "(I)I"⟩
abbrev cX4_bestOfAll : ByteArray := prog_6_method_11_code
def yX4_bestOfAll : MethodName := ⟨RX4, "bestOfAll", "()I"⟩
abbrev cX4_yearsGo : ByteArray := prog_6_method_12_code
def yX4_yearsGo : MethodName := ⟨RX4, "yearsGo", "(II)V"⟩
def RX5 : String := "StraightFurrow$Reader"
def TX5 : u_T := fun k => match k with
  | 0 => ("StraightFurrow$Reader", "made", "LStraightFurrow$Parish;", true)
  | 1 => ("StraightFurrow$Reader", "tape", "LStraightFurrow$Rows;", true)
  | 2 => ("StraightFurrow$Reader", "at", "I", false)
  | 3 => ("StraightFurrow$Reader", "next", "I", false)
  | _ => ("StraightFurrow$Reader", "number", "I", false)
def tyX5 : Nat → FieldType := fun k => match k with
  | 0 => .object "StraightFurrow$Parish"
  | 1 => .object "StraightFurrow$Rows"
  | 2 => .int
  | 3 => .int
  | _ => .int
abbrev wsX50 : List Cond := u_ws RX5 TX5 5
theorem nmX5 : ∀ a, a < 5 → ∀ b, b < 5 → a ≠ b → (TX5 a).2.1 ≠ (TX5 b).2.1 := by decide +kernel
theorem tyX5_ok : ∀ k, k < 5 → parseFieldDescriptor (TX5 k).2.2.1 = some (tyX5 k) := by decide +kernel
abbrev cX5_init : ByteArray := prog_7_method_1_code
def yX5_init : MethodName := ⟨RX5, "<init>", "(LStraightFurrow$Rows;)V"⟩
abbrev cX5_faultOfTape : ByteArray := prog_7_method_2_code
def yX5_faultOfTape : MethodName := ⟨RX5, "faultOfTape", "()I"⟩
abbrev cX5_heads : ByteArray := prog_7_method_3_code
def yX5_heads : MethodName := ⟨RX5, "heads", "(Ljava/lang/String;)Z"⟩
abbrev cX5_either : ByteArray := prog_7_method_4_code
def yX5_either : MethodName := ⟨RX5, "either", "(I)Z"⟩
abbrev cX5_both : ByteArray := prog_7_method_5_code
def yX5_both : MethodName := ⟨RX5, "both", "(I)Z"⟩
abbrev cX5_factor : ByteArray := prog_7_method_6_code
def yX5_factor : MethodName := ⟨RX5, "factor", "(I)Z"⟩
abbrev cX5_test : ByteArray := prog_7_method_7_code
def yX5_test : MethodName := ⟨RX5, "test", "()Z"⟩
abbrev cX5_readsNumber : ByteArray := prog_7_method_8_code
def yX5_readsNumber : MethodName := ⟨RX5, "readsNumber", "()Z"⟩
abbrev cX5_eats : ByteArray := prog_7_method_9_code
def yX5_eats : MethodName := ⟨RX5, "eats", "(I)Z"⟩
abbrev cX5_eatsOneOf : ByteArray := prog_7_method_10_code
def yX5_eatsOneOf : MethodName := ⟨RX5, "eatsOneOf", "(Ljava/lang/String;)I"⟩
abbrev cX5_goesOn : ByteArray := prog_7_method_11_code
def yX5_goesOn : MethodName := ⟨RX5, "goesOn", "()V"⟩
def RX6 : String := "StraightFurrow$Rows"
def TX6 : u_T := fun k => match k with
  | 0 => ("StraightFurrow$Rows", "width", "I", true)
  | 1 => ("StraightFurrow$Rows", "cells", "[I", true)
  | _ => ("StraightFurrow$Rows", "size", "I", false)
def tyX6 : Nat → FieldType := fun k => match k with
  | 0 => .int
  | 1 => .array .int
  | _ => .int
abbrev wsX60 : List Cond := u_ws RX6 TX6 3
theorem nmX6 : ∀ a, a < 3 → ∀ b, b < 3 → a ≠ b → (TX6 a).2.1 ≠ (TX6 b).2.1 := by decide +kernel
theorem tyX6_ok : ∀ k, k < 3 → parseFieldDescriptor (TX6 k).2.2.1 = some (tyX6 k) := by decide +kernel
abbrev cX6_init : ByteArray := prog_8_method_1_code
def yX6_init : MethodName := ⟨RX6, "<init>", "(II)V"⟩
abbrev cX6_adds : ByteArray := prog_8_method_2_code
def yX6_adds : MethodName := ⟨RX6, "adds", "(III)I"⟩
abbrev cX6_at : ByteArray := prog_8_method_3_code
def yX6_at : MethodName := ⟨RX6, "at", "(II)I"⟩
abbrev cX6_empties : ByteArray := prog_8_method_4_code
def yX6_empties : MethodName := ⟨RX6, "empties", "()I"⟩
abbrev cX6_takes : ByteArray := prog_8_method_5_code
def yX6_takes : MethodName := ⟨RX6, "takes", "(LStraightFurrow$Rows;)V"⟩
def RX7 : String := "StraightFurrow$State"
def TX7 : u_T := fun k => match k with
  | 0 => ("StraightFurrow$State", "land", "LStraightFurrow$Land;", true)
  | 1 => ("StraightFurrow$State", "parish", "LStraightFurrow$Parish;", true)
  | 2 => ("StraightFurrow$State", "tape", "LStraightFurrow$Rows;", true)
  | 3 => ("StraightFurrow$State", "cases", "LStraightFurrow$Rows;", true)
  | 4 => ("StraightFurrow$State", "seen", "LStraightFurrow$Rows;", true)
  | 5 => ("StraightFurrow$State", "plans", "LStraightFurrow$Rows;", true)
  | 6 => ("StraightFurrow$State", "books", "LStraightFurrow$Rows;", true)
  | _ => ("StraightFurrow$State", "parishes", "I", false)
def tyX7 : Nat → FieldType := fun k => match k with
  | 0 => .object "StraightFurrow$Land"
  | 1 => .object "StraightFurrow$Parish"
  | 2 => .object "StraightFurrow$Rows"
  | 3 => .object "StraightFurrow$Rows"
  | 4 => .object "StraightFurrow$Rows"
  | 5 => .object "StraightFurrow$Rows"
  | 6 => .object "StraightFurrow$Rows"
  | _ => .int
abbrev wsX70 : List Cond := u_ws RX7 TX7 8
theorem nmX7 : ∀ a, a < 8 → ∀ b, b < 8 → a ≠ b → (TX7 a).2.1 ≠ (TX7 b).2.1 := by decide +kernel
theorem tyX7_ok : ∀ k, k < 8 → parseFieldDescriptor (TX7 k).2.2.1 = some (tyX7 k) := by decide +kernel
abbrev cX7_init : ByteArray := prog_9_method_1_code
def yX7_init : MethodName := ⟨RX7, "<init>", "()V"⟩
abbrev cX7_takes : ByteArray := prog_9_method_2_code
def yX7_takes : MethodName := ⟨RX7, "takes", "(LStraightFurrow$State;)V"⟩
def RX8 : String := "StraightFurrow"
def TX8 : u_T := fun k => match k with
  | 0 => ("StraightFurrow", "now", "LStraightFurrow$State;", true)
  | 1 => ("StraightFurrow", "kept", "LStraightFurrow$State;", true)
  | 2 => ("StraightFurrow", "hasImage", "Z", false)
  | 3 => ("StraightFurrow", "land", "LStraightFurrow$Land;", true)
  | 4 => ("StraightFurrow", "plough", "LStraightFurrow$Plough;", true)
  | 5 => ("StraightFurrow", "ifs", "LStraightFurrow$Land;", true)
  | 6 => ("StraightFurrow", "tried", "LStraightFurrow$Plough;", true)
  | 7 => ("StraightFurrow", "clearing", "LStraightFurrow$Clearing;", true)
  | 8 => ("StraightFurrow", "reader", "LStraightFurrow$Reader;", true)
  | _ => ("StraightFurrow", "deeds", "LStraightFurrow$Deeds;", true)
def tyX8 : Nat → FieldType := fun k => match k with
  | 0 => .object "StraightFurrow$State"
  | 1 => .object "StraightFurrow$State"
  | 2 => .boolean
  | 3 => .object "StraightFurrow$Land"
  | 4 => .object "StraightFurrow$Plough"
  | 5 => .object "StraightFurrow$Land"
  | 6 => .object "StraightFurrow$Plough"
  | 7 => .object "StraightFurrow$Clearing"
  | 8 => .object "StraightFurrow$Reader"
  | _ => .object "StraightFurrow$Deeds"
abbrev wsX80 : List Cond := u_ws RX8 TX8 10
theorem nmX8 : ∀ a, a < 10 → ∀ b, b < 10 → a ≠ b → (TX8 a).2.1 ≠ (TX8 b).2.1 := by decide +kernel
theorem tyX8_ok : ∀ k, k < 10 → parseFieldDescriptor (TX8 k).2.2.1 = some (tyX8 k) := by decide +kernel
abbrev cX8_init : ByteArray := prog_1_method_1_code
def yX8_init : MethodName := ⟨RX8, "<init>", "()V"⟩
abbrev cX8_feed : ByteArray := prog_1_method_2_code
def yX8_feed : MethodName := ⟨RX8, "feed", "(I)I"⟩
abbrev cX8_parish : ByteArray := prog_1_method_3_code
def yX8_parish : MethodName := ⟨RX8, "parish", "()I"⟩
abbrev cX8_man : ByteArray := prog_1_method_4_code
def yX8_man : MethodName := ⟨RX8, "man", "(III)I"⟩
abbrev cX8_of : ByteArray := prog_1_method_5_code
def yX8_of : MethodName := ⟨RX8, "of", "(II)I"⟩
abbrev cX8_row : ByteArray := prog_1_method_6_code
def yX8_row : MethodName := ⟨RX8, "row", "(III)I"⟩
abbrev cX8_peg : ByteArray := prog_1_method_7_code
def yX8_peg : MethodName := ⟨RX8, "peg", "(II)I"⟩
abbrev cX8_away : ByteArray := prog_1_method_8_code
def yX8_away : MethodName := ⟨RX8, "away", "(IZ)I"⟩
abbrev cX8_lay : ByteArray := prog_1_method_9_code
def yX8_lay : MethodName := ⟨RX8, "lay", "(II)I"⟩
abbrev cX8_plead : ByteArray := prog_1_method_10_code
def yX8_plead : MethodName := ⟨RX8, "plead", "(II)I"⟩
abbrev cX8_told : ByteArray := prog_1_method_11_code
def yX8_told : MethodName := ⟨RX8, "told", "(I)I"⟩
abbrev cX8_pass : ByteArray := prog_1_method_12_code
def yX8_pass : MethodName := ⟨RX8, "pass", "(I)I"⟩
abbrev cX8_line : ByteArray := prog_1_method_13_code
def yX8_line : MethodName := ⟨RX8, "line", "(III)I"⟩
abbrev cX8_strays : ByteArray := prog_1_method_14_code
def yX8_strays : MethodName := ⟨RX8, "strays", "(III)I"⟩
abbrev cX8_on : ByteArray := prog_1_method_15_code
def yX8_on : MethodName := ⟨RX8, "on", "(II)I"⟩
abbrev cX8_when : ByteArray := prog_1_method_16_code
def yX8_when : MethodName := ⟨RX8, "when", "(I)I"⟩
abbrev cX8_start : ByteArray := prog_1_method_17_code
def yX8_start : MethodName := ⟨RX8, "start", "(I)I"⟩
abbrev cX8_waver : ByteArray := prog_1_method_18_code
def yX8_waver : MethodName := ⟨RX8, "waver", "(II)I"⟩
abbrev cX8_clear : ByteArray := prog_1_method_19_code
def yX8_clear : MethodName := ⟨RX8, "clear", "(I)I"⟩
abbrev cX8_bar : ByteArray := prog_1_method_20_code
def yX8_bar : MethodName := ⟨RX8, "bar", "(I)I"⟩
abbrev cX8_see : ByteArray := prog_1_method_21_code
def yX8_see : MethodName := ⟨RX8, "see", "(III)I"⟩
abbrev cX8_from : ByteArray := prog_1_method_22_code
def yX8_from : MethodName := ⟨RX8, "from", "(I)I"⟩
abbrev cX8_firm : ByteArray := prog_1_method_23_code
def yX8_firm : MethodName := ⟨RX8, "firm", "(II)I"⟩
abbrev cX8_odds : ByteArray := prog_1_method_24_code
def yX8_odds : MethodName := ⟨RX8, "odds", "(III)J"⟩
abbrev cX8_mean : ByteArray := prog_1_method_25_code
def yX8_mean : MethodName := ⟨RX8, "mean", "(I)J"⟩
abbrev cX8_plan : ByteArray := prog_1_method_26_code
def yX8_plan : MethodName := ⟨RX8, "plan", "(II)I"⟩
abbrev cX8_done : ByteArray := prog_1_method_27_code
def yX8_done : MethodName := ⟨RX8, "done", "(I)I"⟩
abbrev cX8_book : ByteArray := prog_1_method_28_code
def yX8_book : MethodName := ⟨RX8, "book", "(II)I"⟩
abbrev cX8_looked : ByteArray := prog_1_method_29_code
def yX8_looked : MethodName := ⟨RX8, "looked", "()I"⟩
abbrev cX8_act : ByteArray := prog_1_method_30_code
def yX8_act : MethodName := ⟨RX8, "act", "(III)I"⟩
abbrev cX8_trace : ByteArray := prog_1_method_31_code
def yX8_trace : MethodName := ⟨RX8, "trace", "(I)I"⟩
abbrev cX8_as : ByteArray := prog_1_method_32_code
def yX8_as : MethodName := ⟨RX8, "as", "(II)I"⟩
abbrev cX8_image : ByteArray := prog_1_method_33_code
def yX8_image : MethodName := ⟨RX8, "image", "()I"⟩
abbrev cX8_undo : ByteArray := prog_1_method_34_code
def yX8_undo : MethodName := ⟨RX8, "undo", "()I"⟩
abbrev cX8_count : ByteArray := prog_1_method_35_code
def yX8_count : MethodName := ⟨RX8, "count", "(I)I"⟩
abbrev cX8_winner : ByteArray := prog_1_method_36_code
def yX8_winner : MethodName := ⟨RX8, "winner", "()I"⟩
abbrev cX8_decided : ByteArray := prog_1_method_37_code
def yX8_decided : MethodName := ⟨RX8, "decided", "(II)I"⟩
abbrev cX8_scoreIfLaid : ByteArray := prog_1_method_38_code
def yX8_scoreIfLaid : MethodName := ⟨RX8, "scoreIfLaid", "(III)I"⟩
abbrev cX8_isAsSeen : ByteArray := prog_1_method_39_code
def yX8_isAsSeen : MethodName := ⟨RX8, "isAsSeen", "(LStraightFurrow$Plough;I)Z"⟩
abbrev cX8_isKind : ByteArray := prog_1_method_40_code
def yX8_isKind : MethodName := ⟨RX8, "isKind", "(I)Z"⟩
abbrev cX8_isStep : ByteArray := prog_1_method_41_code
def yX8_isStep : MethodName := ⟨RX8, "isStep", "(I)Z"⟩
abbrev cX8_isLane : ByteArray := prog_1_method_42_code
def yX8_isLane : MethodName := ⟨RX8, "isLane", "(I)Z"⟩
abbrev cX8_isDigit : ByteArray := prog_1_method_43_code
def yX8_isDigit : MethodName := ⟨RX8, "isDigit", "(I)Z"⟩
abbrev cX8_isFind : ByteArray := prog_1_method_44_code
def yX8_isFind : MethodName := ⟨RX8, "isFind", "(I)Z"⟩
abbrev cX8_isPart : ByteArray := prog_1_method_45_code
def yX8_isPart : MethodName := ⟨RX8, "isPart", "(I)Z"⟩
abbrev cX8_bit : ByteArray := prog_1_method_46_code
def yX8_bit : MethodName := ⟨RX8, "bit", "(II)I"⟩
abbrev cX8_isUnder : ByteArray := prog_1_method_47_code
def yX8_isUnder : MethodName := ⟨RX8, "isUnder", "(II)Z"⟩
abbrev cX8_partOf : ByteArray := prog_1_method_48_code
def yX8_partOf : MethodName := ⟨RX8, "partOf", "(III)J"⟩
abbrev cX8_commonOf : ByteArray := prog_1_method_49_code
def yX8_commonOf : MethodName := ⟨RX8, "commonOf", "(II)I"⟩
def RX9 : String := "StraightFurrowModel"
def TX9 : u_T := fun k => match k with
  | 0 => ("StraightFurrowModel", "thrown", "I", false)
  | 1 => ("StraightFurrowModel", "s", "[I", true)
  | 2 => ("StraightFurrowModel", "image", "[I", true)
  | 3 => ("StraightFurrowModel", "frame", "[I", true)
  | 4 => ("StraightFurrowModel", "hasImage", "Z", false)
  | 5 => ("StraightFurrowModel", "act", "I", false)
  | 6 => ("StraightFurrowModel", "spot", "I", false)
  | 7 => ("StraightFurrowModel", "end", "I", false)
  | 8 => ("StraightFurrowModel", "isWrong", "Z", false)
  | 9 => ("StraightFurrowModel", "open", "I", false)
  | 10 => ("StraightFurrowModel", "by", "[I", true)
  | 11 => ("StraightFurrowModel", "truths", "[Z", true)
  | 12 => ("StraightFurrowModel", "lanes", "[I", true)
  | 13 => ("StraightFurrowModel", "off", "I", false)
  | 14 => ("StraightFurrowModel", "bends", "I", false)
  | 15 => ("StraightFurrowModel", "with", "[I", true)
  | 16 => ("StraightFurrowModel", "without", "[I", true)
  | 17 => ("StraightFurrowModel", "bodies", "[I", true)
  | 18 => ("StraightFurrowModel", "ran", "I", false)
  | 19 => ("StraightFurrowModel", "kind", "I", false)
  | 20 => ("StraightFurrowModel", "number", "I", false)
  | _ => ("StraightFurrowModel", "tellsV", "I", false)
def tyX9 : Nat → FieldType := fun k => match k with
  | 0 => .int
  | 1 => .array .int
  | 2 => .array .int
  | 3 => .array .int
  | 4 => .boolean
  | 5 => .int
  | 6 => .int
  | 7 => .int
  | 8 => .boolean
  | 9 => .int
  | 10 => .array .int
  | 11 => .array .boolean
  | 12 => .array .int
  | 13 => .int
  | 14 => .int
  | 15 => .array .int
  | 16 => .array .int
  | 17 => .array .int
  | 18 => .int
  | 19 => .int
  | 20 => .int
  | _ => .int
abbrev wsX90 : List Cond := u_ws RX9 TX9 22
theorem nmX9 : ∀ a, a < 22 → ∀ b, b < 22 → a ≠ b → (TX9 a).2.1 ≠ (TX9 b).2.1 := by decide +kernel
theorem tyX9_ok : ∀ k, k < 22 → parseFieldDescriptor (TX9 k).2.2.1 = some (tyX9 k) := by decide +kernel
abbrev cX9_init : ByteArray := prog_11_method_1_code
def yX9_init : MethodName := ⟨RX9, "<init>", "()V"⟩
abbrev cX9_in : ByteArray := prog_11_method_3_code
def yX9_in : MethodName := ⟨RX9, "in", "(III)Z"⟩
abbrev cX9_isLane : ByteArray := prog_11_method_4_code
def yX9_isLane : MethodName := ⟨RX9, "isLane", "(I)Z"⟩
abbrev cX9_isStep : ByteArray := prog_11_method_5_code
def yX9_isStep : MethodName := ⟨RX9, "isStep", "(I)Z"⟩
abbrev cX9_isMan : ByteArray := prog_11_method_6_code
def yX9_isMan : MethodName := ⟨RX9, "isMan", "(I)Z"⟩
abbrev cX9_isCase : ByteArray := prog_11_method_7_code
def yX9_isCase : MethodName := ⟨RX9, "isCase", "(I)Z"⟩
abbrev cX9_keeps : ByteArray := prog_11_method_8_code
def yX9_keeps : MethodName := ⟨RX9, "keeps", "()V"⟩
abbrev cX9_goesBack : ByteArray := prog_11_method_9_code
def yX9_goesBack : MethodName := ⟨RX9, "goesBack", "()V"⟩
abbrev cX9_feed : ByteArray := prog_11_method_10_code
def yX9_feed : MethodName := ⟨RX9, "feed", "(I)I"⟩
abbrev cX9_here : ByteArray := prog_11_method_11_code
def yX9_here : MethodName := ⟨RX9, "here", "()I"⟩
abbrev cX9_must : ByteArray := prog_11_method_12_code
def yX9_must : MethodName := ⟨RX9, "must", "(I)V"⟩
abbrev cX9_spells : ByteArray := prog_11_method_13_code
def yX9_spells : MethodName := ⟨RX9, "spells", "(Ljava/lang/String;)V"⟩
abbrev cX9_figures : ByteArray := prog_11_method_14_code
def yX9_figures : MethodName := ⟨RX9, "figures", "()I"⟩
abbrev cX9_among : ByteArray := prog_11_method_15_code
def yX9_among : MethodName := ⟨RX9, "among", "(Ljava/lang/String;)I"⟩
abbrev cX9_emits : ByteArray := prog_11_method_16_code
def yX9_emits : MethodName := ⟨RX9, "emits", "(I)V"⟩
abbrev cX9_factor : ByteArray := prog_11_method_17_code
def yX9_factor : MethodName := ⟨RX9, "factor", "()V"⟩
abbrev cX9_every : ByteArray := prog_11_method_18_code
def yX9_every : MethodName := ⟨RX9, "every", "()V"⟩
abbrev cX9_some : ByteArray := prog_11_method_19_code
def yX9_some : MethodName := ⟨RX9, "some", "()V"⟩
abbrev cX9_much : ByteArray := prog_11_method_20_code
def yX9_much : MethodName := ⟨RX9, "much", "(ILjava/lang/String;)V"⟩
abbrev cX9_tellsHere : ByteArray := prog_11_method_21_code
def yX9_tellsHere : MethodName := ⟨RX9, "tellsHere", "(ILjava/lang/String;)V"⟩
abbrev cX9_clauseHere : ByteArray := prog_11_method_22_code
def yX9_clauseHere : MethodName := ⟨RX9, "clauseHere", "()V"⟩
abbrev cX9_parish : ByteArray := prog_11_method_23_code
def yX9_parish : MethodName := ⟨RX9, "parish", "()I"⟩
abbrev cX9_tellsOf : ByteArray := prog_11_method_24_code
def yX9_tellsOf : MethodName := ⟨RX9, "tellsOf", "(II)I"⟩
abbrev cX9_driftOf : ByteArray := prog_11_method_25_code
def yX9_driftOf : MethodName := ⟨RX9, "driftOf", "(IIII)I"⟩
abbrev cX9_straysBy : ByteArray := prog_11_method_26_code
def yX9_straysBy : MethodName := ⟨RX9, "straysBy", "(IIII)I"⟩
abbrev cX9_went : ByteArray := prog_11_method_27_code
def yX9_went : MethodName := ⟨RX9, "went", "(II)I"⟩
abbrev cX9_countsLine : ByteArray := prog_11_method_28_code
def yX9_countsLine : MethodName := ⟨RX9, "countsLine", "()V"⟩
abbrev cX9_span : ByteArray := prog_11_method_29_code
def yX9_span : MethodName := ⟨RX9, "span", "()I"⟩
abbrev cX9_scoreFrom : ByteArray := prog_11_method_30_code
def yX9_scoreFrom : MethodName := ⟨RX9, "scoreFrom", "(II)I"⟩
abbrev cX9_scoreOf : ByteArray := prog_11_method_31_code
def yX9_scoreOf : MethodName := ⟨RX9, "scoreOf", "(I)I"⟩
abbrev cX9_bestOne : ByteArray := prog_11_method_32_code
def yX9_bestOne : MethodName := ⟨RX9, "bestOne", "()I"⟩
abbrev cX9_becomes : ByteArray := prog_11_method_33_code
def yX9_becomes : MethodName := ⟨RX9, "becomes", "(II)I"⟩
abbrev cX9_man : ByteArray := prog_11_method_34_code
def yX9_man : MethodName := ⟨RX9, "man", "(III)I"⟩
abbrev cX9_of : ByteArray := prog_11_method_35_code
def yX9_of : MethodName := ⟨RX9, "of", "(II)I"⟩
abbrev cX9_row : ByteArray := prog_11_method_36_code
def yX9_row : MethodName := ⟨RX9, "row", "(III)I"⟩
abbrev cX9_peg : ByteArray := prog_11_method_37_code
def yX9_peg : MethodName := ⟨RX9, "peg", "(II)I"⟩
abbrev cX9_away : ByteArray := prog_11_method_38_code
def yX9_away : MethodName := ⟨RX9, "away", "(IZ)I"⟩
abbrev cX9_lay : ByteArray := prog_11_method_39_code
def yX9_lay : MethodName := ⟨RX9, "lay", "(II)I"⟩
abbrev cX9_plead : ByteArray := prog_11_method_40_code
def yX9_plead : MethodName := ⟨RX9, "plead", "(II)I"⟩
abbrev cX9_decided : ByteArray := prog_11_method_41_code
def yX9_decided : MethodName := ⟨RX9, "decided", "(I)I"⟩
abbrev cX9_bitsOf : ByteArray := prog_11_method_42_code
def yX9_bitsOf : MethodName := ⟨RX9, "bitsOf", "(I)I"⟩
abbrev cX9_told : ByteArray := prog_11_method_43_code
def yX9_told : MethodName := ⟨RX9, "told", "(I)I"⟩
abbrev cX9_goes : ByteArray := prog_11_method_44_code
def yX9_goes : MethodName := ⟨RX9, "goes", "()V"⟩
abbrev cX9_goesOn : ByteArray := prog_11_method_45_code
def yX9_goesOn : MethodName := ⟨RX9, "goesOn", "(I)V"⟩
abbrev cX9_pass : ByteArray := prog_11_method_46_code
def yX9_pass : MethodName := ⟨RX9, "pass", "(I)I"⟩
abbrev cX9_line : ByteArray := prog_11_method_47_code
def yX9_line : MethodName := ⟨RX9, "line", "(III)I"⟩
abbrev cX9_strays : ByteArray := prog_11_method_48_code
def yX9_strays : MethodName := ⟨RX9, "strays", "(III)I"⟩
abbrev cX9_on : ByteArray := prog_11_method_49_code
def yX9_on : MethodName := ⟨RX9, "on", "(II)I"⟩
abbrev cX9_when : ByteArray := prog_11_method_50_code
def yX9_when : MethodName := ⟨RX9, "when", "(I)I"⟩
abbrev cX9_start : ByteArray := prog_11_method_51_code
def yX9_start : MethodName := ⟨RX9, "start", "(I)I"⟩
abbrev cX9_scoreLaying : ByteArray := prog_11_method_52_code
def yX9_scoreLaying : MethodName := ⟨RX9, "scoreLaying", "(III)I"⟩
abbrev cX9_waver : ByteArray := prog_11_method_53_code
def yX9_waver : MethodName := ⟨RX9, "waver", "(II)I"⟩
abbrev cX9_scoreClearing : ByteArray := prog_11_method_54_code
def yX9_scoreClearing : MethodName := ⟨RX9, "scoreClearing", "(II)I"⟩
abbrev cX9_countOf : ByteArray := prog_11_method_55_code
def yX9_countOf : MethodName := ⟨RX9, "countOf", "(I)I"⟩
abbrev cX9_clear : ByteArray := prog_11_method_56_code
def yX9_clear : MethodName := ⟨RX9, "clear", "(I)I"⟩
abbrev cX9_bar : ByteArray := prog_11_method_57_code
def yX9_bar : MethodName := ⟨RX9, "bar", "(I)I"⟩
abbrev cX9_see : ByteArray := prog_11_method_58_code
def yX9_see : MethodName := ⟨RX9, "see", "(III)I"⟩
abbrev cX9_isAsSeen : ByteArray := prog_11_method_59_code
def yX9_isAsSeen : MethodName := ⟨RX9, "isAsSeen", "(II)Z"⟩
abbrev cX9_from : ByteArray := prog_11_method_60_code
def yX9_from : MethodName := ⟨RX9, "from", "(I)I"⟩
abbrev cX9_firm : ByteArray := prog_11_method_61_code
def yX9_firm : MethodName := ⟨RX9, "firm", "(II)I"⟩
abbrev cX9_lowest : ByteArray := prog_11_method_62_code
def yX9_lowest : MethodName := ⟨RX9, "lowest", "(JJI)J"⟩
abbrev cX9_odds : ByteArray := prog_11_method_63_code
def yX9_odds : MethodName := ⟨RX9, "odds", "(III)J"⟩
abbrev cX9_mean : ByteArray := prog_11_method_64_code
def yX9_mean : MethodName := ⟨RX9, "mean", "(I)J"⟩
abbrev cX9_plan : ByteArray := prog_11_method_65_code
def yX9_plan : MethodName := ⟨RX9, "plan", "(II)I"⟩
abbrev cX9_goesBy : ByteArray := prog_11_method_66_code
def yX9_goesBy : MethodName := ⟨RX9, "goesBy", "(II)V"⟩
abbrev cX9_done : ByteArray := prog_11_method_67_code
def yX9_done : MethodName := ⟨RX9, "done", "(I)I"⟩
abbrev cX9_book : ByteArray := prog_11_method_68_code
def yX9_book : MethodName := ⟨RX9, "book", "(II)I"⟩
abbrev cX9_looked : ByteArray := prog_11_method_69_code
def yX9_looked : MethodName := ⟨RX9, "looked", "()I"⟩
abbrev cX9_ranBody : ByteArray := prog_11_method_70_code
def yX9_ranBody : MethodName := ⟨RX9, "ranBody", "(I)V"⟩
abbrev cX9_isUnder : ByteArray := prog_11_method_71_code
def yX9_isUnder : MethodName := ⟨RX9, "isUnder", "(II)Z"⟩
abbrev cX9_plainPloughs : ByteArray := prog_11_method_72_code
def yX9_plainPloughs : MethodName := ⟨RX9, "plainPloughs", "(I)I"⟩
abbrev cX9_ploughsActs : ByteArray := prog_11_method_73_code
def yX9_ploughsActs : MethodName := ⟨RX9, "ploughsActs", "(I)I"⟩
abbrev cX9_plainLooks : ByteArray := prog_11_method_74_code
def yX9_plainLooks : MethodName := ⟨RX9, "plainLooks", "(I)I"⟩
abbrev cX9_looksActs : ByteArray := prog_11_method_75_code
def yX9_looksActs : MethodName := ⟨RX9, "looksActs", "(I)I"⟩
abbrev cX9_plainTelling : ByteArray := prog_11_method_76_code
def yX9_plainTelling : MethodName := ⟨RX9, "plainTelling", "(I)I"⟩
abbrev cX9_swearsActs : ByteArray := prog_11_method_77_code
def yX9_swearsActs : MethodName := ⟨RX9, "swearsActs", "(I)I"⟩
abbrev cX9_act : ByteArray := prog_11_method_78_code
def yX9_act : MethodName := ⟨RX9, "act", "(III)I"⟩
abbrev cX9_trace : ByteArray := prog_11_method_79_code
def yX9_trace : MethodName := ⟨RX9, "trace", "(I)I"⟩
abbrev cX9_as : ByteArray := prog_11_method_80_code
def yX9_as : MethodName := ⟨RX9, "as", "(II)I"⟩
abbrev cX9_image : ByteArray := prog_11_method_81_code
def yX9_image : MethodName := ⟨RX9, "image", "()I"⟩
abbrev cX9_undo : ByteArray := prog_11_method_82_code
def yX9_undo : MethodName := ⟨RX9, "undo", "()I"⟩
abbrev cX9_count : ByteArray := prog_11_method_83_code
def yX9_count : MethodName := ⟨RX9, "count", "(I)I"⟩
def RJx145de : String := "java/io/Serializable"
def TJx145de : u_T := fun k => match k with
  | _ => ("", "", "", false)
def tyJx145de : Nat → FieldType := fun k => match k with
  | _ => .int
abbrev wsJx145de0 : List Cond := u_ws RJx145de TJx145de 0
theorem nmJx145de : ∀ a, a < 0 → ∀ b, b < 0 → a ≠ b → (TJx145de a).2.1 ≠ (TJx145de b).2.1 := by decide +kernel
theorem tyJx145de_ok : ∀ k, k < 0 → parseFieldDescriptor (TJx145de k).2.2.1 = some (tyJx145de k) := by decide +kernel
def RJx9f9b0 : String := "java/lang/CharSequence"
def TJx9f9b0 : u_T := fun k => match k with
  | _ => ("", "", "", false)
def tyJx9f9b0 : Nat → FieldType := fun k => match k with
  | _ => .int
abbrev wsJx9f9b00 : List Cond := u_ws RJx9f9b0 TJx9f9b0 0
theorem nmJx9f9b0 : ∀ a, a < 0 → ∀ b, b < 0 → a ≠ b → (TJx9f9b0 a).2.1 ≠ (TJx9f9b0 b).2.1 := by decide +kernel
theorem tyJx9f9b0_ok : ∀ k, k < 0 → parseFieldDescriptor (TJx9f9b0 k).2.2.1 = some (tyJx9f9b0 k) := by decide +kernel
def RJxb160c : String := "java/lang/Comparable"
def TJxb160c : u_T := fun k => match k with
  | _ => ("", "", "", false)
def tyJxb160c : Nat → FieldType := fun k => match k with
  | _ => .int
abbrev wsJxb160c0 : List Cond := u_ws RJxb160c TJxb160c 0
theorem nmJxb160c : ∀ a, a < 0 → ∀ b, b < 0 → a ≠ b → (TJxb160c a).2.1 ≠ (TJxb160c b).2.1 := by decide +kernel
theorem tyJxb160c_ok : ∀ k, k < 0 → parseFieldDescriptor (TJxb160c k).2.2.1 = some (tyJxb160c k) := by decide +kernel
def RJ6 : String := "java/lang/Integer"
def TJ6 : u_T := fun k => match k with
  | _ => ("", "", "", false)
def tyJ6 : Nat → FieldType := fun k => match k with
  | _ => .int
abbrev wsJ60 : List Cond := u_ws RJ6 TJ6 0
theorem nmJ6 : ∀ a, a < 0 → ∀ b, b < 0 → a ≠ b → (TJ6 a).2.1 ≠ (TJ6 b).2.1 := by decide +kernel
theorem tyJ6_ok : ∀ k, k < 0 → parseFieldDescriptor (TJ6 k).2.2.1 = some (tyJ6 k) := by decide +kernel
abbrev cJ6_bitCount_0f7a4 : ByteArray := prog_12_method_49_code
def yJ6_bitCount_0f7a4 : MethodName := ⟨RJ6, "bitCount", "(I)I"⟩
def RJ9 : String := "java/lang/Math"
def TJ9 : u_T := fun k => match k with
  | _ => ("", "", "", false)
def tyJ9 : Nat → FieldType := fun k => match k with
  | _ => .int
abbrev wsJ90 : List Cond := u_ws RJ9 TJ9 0
theorem nmJ9 : ∀ a, a < 0 → ∀ b, b < 0 → a ≠ b → (TJ9 a).2.1 ≠ (TJ9 b).2.1 := by decide +kernel
theorem tyJ9_ok : ∀ k, k < 0 → parseFieldDescriptor (TJ9 k).2.2.1 = some (tyJ9 k) := by decide +kernel
abbrev cJ9_abs_0f7a4 : ByteArray := prog_13_method_59_code
def yJ9_abs_0f7a4 : MethodName := ⟨RJ9, "abs", "(I)I"⟩
abbrev cJ9_max_7cf53 : ByteArray := prog_13_method_65_code
def yJ9_max_7cf53 : MethodName := ⟨RJ9, "max", "(II)I"⟩
abbrev cJ9_min_7cf53 : ByteArray := prog_13_method_69_code
def yJ9_min_7cf53 : MethodName := ⟨RJ9, "min", "(II)I"⟩
def RJ0 : String := "java/lang/String"
def TJ0 : u_T := fun k => match k with
  | _ => ("", "", "", false)
def tyJ0 : Nat → FieldType := fun k => match k with
  | _ => .int
abbrev wsJ00 : List Cond := u_ws RJ0 TJ0 0
theorem nmJ0 : ∀ a, a < 0 → ∀ b, b < 0 → a ≠ b → (TJ0 a).2.1 ≠ (TJ0 b).2.1 := by decide +kernel
theorem tyJ0_ok : ∀ k, k < 0 → parseFieldDescriptor (TJ0 k).2.2.1 = some (tyJ0 k) := by decide +kernel
abbrev cJ0_length_8abf5 : ByteArray := prog_14_method_54_code
def yJ0_length_8abf5 : MethodName := ⟨RJ0, "length", "()I"⟩
abbrev cJ0_charAt_5068e : ByteArray := prog_14_method_56_code
def yJ0_charAt_5068e : MethodName := ⟨RJ0, "charAt", "(I)C"⟩
abbrev cJ0_coder_7d493 : ByteArray := prog_14_method_152_code
def yJ0_coder_7d493 : MethodName := ⟨RJ0, "coder", "()B"⟩
abbrev cJ0_isLatin1_aae02 : ByteArray := prog_14_method_154_code
def yJ0_isLatin1_aae02 : MethodName := ⟨RJ0, "isLatin1", "()Z"⟩
abbrev cJ0_checkIndex_df160 : ByteArray := prog_14_method_155_code
def yJ0_checkIndex_df160 : MethodName := ⟨RJ0, "checkIndex", "(II)V"⟩
def RJ1 : String := "java/lang/StringLatin1"
def TJ1 : u_T := fun k => match k with
  | _ => ("", "", "", false)
def tyJ1 : Nat → FieldType := fun k => match k with
  | _ => .int
abbrev wsJ10 : List Cond := u_ws RJ1 TJ1 0
theorem nmJ1 : ∀ a, a < 0 → ∀ b, b < 0 → a ≠ b → (TJ1 a).2.1 ≠ (TJ1 b).2.1 := by decide +kernel
theorem tyJ1_ok : ∀ k, k < 0 → parseFieldDescriptor (TJ1 k).2.2.1 = some (tyJ1 k) := by decide +kernel
abbrev cJ1_charAt_3b067 : ByteArray := prog_15_method_2_code
def yJ1_charAt_3b067 : MethodName := ⟨RJ1, "charAt", "([BI)C"⟩
def RJ2 : String := "java/lang/StringUTF16"
def TJ2 : u_T := fun k => match k with
  | _ => ("", "", "", false)
def tyJ2 : Nat → FieldType := fun k => match k with
  | _ => .int
abbrev wsJ20 : List Cond := u_ws RJ2 TJ2 0
theorem nmJ2 : ∀ a, a < 0 → ∀ b, b < 0 → a ≠ b → (TJ2 a).2.1 ≠ (TJ2 b).2.1 := by decide +kernel
theorem tyJ2_ok : ∀ k, k < 0 → parseFieldDescriptor (TJ2 k).2.2.1 = some (tyJ2 k) := by decide +kernel
abbrev cJ2_getChar_3b067 : ByteArray := prog_16_method_5_code
def yJ2_getChar_3b067 : MethodName := ⟨RJ2, "getChar", "([BI)C"⟩
abbrev cJ2_length_9d52b : ByteArray := prog_16_method_6_code
def yJ2_length_9d52b : MethodName := ⟨RJ2, "length", "([B)I"⟩
abbrev cJ2_charAt_3b067 : ByteArray := prog_16_method_83_code
def yJ2_charAt_3b067 : MethodName := ⟨RJ2, "charAt", "([BI)C"⟩
abbrev cJ2_checkIndex_2214a : ByteArray := prog_16_method_91_code
def yJ2_checkIndex_2214a : MethodName := ⟨RJ2, "checkIndex", "(I[B)V"⟩
def RJ10 : String := "java/lang/System"
def TJ10 : u_T := fun k => match k with
  | _ => ("", "", "", false)
def tyJ10 : Nat → FieldType := fun k => match k with
  | _ => .int
abbrev wsJ100 : List Cond := u_ws RJ10 TJ10 0
theorem nmJ10 : ∀ a, a < 0 → ∀ b, b < 0 → a ≠ b → (TJ10 a).2.1 ≠ (TJ10 b).2.1 := by decide +kernel
theorem tyJ10_ok : ∀ k, k < 0 → parseFieldDescriptor (TJ10 k).2.2.1 = some (tyJ10 k) := by decide +kernel
def RJxfd54e : String := "java/lang/constant/Constable"
def TJxfd54e : u_T := fun k => match k with
  | _ => ("", "", "", false)
def tyJxfd54e : Nat → FieldType := fun k => match k with
  | _ => .int
abbrev wsJxfd54e0 : List Cond := u_ws RJxfd54e TJxfd54e 0
theorem nmJxfd54e : ∀ a, a < 0 → ∀ b, b < 0 → a ≠ b → (TJxfd54e a).2.1 ≠ (TJxfd54e b).2.1 := by decide +kernel
theorem tyJxfd54e_ok : ∀ k, k < 0 → parseFieldDescriptor (TJxfd54e k).2.2.1 = some (tyJxfd54e k) := by decide +kernel
def RJx3cf43 : String := "java/lang/constant/ConstantDesc"
def TJx3cf43 : u_T := fun k => match k with
  | _ => ("", "", "", false)
def tyJx3cf43 : Nat → FieldType := fun k => match k with
  | _ => .int
abbrev wsJx3cf430 : List Cond := u_ws RJx3cf43 TJx3cf43 0
theorem nmJx3cf43 : ∀ a, a < 0 → ∀ b, b < 0 → a ≠ b → (TJx3cf43 a).2.1 ≠ (TJx3cf43 b).2.1 := by decide +kernel
theorem tyJx3cf43_ok : ∀ k, k < 0 → parseFieldDescriptor (TJx3cf43 k).2.2.1 = some (tyJx3cf43 k) := by decide +kernel
def RJ7 : String := "java/util/Arrays"
def TJ7 : u_T := fun k => match k with
  | _ => ("", "", "", false)
def tyJ7 : Nat → FieldType := fun k => match k with
  | _ => .int
abbrev wsJ70 : List Cond := u_ws RJ7 TJ7 0
theorem nmJ7 : ∀ a, a < 0 → ∀ b, b < 0 → a ≠ b → (TJ7 a).2.1 ≠ (TJ7 b).2.1 := by decide +kernel
theorem tyJ7_ok : ∀ k, k < 0 → parseFieldDescriptor (TJ7 k).2.2.1 = some (tyJ7 k) := by decide +kernel
abbrev cJ7_fill_53178 : ByteArray := prog_18_method_103_code
def yJ7_fill_53178 : MethodName := ⟨RJ7, "fill", "([II)V"⟩
def RJ3 : String := "jdk/internal/util/Preconditions"
def TJ3 : u_T := fun k => match k with
  | _ => ("", "", "", false)
def tyJ3 : Nat → FieldType := fun k => match k with
  | _ => .int
abbrev wsJ30 : List Cond := u_ws RJ3 TJ3 0
theorem nmJ3 : ∀ a, a < 0 → ∀ b, b < 0 → a ≠ b → (TJ3 a).2.1 ≠ (TJ3 b).2.1 := by decide +kernel
theorem tyJ3_ok : ∀ k, k < 0 → parseFieldDescriptor (TJ3 k).2.2.1 = some (tyJ3 k) := by decide +kernel
abbrev cJ3_checkIndex_8e157 : ByteArray := prog_19_method_11_code
def yJ3_checkIndex_8e157 : MethodName := ⟨RJ3, "checkIndex", "(IILjava/util/function/BiFunction;)I"⟩
def RL : String := "StraightFurrowLaw"
abbrev cL_law : ByteArray := code
def yL_law : MethodName := ⟨RL, "law", "([I)Z"⟩
abbrev vwCl : List vw_C := [(RX0, TX0, 7), (RX1, TX1, 5), (RX2, TX2, 10), (RX3, TX3, 4), (RX4, TX4, 7), (RX5, TX5, 5), (RX6, TX6, 3), (RX7, TX7, 8), (RX8, TX8, 10), (RX9, TX9, 22)]
theorem inX0 : ∀ w ∈ wsX00, w ∈ lw_tbl := by decide +kernel
theorem inX1 : ∀ w ∈ wsX10, w ∈ lw_tbl := by decide +kernel
theorem inX2 : ∀ w ∈ wsX20, w ∈ lw_tbl := by decide +kernel
theorem inX3 : ∀ w ∈ wsX30, w ∈ lw_tbl := by decide +kernel
theorem inX4 : ∀ w ∈ wsX40, w ∈ lw_tbl := by decide +kernel
theorem inX5 : ∀ w ∈ wsX50, w ∈ lw_tbl := by decide +kernel
theorem inX6 : ∀ w ∈ wsX60, w ∈ lw_tbl := by decide +kernel
theorem inX7 : ∀ w ∈ wsX70, w ∈ lw_tbl := by decide +kernel
theorem inX8 : ∀ w ∈ wsX80, w ∈ lw_tbl := by decide +kernel
theorem inX9 : ∀ w ∈ wsX90, w ∈ lw_tbl := by decide +kernel
theorem inJ0 : ∀ w ∈ wsJ00, w ∈ lw_tbl := by decide +kernel
end
section
theorem dX0_init_0 : decode cX0_init 0 = .ok (.aload_n 0, 1) := by decide +kernel
theorem dX0_init_1 : decode cX0_init 1 = .ok (.invokespecial 3, 3) := by decide +kernel
theorem dX0_init_4 : decode cX0_init 4 = .ok (.aload_n 0, 1) := by decide +kernel
theorem dX0_init_5 : decode cX0_init 5 = .ok (.bipush 108, 2) := by decide +kernel
theorem dX0_init_7 : decode cX0_init 7 = .ok (.newarray .int, 2) := by decide +kernel
theorem dX0_init_9 : decode cX0_init 9 = .ok (.putfield 9, 3) := by decide +kernel
theorem dX0_init_12 : decode cX0_init 12 = .ok (.aload_n 0, 1) := by decide +kernel
theorem dX0_init_13 : decode cX0_init 13 = .ok (.bipush 108, 2) := by decide +kernel
theorem dX0_init_15 : decode cX0_init 15 = .ok (.newarray .int, 2) := by decide +kernel
theorem dX0_init_17 : decode cX0_init 17 = .ok (.putfield 15, 3) := by decide +kernel
theorem dX0_init_20 : decode cX0_init 20 = .ok (.return_, 1) := by decide +kernel
theorem dX0_fewestTaken_0 : decode cX0_fewestTaken 0 = .ok (.aload_n 1, 1) := by decide +kernel
theorem dX0_fewestTaken_1 : decode cX0_fewestTaken 1 = .ok (.getfield 18, 3) := by decide +kernel
theorem dX0_fewestTaken_4 : decode cX0_fewestTaken 4 = .ok (.iload_n 3, 1) := by decide +kernel
theorem dX0_fewestTaken_5 : decode cX0_fewestTaken 5 = .ok (.invokevirtual 24, 3) := by decide +kernel
theorem dX0_fewestTaken_8 : decode cX0_fewestTaken 8 = .ok (.ifCond .ne 6, 3) := by decide +kernel
theorem dX0_fewestTaken_11 : decode cX0_fewestTaken 11 = .ok (.bipush (-5), 2) := by decide +kernel
theorem dX0_fewestTaken_13 : decode cX0_fewestTaken 13 = .ok (.ireturn, 1) := by decide +kernel
theorem dX0_fewestTaken_14 : decode cX0_fewestTaken 14 = .ok (.aload_n 0, 1) := by decide +kernel
theorem dX0_fewestTaken_15 : decode cX0_fewestTaken 15 = .ok (.aload_n 1, 1) := by decide +kernel
theorem dX0_fewestTaken_16 : decode cX0_fewestTaken 16 = .ok (.getfield 18, 3) := by decide +kernel
theorem dX0_fewestTaken_19 : decode cX0_fewestTaken 19 = .ok (.getfield 30, 3) := by decide +kernel
theorem dX0_fewestTaken_22 : decode cX0_fewestTaken 22 = .ok (.iload_n 3, 1) := by decide +kernel
theorem dX0_fewestTaken_23 : decode cX0_fewestTaken 23 = .ok (.iaload, 1) := by decide +kernel
theorem dX0_fewestTaken_24 : decode cX0_fewestTaken 24 = .ok (.putfield 33, 3) := by decide +kernel
theorem dX0_fewestTaken_27 : decode cX0_fewestTaken 27 = .ok (.aload_n 0, 1) := by decide +kernel
theorem dX0_fewestTaken_28 : decode cX0_fewestTaken 28 = .ok (.bipush 40, 2) := by decide +kernel
theorem dX0_fewestTaken_30 : decode cX0_fewestTaken 30 = .ok (.aload_n 1, 1) := by decide +kernel
theorem dX0_fewestTaken_31 : decode cX0_fewestTaken 31 = .ok (.getfield 37, 3) := by decide +kernel
theorem dX0_fewestTaken_34 : decode cX0_fewestTaken 34 = .ok (.getfield 41, 3) := by decide +kernel
theorem dX0_fewestTaken_37 : decode cX0_fewestTaken 37 = .ok (.isub, 1) := by decide +kernel
theorem dX0_fewestTaken_38 : decode cX0_fewestTaken 38 = .ok (.putfield 46, 3) := by decide +kernel
theorem dX0_fewestTaken_41 : decode cX0_fewestTaken 41 = .ok (.aload_n 0, 1) := by decide +kernel
theorem dX0_fewestTaken_42 : decode cX0_fewestTaken 42 = .ok (.iconst 0, 1) := by decide +kernel
theorem dX0_fewestTaken_43 : decode cX0_fewestTaken 43 = .ok (.putfield 49, 3) := by decide +kernel
theorem dX0_fewestTaken_46 : decode cX0_fewestTaken 46 = .ok (.iconst 0, 1) := by decide +kernel
theorem dX0_fewestTaken_47 : decode cX0_fewestTaken 47 = .ok (.istore 4, 2) := by decide +kernel
theorem dX0_fewestTaken_49 : decode cX0_fewestTaken 49 = .ok (.iload 4, 2) := by decide +kernel
theorem dX0_fewestTaken_51 : decode cX0_fewestTaken 51 = .ok (.bipush 12, 2) := by decide +kernel
theorem dX0_fewestTaken_53 : decode cX0_fewestTaken 53 = .ok (.if_icmp .ge 99, 3) := by decide +kernel
theorem dX0_fewestTaken_56 : decode cX0_fewestTaken 56 = .ok (.aload_n 0, 1) := by decide +kernel
theorem dX0_fewestTaken_57 : decode cX0_fewestTaken 57 = .ok (.dup, 1) := by decide +kernel
theorem dX0_fewestTaken_58 : decode cX0_fewestTaken 58 = .ok (.getfield 49, 3) := by decide +kernel
theorem dX0_fewestTaken_61 : decode cX0_fewestTaken 61 = .ok (.aload_n 1, 1) := by decide +kernel
theorem dX0_fewestTaken_62 : decode cX0_fewestTaken 62 = .ok (.getfield 18, 3) := by decide +kernel
theorem dX0_fewestTaken_65 : decode cX0_fewestTaken 65 = .ok (.getfield 52, 3) := by decide +kernel
theorem dX0_fewestTaken_68 : decode cX0_fewestTaken 68 = .ok (.iload 4, 2) := by decide +kernel
theorem dX0_fewestTaken_70 : decode cX0_fewestTaken 70 = .ok (.iaload, 1) := by decide +kernel
theorem dX0_fewestTaken_71 : decode cX0_fewestTaken 71 = .ok (.ifCond .le 10, 3) := by decide +kernel
theorem dX0_fewestTaken_74 : decode cX0_fewestTaken 74 = .ok (.iconst 1, 1) := by decide +kernel
theorem dX0_fewestTaken_75 : decode cX0_fewestTaken 75 = .ok (.iload 4, 2) := by decide +kernel
theorem dX0_fewestTaken_77 : decode cX0_fewestTaken 77 = .ok (.ishl, 1) := by decide +kernel
theorem dX0_fewestTaken_78 : decode cX0_fewestTaken 78 = .ok (.goto 4, 3) := by decide +kernel
theorem dX0_fewestTaken_81 : decode cX0_fewestTaken 81 = .ok (.iconst 0, 1) := by decide +kernel
theorem dX0_fewestTaken_82 : decode cX0_fewestTaken 82 = .ok (.ior, 1) := by decide +kernel
theorem dX0_fewestTaken_83 : decode cX0_fewestTaken 83 = .ok (.putfield 49, 3) := by decide +kernel
theorem dX0_fewestTaken_86 : decode cX0_fewestTaken 86 = .ok (.iconst 0, 1) := by decide +kernel
theorem dX0_fewestTaken_87 : decode cX0_fewestTaken 87 = .ok (.istore 5, 2) := by decide +kernel
theorem dX0_fewestTaken_89 : decode cX0_fewestTaken 89 = .ok (.iload 5, 2) := by decide +kernel
theorem dX0_fewestTaken_91 : decode cX0_fewestTaken 91 = .ok (.bipush 9, 2) := by decide +kernel
theorem dX0_fewestTaken_93 : decode cX0_fewestTaken 93 = .ok (.if_icmp .ge 53, 3) := by decide +kernel
theorem dX0_fewestTaken_96 : decode cX0_fewestTaken 96 = .ok (.aload_n 0, 1) := by decide +kernel
theorem dX0_fewestTaken_97 : decode cX0_fewestTaken 97 = .ok (.getfield 9, 3) := by decide +kernel
theorem dX0_fewestTaken_100 : decode cX0_fewestTaken 100 = .ok (.iload 4, 2) := by decide +kernel
theorem dX0_fewestTaken_102 : decode cX0_fewestTaken 102 = .ok (.bipush 9, 2) := by decide +kernel
theorem dX0_fewestTaken_104 : decode cX0_fewestTaken 104 = .ok (.imul, 1) := by decide +kernel
theorem dX0_fewestTaken_105 : decode cX0_fewestTaken 105 = .ok (.iload 5, 2) := by decide +kernel
theorem dX0_fewestTaken_107 : decode cX0_fewestTaken 107 = .ok (.iadd, 1) := by decide +kernel
theorem dX0_fewestTaken_108 : decode cX0_fewestTaken 108 = .ok (.aload_n 1, 1) := by decide +kernel
theorem dX0_fewestTaken_109 : decode cX0_fewestTaken 109 = .ok (.iload_n 3, 1) := by decide +kernel
theorem dX0_fewestTaken_110 : decode cX0_fewestTaken 110 = .ok (.iload 4, 2) := by decide +kernel
theorem dX0_fewestTaken_112 : decode cX0_fewestTaken 112 = .ok (.iload 5, 2) := by decide +kernel
theorem dX0_fewestTaken_114 : decode cX0_fewestTaken 114 = .ok (.invokevirtual 55, 3) := by decide +kernel
theorem dX0_fewestTaken_117 : decode cX0_fewestTaken 117 = .ok (.iastore, 1) := by decide +kernel
theorem dX0_fewestTaken_118 : decode cX0_fewestTaken 118 = .ok (.aload_n 0, 1) := by decide +kernel
theorem dX0_fewestTaken_119 : decode cX0_fewestTaken 119 = .ok (.getfield 15, 3) := by decide +kernel
theorem dX0_fewestTaken_122 : decode cX0_fewestTaken 122 = .ok (.iload 4, 2) := by decide +kernel
theorem dX0_fewestTaken_124 : decode cX0_fewestTaken 124 = .ok (.bipush 9, 2) := by decide +kernel
theorem dX0_fewestTaken_126 : decode cX0_fewestTaken 126 = .ok (.imul, 1) := by decide +kernel
theorem dX0_fewestTaken_127 : decode cX0_fewestTaken 127 = .ok (.iload 5, 2) := by decide +kernel
theorem dX0_fewestTaken_129 : decode cX0_fewestTaken 129 = .ok (.iadd, 1) := by decide +kernel
theorem dX0_fewestTaken_130 : decode cX0_fewestTaken 130 = .ok (.aload_n 2, 1) := by decide +kernel
theorem dX0_fewestTaken_131 : decode cX0_fewestTaken 131 = .ok (.iload_n 3, 1) := by decide +kernel
theorem dX0_fewestTaken_132 : decode cX0_fewestTaken 132 = .ok (.iload 4, 2) := by decide +kernel
theorem dX0_fewestTaken_134 : decode cX0_fewestTaken 134 = .ok (.iload 5, 2) := by decide +kernel
theorem dX0_fewestTaken_136 : decode cX0_fewestTaken 136 = .ok (.invokevirtual 55, 3) := by decide +kernel
theorem dX0_fewestTaken_139 : decode cX0_fewestTaken 139 = .ok (.iastore, 1) := by decide +kernel
theorem dX0_fewestTaken_140 : decode cX0_fewestTaken 140 = .ok (.iinc 5 1, 3) := by decide +kernel
theorem dX0_fewestTaken_143 : decode cX0_fewestTaken 143 = .ok (.goto (-54), 3) := by decide +kernel
theorem dX0_fewestTaken_146 : decode cX0_fewestTaken 146 = .ok (.iinc 4 1, 3) := by decide +kernel
theorem dX0_fewestTaken_149 : decode cX0_fewestTaken 149 = .ok (.goto (-100), 3) := by decide +kernel
theorem dX0_fewestTaken_152 : decode cX0_fewestTaken 152 = .ok (.aload_n 0, 1) := by decide +kernel
theorem dX0_fewestTaken_153 : decode cX0_fewestTaken 153 = .ok (.bipush (-5), 2) := by decide +kernel
theorem dX0_fewestTaken_155 : decode cX0_fewestTaken 155 = .ok (.putfield 59, 3) := by decide +kernel
theorem dX0_fewestTaken_158 : decode cX0_fewestTaken 158 = .ok (.aload_n 0, 1) := by decide +kernel
theorem dX0_fewestTaken_159 : decode cX0_fewestTaken 159 = .ok (.bipush 13, 2) := by decide +kernel
theorem dX0_fewestTaken_161 : decode cX0_fewestTaken 161 = .ok (.putfield 62, 3) := by decide +kernel
theorem dX0_fewestTaken_164 : decode cX0_fewestTaken 164 = .ok (.aload_n 0, 1) := by decide +kernel
theorem dX0_fewestTaken_165 : decode cX0_fewestTaken 165 = .ok (.iconst 0, 1) := by decide +kernel
theorem dX0_fewestTaken_166 : decode cX0_fewestTaken 166 = .ok (.aload_n 0, 1) := by decide +kernel
theorem dX0_fewestTaken_167 : decode cX0_fewestTaken 167 = .ok (.getfield 33, 3) := by decide +kernel
theorem dX0_fewestTaken_170 : decode cX0_fewestTaken 170 = .ok (.iconst 0, 1) := by decide +kernel
theorem dX0_fewestTaken_171 : decode cX0_fewestTaken 171 = .ok (.iconst 0, 1) := by decide +kernel
theorem dX0_fewestTaken_172 : decode cX0_fewestTaken 172 = .ok (.iconst 0, 1) := by decide +kernel
theorem dX0_fewestTaken_173 : decode cX0_fewestTaken 173 = .ok (.invokevirtual 65, 3) := by decide +kernel
theorem dX0_fewestTaken_176 : decode cX0_fewestTaken 176 = .ok (.aload_n 0, 1) := by decide +kernel
theorem dX0_fewestTaken_177 : decode cX0_fewestTaken 177 = .ok (.getfield 59, 3) := by decide +kernel
theorem dX0_fewestTaken_180 : decode cX0_fewestTaken 180 = .ok (.ireturn, 1) := by decide +kernel
theorem dX0_search_0 : decode cX0_search 0 = .ok (.iload 4, 2) := by decide +kernel
theorem dX0_search_2 : decode cX0_search 2 = .ok (.aload_n 0, 1) := by decide +kernel
theorem dX0_search_3 : decode cX0_search 3 = .ok (.getfield 46, 3) := by decide +kernel
theorem dX0_search_6 : decode cX0_search 6 = .ok (.if_icmp .gt 22, 3) := by decide +kernel
theorem dX0_search_9 : decode cX0_search 9 = .ok (.iload 5, 2) := by decide +kernel
theorem dX0_search_11 : decode cX0_search 11 = .ok (.invokestatic 69, 3) := by decide +kernel
theorem dX0_search_14 : decode cX0_search 14 = .ok (.aload_n 0, 1) := by decide +kernel
theorem dX0_search_15 : decode cX0_search 15 = .ok (.getfield 62, 3) := by decide +kernel
theorem dX0_search_18 : decode cX0_search 18 = .ok (.if_icmp .gt 10, 3) := by decide +kernel
theorem dX0_search_21 : decode cX0_search 21 = .ok (.iload_n 2, 1) := by decide +kernel
theorem dX0_search_22 : decode cX0_search 22 = .ok (.invokestatic 75, 3) := by decide +kernel
theorem dX0_search_25 : decode cX0_search 25 = .ok (.ifCond .ne 4, 3) := by decide +kernel
theorem dX0_search_28 : decode cX0_search 28 = .ok (.return_, 1) := by decide +kernel
theorem dX0_search_29 : decode cX0_search 29 = .ok (.iload_n 1, 1) := by decide +kernel
theorem dX0_search_30 : decode cX0_search 30 = .ok (.bipush 12, 2) := by decide +kernel
theorem dX0_search_32 : decode cX0_search 32 = .ok (.if_icmp .lt 22, 3) := by decide +kernel
theorem dX0_search_35 : decode cX0_search 35 = .ok (.aload_n 0, 1) := by decide +kernel
theorem dX0_search_36 : decode cX0_search 36 = .ok (.iload 4, 2) := by decide +kernel
theorem dX0_search_38 : decode cX0_search 38 = .ok (.iload_n 2, 1) := by decide +kernel
theorem dX0_search_39 : decode cX0_search 39 = .ok (.aload_n 0, 1) := by decide +kernel
theorem dX0_search_40 : decode cX0_search 40 = .ok (.getfield 33, 3) := by decide +kernel
theorem dX0_search_43 : decode cX0_search 43 = .ok (.isub, 1) := by decide +kernel
theorem dX0_search_44 : decode cX0_search 44 = .ok (.invokestatic 78, 3) := by decide +kernel
theorem dX0_search_47 : decode cX0_search 47 = .ok (.iadd, 1) := by decide +kernel
theorem dX0_search_48 : decode cX0_search 48 = .ok (.iload 5, 2) := by decide +kernel
theorem dX0_search_50 : decode cX0_search 50 = .ok (.invokevirtual 83, 3) := by decide +kernel
theorem dX0_search_53 : decode cX0_search 53 = .ok (.return_, 1) := by decide +kernel
theorem dX0_search_54 : decode cX0_search 54 = .ok (.aload_n 0, 1) := by decide +kernel
theorem dX0_search_55 : decode cX0_search 55 = .ok (.getfield 9, 3) := by decide +kernel
theorem dX0_search_58 : decode cX0_search 58 = .ok (.iload_n 1, 1) := by decide +kernel
theorem dX0_search_59 : decode cX0_search 59 = .ok (.bipush 9, 2) := by decide +kernel
theorem dX0_search_61 : decode cX0_search 61 = .ok (.imul, 1) := by decide +kernel
theorem dX0_search_62 : decode cX0_search 62 = .ok (.iload_n 2, 1) := by decide +kernel
theorem dX0_search_63 : decode cX0_search 63 = .ok (.iadd, 1) := by decide +kernel
theorem dX0_search_64 : decode cX0_search 64 = .ok (.iaload, 1) := by decide +kernel
theorem dX0_search_65 : decode cX0_search 65 = .ok (.istore 6, 2) := by decide +kernel
theorem dX0_search_67 : decode cX0_search 67 = .ok (.aload_n 0, 1) := by decide +kernel
theorem dX0_search_68 : decode cX0_search 68 = .ok (.iload_n 1, 1) := by decide +kernel
theorem dX0_search_69 : decode cX0_search 69 = .ok (.iconst 1, 1) := by decide +kernel
theorem dX0_search_70 : decode cX0_search 70 = .ok (.iadd, 1) := by decide +kernel
theorem dX0_search_71 : decode cX0_search 71 = .ok (.iload_n 2, 1) := by decide +kernel
theorem dX0_search_72 : decode cX0_search 72 = .ok (.iload 6, 2) := by decide +kernel
theorem dX0_search_74 : decode cX0_search 74 = .ok (.iadd, 1) := by decide +kernel
theorem dX0_search_75 : decode cX0_search 75 = .ok (.iload 6, 2) := by decide +kernel
theorem dX0_search_77 : decode cX0_search 77 = .ok (.iload_n 3, 1) := by decide +kernel
theorem dX0_search_78 : decode cX0_search 78 = .ok (.invokestatic 87, 3) := by decide +kernel
theorem dX0_search_81 : decode cX0_search 81 = .ok (.iload 4, 2) := by decide +kernel
theorem dX0_search_83 : decode cX0_search 83 = .ok (.iload 6, 2) := by decide +kernel
theorem dX0_search_85 : decode cX0_search 85 = .ok (.iload_n 3, 1) := by decide +kernel
theorem dX0_search_86 : decode cX0_search 86 = .ok (.invokestatic 91, 3) := by decide +kernel
theorem dX0_search_89 : decode cX0_search 89 = .ok (.iadd, 1) := by decide +kernel
theorem dX0_search_90 : decode cX0_search 90 = .ok (.iload 5, 2) := by decide +kernel
theorem dX0_search_92 : decode cX0_search 92 = .ok (.invokevirtual 65, 3) := by decide +kernel
theorem dX0_search_95 : decode cX0_search 95 = .ok (.aload_n 0, 1) := by decide +kernel
theorem dX0_search_96 : decode cX0_search 96 = .ok (.getfield 49, 3) := by decide +kernel
theorem dX0_search_99 : decode cX0_search 99 = .ok (.iload_n 1, 1) := by decide +kernel
theorem dX0_search_100 : decode cX0_search 100 = .ok (.invokestatic 94, 3) := by decide +kernel
theorem dX0_search_103 : decode cX0_search 103 = .ok (.iconst 1, 1) := by decide +kernel
theorem dX0_search_104 : decode cX0_search 104 = .ok (.if_icmp .ne 48, 3) := by decide +kernel
theorem dX0_search_107 : decode cX0_search 107 = .ok (.aload_n 0, 1) := by decide +kernel
theorem dX0_search_108 : decode cX0_search 108 = .ok (.getfield 15, 3) := by decide +kernel
theorem dX0_search_111 : decode cX0_search 111 = .ok (.iload_n 1, 1) := by decide +kernel
theorem dX0_search_112 : decode cX0_search 112 = .ok (.bipush 9, 2) := by decide +kernel
theorem dX0_search_114 : decode cX0_search 114 = .ok (.imul, 1) := by decide +kernel
theorem dX0_search_115 : decode cX0_search 115 = .ok (.iload_n 2, 1) := by decide +kernel
theorem dX0_search_116 : decode cX0_search 116 = .ok (.iadd, 1) := by decide +kernel
theorem dX0_search_117 : decode cX0_search 117 = .ok (.iaload, 1) := by decide +kernel
theorem dX0_search_118 : decode cX0_search 118 = .ok (.istore 6, 2) := by decide +kernel
theorem dX0_search_120 : decode cX0_search 120 = .ok (.aload_n 0, 1) := by decide +kernel
theorem dX0_search_121 : decode cX0_search 121 = .ok (.iload_n 1, 1) := by decide +kernel
theorem dX0_search_122 : decode cX0_search 122 = .ok (.iconst 1, 1) := by decide +kernel
theorem dX0_search_123 : decode cX0_search 123 = .ok (.iadd, 1) := by decide +kernel
theorem dX0_search_124 : decode cX0_search 124 = .ok (.iload_n 2, 1) := by decide +kernel
theorem dX0_search_125 : decode cX0_search 125 = .ok (.iload 6, 2) := by decide +kernel
theorem dX0_search_127 : decode cX0_search 127 = .ok (.iadd, 1) := by decide +kernel
theorem dX0_search_128 : decode cX0_search 128 = .ok (.iload 6, 2) := by decide +kernel
theorem dX0_search_130 : decode cX0_search 130 = .ok (.iload_n 3, 1) := by decide +kernel
theorem dX0_search_131 : decode cX0_search 131 = .ok (.invokestatic 87, 3) := by decide +kernel
theorem dX0_search_134 : decode cX0_search 134 = .ok (.iload 4, 2) := by decide +kernel
theorem dX0_search_136 : decode cX0_search 136 = .ok (.iload 6, 2) := by decide +kernel
theorem dX0_search_138 : decode cX0_search 138 = .ok (.iload_n 3, 1) := by decide +kernel
theorem dX0_search_139 : decode cX0_search 139 = .ok (.invokestatic 91, 3) := by decide +kernel
theorem dX0_search_142 : decode cX0_search 142 = .ok (.iadd, 1) := by decide +kernel
theorem dX0_search_143 : decode cX0_search 143 = .ok (.iload 5, 2) := by decide +kernel
theorem dX0_search_145 : decode cX0_search 145 = .ok (.iconst 1, 1) := by decide +kernel
theorem dX0_search_146 : decode cX0_search 146 = .ok (.iload_n 1, 1) := by decide +kernel
theorem dX0_search_147 : decode cX0_search 147 = .ok (.ishl, 1) := by decide +kernel
theorem dX0_search_148 : decode cX0_search 148 = .ok (.ior, 1) := by decide +kernel
theorem dX0_search_149 : decode cX0_search 149 = .ok (.invokevirtual 65, 3) := by decide +kernel
theorem dX0_search_152 : decode cX0_search 152 = .ok (.return_, 1) := by decide +kernel
theorem dX0_keeps_0 : decode cX0_keeps 0 = .ok (.iload_n 2, 1) := by decide +kernel
theorem dX0_keeps_1 : decode cX0_keeps 1 = .ok (.invokestatic 69, 3) := by decide +kernel
theorem dX0_keeps_4 : decode cX0_keeps 4 = .ok (.istore_n 3, 1) := by decide +kernel
theorem dX0_keeps_5 : decode cX0_keeps 5 = .ok (.iload_n 3, 1) := by decide +kernel
theorem dX0_keeps_6 : decode cX0_keeps 6 = .ok (.aload_n 0, 1) := by decide +kernel
theorem dX0_keeps_7 : decode cX0_keeps 7 = .ok (.getfield 62, 3) := by decide +kernel
theorem dX0_keeps_10 : decode cX0_keeps 10 = .ok (.if_icmp .lt 19, 3) := by decide +kernel
theorem dX0_keeps_13 : decode cX0_keeps 13 = .ok (.iload_n 3, 1) := by decide +kernel
theorem dX0_keeps_14 : decode cX0_keeps 14 = .ok (.aload_n 0, 1) := by decide +kernel
theorem dX0_keeps_15 : decode cX0_keeps 15 = .ok (.getfield 62, 3) := by decide +kernel
theorem dX0_keeps_18 : decode cX0_keeps 18 = .ok (.if_icmp .ne 15, 3) := by decide +kernel
theorem dX0_keeps_21 : decode cX0_keeps 21 = .ok (.iload_n 2, 1) := by decide +kernel
theorem dX0_keeps_22 : decode cX0_keeps 22 = .ok (.aload_n 0, 1) := by decide +kernel
theorem dX0_keeps_23 : decode cX0_keeps 23 = .ok (.getfield 59, 3) := by decide +kernel
theorem dX0_keeps_26 : decode cX0_keeps 26 = .ok (.if_icmp .ge 7, 3) := by decide +kernel
theorem dX0_keeps_29 : decode cX0_keeps 29 = .ok (.iconst 1, 1) := by decide +kernel
theorem dX0_keeps_30 : decode cX0_keeps 30 = .ok (.goto 4, 3) := by decide +kernel
theorem dX0_keeps_33 : decode cX0_keeps 33 = .ok (.iconst 0, 1) := by decide +kernel
theorem dX0_keeps_34 : decode cX0_keeps 34 = .ok (.istore 4, 2) := by decide +kernel
theorem dX0_keeps_36 : decode cX0_keeps 36 = .ok (.iload_n 1, 1) := by decide +kernel
theorem dX0_keeps_37 : decode cX0_keeps 37 = .ok (.aload_n 0, 1) := by decide +kernel
theorem dX0_keeps_38 : decode cX0_keeps 38 = .ok (.getfield 46, 3) := by decide +kernel
theorem dX0_keeps_41 : decode cX0_keeps 41 = .ok (.if_icmp .gt 18, 3) := by decide +kernel
theorem dX0_keeps_44 : decode cX0_keeps 44 = .ok (.iload 4, 2) := by decide +kernel
theorem dX0_keeps_46 : decode cX0_keeps 46 = .ok (.ifCond .eq 13, 3) := by decide +kernel
theorem dX0_keeps_49 : decode cX0_keeps 49 = .ok (.aload_n 0, 1) := by decide +kernel
theorem dX0_keeps_50 : decode cX0_keeps 50 = .ok (.iload_n 2, 1) := by decide +kernel
theorem dX0_keeps_51 : decode cX0_keeps 51 = .ok (.putfield 59, 3) := by decide +kernel
theorem dX0_keeps_54 : decode cX0_keeps 54 = .ok (.aload_n 0, 1) := by decide +kernel
theorem dX0_keeps_55 : decode cX0_keeps 55 = .ok (.iload_n 3, 1) := by decide +kernel
theorem dX0_keeps_56 : decode cX0_keeps 56 = .ok (.putfield 62, 3) := by decide +kernel
theorem dX0_keeps_59 : decode cX0_keeps 59 = .ok (.return_, 1) := by decide +kernel
theorem dX0_latestOf_0 : decode cX0_latestOf 0 = .ok (.iload_n 0, 1) := by decide +kernel
theorem dX0_latestOf_1 : decode cX0_latestOf 1 = .ok (.ifCond .ne 7, 3) := by decide +kernel
theorem dX0_latestOf_4 : decode cX0_latestOf 4 = .ok (.iload_n 1, 1) := by decide +kernel
theorem dX0_latestOf_5 : decode cX0_latestOf 5 = .ok (.goto 4, 3) := by decide +kernel
theorem dX0_latestOf_8 : decode cX0_latestOf 8 = .ok (.iload_n 0, 1) := by decide +kernel
theorem dX0_latestOf_9 : decode cX0_latestOf 9 = .ok (.ireturn, 1) := by decide +kernel
theorem dX0_lossOf_0 : decode cX0_lossOf 0 = .ok (.iload_n 0, 1) := by decide +kernel
theorem dX0_lossOf_1 : decode cX0_lossOf 1 = .ok (.ifCond .ne 5, 3) := by decide +kernel
theorem dX0_lossOf_4 : decode cX0_lossOf 4 = .ok (.iconst 0, 1) := by decide +kernel
theorem dX0_lossOf_5 : decode cX0_lossOf 5 = .ok (.ireturn, 1) := by decide +kernel
theorem dX0_lossOf_6 : decode cX0_lossOf 6 = .ok (.iload_n 0, 1) := by decide +kernel
theorem dX0_lossOf_7 : decode cX0_lossOf 7 = .ok (.iload_n 1, 1) := by decide +kernel
theorem dX0_lossOf_8 : decode cX0_lossOf 8 = .ok (.iadd, 1) := by decide +kernel
theorem dX0_lossOf_9 : decode cX0_lossOf 9 = .ok (.ifCond .ne 7, 3) := by decide +kernel
theorem dX0_lossOf_12 : decode cX0_lossOf 12 = .ok (.iconst 3, 1) := by decide +kernel
theorem dX0_lossOf_13 : decode cX0_lossOf 13 = .ok (.goto 4, 3) := by decide +kernel
theorem dX0_lossOf_16 : decode cX0_lossOf 16 = .ok (.iconst 1, 1) := by decide +kernel
theorem dX0_lossOf_17 : decode cX0_lossOf 17 = .ok (.ireturn, 1) := by decide +kernel
theorem dX1_init_0 : decode cX1_init 0 = .ok (.aload_n 0, 1) := by decide +kernel
theorem dX1_init_1 : decode cX1_init 1 = .ok (.invokespecial 3, 3) := by decide +kernel
theorem dX1_init_4 : decode cX1_init 4 = .ok (.aload_n 0, 1) := by decide +kernel
theorem dX1_init_5 : decode cX1_init 5 = .ok (.bipush 20, 2) := by decide +kernel
theorem dX1_init_7 : decode cX1_init 7 = .ok (.newarray .int, 2) := by decide +kernel
theorem dX1_init_9 : decode cX1_init 9 = .ok (.putfield 9, 3) := by decide +kernel
theorem dX1_init_12 : decode cX1_init 12 = .ok (.return_, 1) := by decide +kernel
theorem dX1_forgets_0 : decode cX1_forgets 0 = .ok (.aload_n 0, 1) := by decide +kernel
theorem dX1_forgets_1 : decode cX1_forgets 1 = .ok (.iconst 0, 1) := by decide +kernel
theorem dX1_forgets_2 : decode cX1_forgets 2 = .ok (.putfield 15, 3) := by decide +kernel
theorem dX1_forgets_5 : decode cX1_forgets 5 = .ok (.return_, 1) := by decide +kernel
theorem dX1_bodyAt_0 : decode cX1_bodyAt 0 = .ok (.iload_n 1, 1) := by decide +kernel
theorem dX1_bodyAt_1 : decode cX1_bodyAt 1 = .ok (.ifCond .lt 26, 3) := by decide +kernel
theorem dX1_bodyAt_4 : decode cX1_bodyAt 4 = .ok (.iload_n 1, 1) := by decide +kernel
theorem dX1_bodyAt_5 : decode cX1_bodyAt 5 = .ok (.aload_n 0, 1) := by decide +kernel
theorem dX1_bodyAt_6 : decode cX1_bodyAt 6 = .ok (.getfield 15, 3) := by decide +kernel
theorem dX1_bodyAt_9 : decode cX1_bodyAt 9 = .ok (.if_icmp .ge 18, 3) := by decide +kernel
theorem dX1_bodyAt_12 : decode cX1_bodyAt 12 = .ok (.iload_n 1, 1) := by decide +kernel
theorem dX1_bodyAt_13 : decode cX1_bodyAt 13 = .ok (.bipush 20, 2) := by decide +kernel
theorem dX1_bodyAt_15 : decode cX1_bodyAt 15 = .ok (.if_icmp .ge 12, 3) := by decide +kernel
theorem dX1_bodyAt_18 : decode cX1_bodyAt 18 = .ok (.aload_n 0, 1) := by decide +kernel
theorem dX1_bodyAt_19 : decode cX1_bodyAt 19 = .ok (.getfield 9, 3) := by decide +kernel
theorem dX1_bodyAt_22 : decode cX1_bodyAt 22 = .ok (.iload_n 1, 1) := by decide +kernel
theorem dX1_bodyAt_23 : decode cX1_bodyAt 23 = .ok (.iaload, 1) := by decide +kernel
theorem dX1_bodyAt_24 : decode cX1_bodyAt 24 = .ok (.goto 4, 3) := by decide +kernel
theorem dX1_bodyAt_27 : decode cX1_bodyAt 27 = .ok (.iconst (-1), 1) := by decide +kernel
theorem dX1_bodyAt_28 : decode cX1_bodyAt 28 = .ok (.ireturn, 1) := by decide +kernel
theorem dX1_acts_0 : decode cX1_acts 0 = .ok (.aload_n 0, 1) := by decide +kernel
theorem dX1_acts_1 : decode cX1_acts 1 = .ok (.iconst 0, 1) := by decide +kernel
theorem dX1_acts_2 : decode cX1_acts 2 = .ok (.putfield 15, 3) := by decide +kernel
theorem dX1_acts_5 : decode cX1_acts 5 = .ok (.aload_n 1, 1) := by decide +kernel
theorem dX1_acts_6 : decode cX1_acts 6 = .ok (.iload_n 2, 1) := by decide +kernel
theorem dX1_acts_7 : decode cX1_acts 7 = .ok (.invokevirtual 19, 3) := by decide +kernel
theorem dX1_acts_10 : decode cX1_acts 10 = .ok (.ifCond .eq 12, 3) := by decide +kernel
theorem dX1_acts_13 : decode cX1_acts 13 = .ok (.iload_n 3, 1) := by decide +kernel
theorem dX1_acts_14 : decode cX1_acts 14 = .ok (.ifCond .lt 8, 3) := by decide +kernel
theorem dX1_acts_17 : decode cX1_acts 17 = .ok (.iload_n 3, 1) := by decide +kernel
theorem dX1_acts_18 : decode cX1_acts 18 = .ok (.iconst 3, 1) := by decide +kernel
theorem dX1_acts_19 : decode cX1_acts 19 = .ok (.if_icmp .lt 5, 3) := by decide +kernel
theorem dX1_acts_22 : decode cX1_acts 22 = .ok (.iconst 0, 1) := by decide +kernel
theorem dX1_acts_23 : decode cX1_acts 23 = .ok (.ireturn, 1) := by decide +kernel
theorem dX1_acts_24 : decode cX1_acts 24 = .ok (.aload_n 0, 1) := by decide +kernel
theorem dX1_acts_25 : decode cX1_acts 25 = .ok (.iload_n 2, 1) := by decide +kernel
theorem dX1_acts_26 : decode cX1_acts 26 = .ok (.putfield 25, 3) := by decide +kernel
theorem dX1_acts_29 : decode cX1_acts 29 = .ok (.aload_n 0, 1) := by decide +kernel
theorem dX1_acts_30 : decode cX1_acts 30 = .ok (.aload_n 1, 1) := by decide +kernel
theorem dX1_acts_31 : decode cX1_acts 31 = .ok (.getfield 28, 3) := by decide +kernel
theorem dX1_acts_34 : decode cX1_acts 34 = .ok (.iload_n 2, 1) := by decide +kernel
theorem dX1_acts_35 : decode cX1_acts 35 = .ok (.iaload, 1) := by decide +kernel
theorem dX1_acts_36 : decode cX1_acts 36 = .ok (.putfield 31, 3) := by decide +kernel
theorem dX1_acts_39 : decode cX1_acts 39 = .ok (.aload_n 0, 1) := by decide +kernel
theorem dX1_acts_40 : decode cX1_acts 40 = .ok (.aload_n 1, 1) := by decide +kernel
theorem dX1_acts_41 : decode cX1_acts 41 = .ok (.getfield 34, 3) := by decide +kernel
theorem dX1_acts_44 : decode cX1_acts 44 = .ok (.iload_n 2, 1) := by decide +kernel
theorem dX1_acts_45 : decode cX1_acts 45 = .ok (.iaload, 1) := by decide +kernel
theorem dX1_acts_46 : decode cX1_acts 46 = .ok (.putfield 37, 3) := by decide +kernel
theorem dX1_acts_49 : decode cX1_acts 49 = .ok (.aload_n 0, 1) := by decide +kernel
theorem dX1_acts_50 : decode cX1_acts 50 = .ok (.aload_n 0, 1) := by decide +kernel
theorem dX1_acts_51 : decode cX1_acts 51 = .ok (.getfield 31, 3) := by decide +kernel
theorem dX1_acts_54 : decode cX1_acts 54 = .ok (.iload_n 3, 1) := by decide +kernel
theorem dX1_acts_55 : decode cX1_acts 55 = .ok (.iload 4, 2) := by decide +kernel
theorem dX1_acts_57 : decode cX1_acts 57 = .ok (.iconst 0, 1) := by decide +kernel
theorem dX1_acts_58 : decode cX1_acts 58 = .ok (.invokevirtual 40, 3) := by decide +kernel
theorem dX1_acts_61 : decode cX1_acts 61 = .ok (.ireturn, 1) := by decide +kernel
theorem dX1_runs_0 : decode cX1_runs 0 = .ok (.iload 4, 2) := by decide +kernel
theorem dX1_runs_2 : decode cX1_runs 2 = .ok (.bipush 20, 2) := by decide +kernel
theorem dX1_runs_4 : decode cX1_runs 4 = .ok (.if_icmp .le 5, 3) := by decide +kernel
theorem dX1_runs_7 : decode cX1_runs 7 = .ok (.iconst 0, 1) := by decide +kernel
theorem dX1_runs_8 : decode cX1_runs 8 = .ok (.ireturn, 1) := by decide +kernel
theorem dX1_runs_9 : decode cX1_runs 9 = .ok (.iload_n 1, 1) := by decide +kernel
theorem dX1_runs_10 : decode cX1_runs 10 = .ok (.iload_n 2, 1) := by decide +kernel
theorem dX1_runs_11 : decode cX1_runs 11 = .ok (.invokestatic 44, 3) := by decide +kernel
theorem dX1_runs_14 : decode cX1_runs 14 = .ok (.istore 5, 2) := by decide +kernel
theorem dX1_runs_16 : decode cX1_runs 16 = .ok (.aload_n 0, 1) := by decide +kernel
theorem dX1_runs_17 : decode cX1_runs 17 = .ok (.iload 5, 2) := by decide +kernel
theorem dX1_runs_19 : decode cX1_runs 19 = .ok (.invokevirtual 48, 3) := by decide +kernel
theorem dX1_runs_22 : decode cX1_runs 22 = .ok (.iload 4, 2) := by decide +kernel
theorem dX1_runs_24 : decode cX1_runs 24 = .ok (.iconst 1, 1) := by decide +kernel
theorem dX1_runs_25 : decode cX1_runs 25 = .ok (.iadd, 1) := by decide +kernel
theorem dX1_runs_26 : decode cX1_runs 26 = .ok (.istore 6, 2) := by decide +kernel
theorem dX1_runs_28 : decode cX1_runs 28 = .ok (.iload 5, 2) := by decide +kernel
theorem dX1_runs_30 : decode cX1_runs 30 = .ok (.lookupswitch 238 #[(1, 82), (2, 89), (3, 107), (11, 122), (21, 138), (31, 153), (41, 170), (51, 199), (61, 218)], 82) := by decide +kernel
theorem dX1_runs_112 : decode cX1_runs 112 = .ok (.iload_n 3, 1) := by decide +kernel
theorem dX1_runs_113 : decode cX1_runs 113 = .ok (.aload_n 0, 1) := by decide +kernel
theorem dX1_runs_114 : decode cX1_runs 114 = .ok (.getfield 25, 3) := by decide +kernel
theorem dX1_runs_117 : decode cX1_runs 117 = .ok (.iadd, 1) := by decide +kernel
theorem dX1_runs_118 : decode cX1_runs 118 = .ok (.ireturn, 1) := by decide +kernel
theorem dX1_runs_119 : decode cX1_runs 119 = .ok (.aload_n 0, 1) := by decide +kernel
theorem dX1_runs_120 : decode cX1_runs 120 = .ok (.aload_n 0, 1) := by decide +kernel
theorem dX1_runs_121 : decode cX1_runs 121 = .ok (.getfield 31, 3) := by decide +kernel
theorem dX1_runs_124 : decode cX1_runs 124 = .ok (.iconst 0, 1) := by decide +kernel
theorem dX1_runs_125 : decode cX1_runs 125 = .ok (.iload_n 3, 1) := by decide +kernel
theorem dX1_runs_126 : decode cX1_runs 126 = .ok (.iload 6, 2) := by decide +kernel
theorem dX1_runs_128 : decode cX1_runs 128 = .ok (.invokevirtual 40, 3) := by decide +kernel
theorem dX1_runs_131 : decode cX1_runs 131 = .ok (.aload_n 0, 1) := by decide +kernel
theorem dX1_runs_132 : decode cX1_runs 132 = .ok (.getfield 37, 3) := by decide +kernel
theorem dX1_runs_135 : decode cX1_runs 135 = .ok (.isub, 1) := by decide +kernel
theorem dX1_runs_136 : decode cX1_runs 136 = .ok (.ireturn, 1) := by decide +kernel
theorem dX1_runs_137 : decode cX1_runs 137 = .ok (.aload_n 0, 1) := by decide +kernel
theorem dX1_runs_138 : decode cX1_runs 138 = .ok (.aload_n 0, 1) := by decide +kernel
theorem dX1_runs_139 : decode cX1_runs 139 = .ok (.getfield 31, 3) := by decide +kernel
theorem dX1_runs_142 : decode cX1_runs 142 = .ok (.iconst 1, 1) := by decide +kernel
theorem dX1_runs_143 : decode cX1_runs 143 = .ok (.iload_n 3, 1) := by decide +kernel
theorem dX1_runs_144 : decode cX1_runs 144 = .ok (.iload 6, 2) := by decide +kernel
theorem dX1_runs_146 : decode cX1_runs 146 = .ok (.invokevirtual 40, 3) := by decide +kernel
theorem dX1_runs_149 : decode cX1_runs 149 = .ok (.iconst 2, 1) := by decide +kernel
theorem dX1_runs_150 : decode cX1_runs 150 = .ok (.imul, 1) := by decide +kernel
theorem dX1_runs_151 : decode cX1_runs 151 = .ok (.ireturn, 1) := by decide +kernel
theorem dX1_runs_152 : decode cX1_runs 152 = .ok (.aload_n 0, 1) := by decide +kernel
theorem dX1_runs_153 : decode cX1_runs 153 = .ok (.getstatic 52, 3) := by decide +kernel
theorem dX1_runs_156 : decode cX1_runs 156 = .ok (.iconst 1, 1) := by decide +kernel
theorem dX1_runs_157 : decode cX1_runs 157 = .ok (.iaload, 1) := by decide +kernel
theorem dX1_runs_158 : decode cX1_runs 158 = .ok (.iconst 0, 1) := by decide +kernel
theorem dX1_runs_159 : decode cX1_runs 159 = .ok (.iload_n 3, 1) := by decide +kernel
theorem dX1_runs_160 : decode cX1_runs 160 = .ok (.iconst 3, 1) := by decide +kernel
theorem dX1_runs_161 : decode cX1_runs 161 = .ok (.imul, 1) := by decide +kernel
theorem dX1_runs_162 : decode cX1_runs 162 = .ok (.iload 6, 2) := by decide +kernel
theorem dX1_runs_164 : decode cX1_runs 164 = .ok (.invokevirtual 40, 3) := by decide +kernel
theorem dX1_runs_167 : decode cX1_runs 167 = .ok (.ireturn, 1) := by decide +kernel
theorem dX1_runs_168 : decode cX1_runs 168 = .ok (.aload_n 0, 1) := by decide +kernel
theorem dX1_runs_169 : decode cX1_runs 169 = .ok (.getstatic 52, 3) := by decide +kernel
theorem dX1_runs_172 : decode cX1_runs 172 = .ok (.iconst 2, 1) := by decide +kernel
theorem dX1_runs_173 : decode cX1_runs 173 = .ok (.iaload, 1) := by decide +kernel
theorem dX1_runs_174 : decode cX1_runs 174 = .ok (.iconst 1, 1) := by decide +kernel
theorem dX1_runs_175 : decode cX1_runs 175 = .ok (.iload_n 3, 1) := by decide +kernel
theorem dX1_runs_176 : decode cX1_runs 176 = .ok (.iload 6, 2) := by decide +kernel
theorem dX1_runs_178 : decode cX1_runs 178 = .ok (.invokevirtual 40, 3) := by decide +kernel
theorem dX1_runs_181 : decode cX1_runs 181 = .ok (.ineg, 1) := by decide +kernel
theorem dX1_runs_182 : decode cX1_runs 182 = .ok (.ireturn, 1) := by decide +kernel
theorem dX1_runs_183 : decode cX1_runs 183 = .ok (.aload_n 0, 1) := by decide +kernel
theorem dX1_runs_184 : decode cX1_runs 184 = .ok (.getstatic 52, 3) := by decide +kernel
theorem dX1_runs_187 : decode cX1_runs 187 = .ok (.iconst 3, 1) := by decide +kernel
theorem dX1_runs_188 : decode cX1_runs 188 = .ok (.iaload, 1) := by decide +kernel
theorem dX1_runs_189 : decode cX1_runs 189 = .ok (.iconst 2, 1) := by decide +kernel
theorem dX1_runs_190 : decode cX1_runs 190 = .ok (.iload_n 3, 1) := by decide +kernel
theorem dX1_runs_191 : decode cX1_runs 191 = .ok (.iload 6, 2) := by decide +kernel
theorem dX1_runs_193 : decode cX1_runs 193 = .ok (.invokevirtual 40, 3) := by decide +kernel
theorem dX1_runs_196 : decode cX1_runs 196 = .ok (.bipush 7, 2) := by decide +kernel
theorem dX1_runs_198 : decode cX1_runs 198 = .ok (.ixor, 1) := by decide +kernel
theorem dX1_runs_199 : decode cX1_runs 199 = .ok (.ireturn, 1) := by decide +kernel
theorem dX1_runs_200 : decode cX1_runs 200 = .ok (.aload_n 0, 1) := by decide +kernel
theorem dX1_runs_201 : decode cX1_runs 201 = .ok (.getstatic 52, 3) := by decide +kernel
theorem dX1_runs_204 : decode cX1_runs 204 = .ok (.iconst 4, 1) := by decide +kernel
theorem dX1_runs_205 : decode cX1_runs 205 = .ok (.iaload, 1) := by decide +kernel
theorem dX1_runs_206 : decode cX1_runs 206 = .ok (.iconst 2, 1) := by decide +kernel
theorem dX1_runs_207 : decode cX1_runs 207 = .ok (.iload_n 3, 1) := by decide +kernel
theorem dX1_runs_208 : decode cX1_runs 208 = .ok (.iconst 1, 1) := by decide +kernel
theorem dX1_runs_209 : decode cX1_runs 209 = .ok (.isub, 1) := by decide +kernel
theorem dX1_runs_210 : decode cX1_runs 210 = .ok (.iload 6, 2) := by decide +kernel
theorem dX1_runs_212 : decode cX1_runs 212 = .ok (.invokevirtual 40, 3) := by decide +kernel
theorem dX1_runs_215 : decode cX1_runs 215 = .ok (.aload_n 0, 1) := by decide +kernel
theorem dX1_runs_216 : decode cX1_runs 216 = .ok (.aload_n 0, 1) := by decide +kernel
theorem dX1_runs_217 : decode cX1_runs 217 = .ok (.getfield 31, 3) := by decide +kernel
theorem dX1_runs_220 : decode cX1_runs 220 = .ok (.iconst 0, 1) := by decide +kernel
theorem dX1_runs_221 : decode cX1_runs 221 = .ok (.iconst 2, 1) := by decide +kernel
theorem dX1_runs_222 : decode cX1_runs 222 = .ok (.iload 6, 2) := by decide +kernel
theorem dX1_runs_224 : decode cX1_runs 224 = .ok (.invokevirtual 40, 3) := by decide +kernel
theorem dX1_runs_227 : decode cX1_runs 227 = .ok (.iadd, 1) := by decide +kernel
theorem dX1_runs_228 : decode cX1_runs 228 = .ok (.ireturn, 1) := by decide +kernel
theorem dX1_runs_229 : decode cX1_runs 229 = .ok (.aload_n 0, 1) := by decide +kernel
theorem dX1_runs_230 : decode cX1_runs 230 = .ok (.getstatic 52, 3) := by decide +kernel
theorem dX1_runs_233 : decode cX1_runs 233 = .ok (.iconst 5, 1) := by decide +kernel
theorem dX1_runs_234 : decode cX1_runs 234 = .ok (.iaload, 1) := by decide +kernel
theorem dX1_runs_235 : decode cX1_runs 235 = .ok (.iconst 0, 1) := by decide +kernel
theorem dX1_runs_236 : decode cX1_runs 236 = .ok (.iload_n 3, 1) := by decide +kernel
theorem dX1_runs_237 : decode cX1_runs 237 = .ok (.iload 6, 2) := by decide +kernel
theorem dX1_runs_239 : decode cX1_runs 239 = .ok (.invokevirtual 40, 3) := by decide +kernel
theorem dX1_runs_242 : decode cX1_runs 242 = .ok (.aload_n 0, 1) := by decide +kernel
theorem dX1_runs_243 : decode cX1_runs 243 = .ok (.getfield 25, 3) := by decide +kernel
theorem dX1_runs_246 : decode cX1_runs 246 = .ok (.ixor, 1) := by decide +kernel
theorem dX1_runs_247 : decode cX1_runs 247 = .ok (.ireturn, 1) := by decide +kernel
theorem dX1_runs_248 : decode cX1_runs 248 = .ok (.aload_n 0, 1) := by decide +kernel
theorem dX1_runs_249 : decode cX1_runs 249 = .ok (.getstatic 52, 3) := by decide +kernel
theorem dX1_runs_252 : decode cX1_runs 252 = .ok (.bipush 6, 2) := by decide +kernel
theorem dX1_runs_254 : decode cX1_runs 254 = .ok (.iaload, 1) := by decide +kernel
theorem dX1_runs_255 : decode cX1_runs 255 = .ok (.iconst 1, 1) := by decide +kernel
theorem dX1_runs_256 : decode cX1_runs 256 = .ok (.iload_n 3, 1) := by decide +kernel
theorem dX1_runs_257 : decode cX1_runs 257 = .ok (.iload 6, 2) := by decide +kernel
theorem dX1_runs_259 : decode cX1_runs 259 = .ok (.invokevirtual 40, 3) := by decide +kernel
theorem dX1_runs_262 : decode cX1_runs 262 = .ok (.aload_n 0, 1) := by decide +kernel
theorem dX1_runs_263 : decode cX1_runs 263 = .ok (.getfield 37, 3) := by decide +kernel
theorem dX1_runs_266 : decode cX1_runs 266 = .ok (.iadd, 1) := by decide +kernel
theorem dX1_runs_267 : decode cX1_runs 267 = .ok (.ireturn, 1) := by decide +kernel
theorem dX1_runs_268 : decode cX1_runs 268 = .ok (.iconst 0, 1) := by decide +kernel
theorem dX1_runs_269 : decode cX1_runs 269 = .ok (.ireturn, 1) := by decide +kernel
theorem dX1_bodyOf_0 : decode cX1_bodyOf 0 = .ok (.iload_n 0, 1) := by decide +kernel
theorem dX1_bodyOf_1 : decode cX1_bodyOf 1 = .ok (.istore_n 2, 1) := by decide +kernel
theorem dX1_bodyOf_2 : decode cX1_bodyOf 2 = .ok (.iconst 0, 1) := by decide +kernel
theorem dX1_bodyOf_3 : decode cX1_bodyOf 3 = .ok (.istore_n 3, 1) := by decide +kernel
theorem dX1_bodyOf_4 : decode cX1_bodyOf 4 = .ok (.iload_n 3, 1) := by decide +kernel
theorem dX1_bodyOf_5 : decode cX1_bodyOf 5 = .ok (.bipush 7, 2) := by decide +kernel
theorem dX1_bodyOf_7 : decode cX1_bodyOf 7 = .ok (.if_icmp .ge 41, 3) := by decide +kernel
theorem dX1_bodyOf_10 : decode cX1_bodyOf 10 = .ok (.iload_n 2, 1) := by decide +kernel
theorem dX1_bodyOf_11 : decode cX1_bodyOf 11 = .ok (.invokestatic 55, 3) := by decide +kernel
theorem dX1_bodyOf_14 : decode cX1_bodyOf 14 = .ok (.ifCond .eq 34, 3) := by decide +kernel
theorem dX1_bodyOf_17 : decode cX1_bodyOf 17 = .ok (.getstatic 58, 3) := by decide +kernel
theorem dX1_bodyOf_20 : decode cX1_bodyOf 20 = .ok (.iload_n 2, 1) := by decide +kernel
theorem dX1_bodyOf_21 : decode cX1_bodyOf 21 = .ok (.iconst 3, 1) := by decide +kernel
theorem dX1_bodyOf_22 : decode cX1_bodyOf 22 = .ok (.imul, 1) := by decide +kernel
theorem dX1_bodyOf_23 : decode cX1_bodyOf 23 = .ok (.iload_n 1, 1) := by decide +kernel
theorem dX1_bodyOf_24 : decode cX1_bodyOf 24 = .ok (.iadd, 1) := by decide +kernel
theorem dX1_bodyOf_25 : decode cX1_bodyOf 25 = .ok (.iaload, 1) := by decide +kernel
theorem dX1_bodyOf_26 : decode cX1_bodyOf 26 = .ok (.istore 4, 2) := by decide +kernel
theorem dX1_bodyOf_28 : decode cX1_bodyOf 28 = .ok (.iload 4, 2) := by decide +kernel
theorem dX1_bodyOf_30 : decode cX1_bodyOf 30 = .ok (.ifCond .eq 6, 3) := by decide +kernel
theorem dX1_bodyOf_33 : decode cX1_bodyOf 33 = .ok (.iload 4, 2) := by decide +kernel
theorem dX1_bodyOf_35 : decode cX1_bodyOf 35 = .ok (.ireturn, 1) := by decide +kernel
theorem dX1_bodyOf_36 : decode cX1_bodyOf 36 = .ok (.getstatic 52, 3) := by decide +kernel
theorem dX1_bodyOf_39 : decode cX1_bodyOf 39 = .ok (.iload_n 2, 1) := by decide +kernel
theorem dX1_bodyOf_40 : decode cX1_bodyOf 40 = .ok (.iaload, 1) := by decide +kernel
theorem dX1_bodyOf_41 : decode cX1_bodyOf 41 = .ok (.istore_n 2, 1) := by decide +kernel
theorem dX1_bodyOf_42 : decode cX1_bodyOf 42 = .ok (.iinc 3 1, 3) := by decide +kernel
theorem dX1_bodyOf_45 : decode cX1_bodyOf 45 = .ok (.goto (-41), 3) := by decide +kernel
theorem dX1_bodyOf_48 : decode cX1_bodyOf 48 = .ok (.iconst 0, 1) := by decide +kernel
theorem dX1_bodyOf_49 : decode cX1_bodyOf 49 = .ok (.ireturn, 1) := by decide +kernel
theorem dX1_begins_0 : decode cX1_begins 0 = .ok (.aload_n 0, 1) := by decide +kernel
theorem dX1_begins_1 : decode cX1_begins 1 = .ok (.getfield 15, 3) := by decide +kernel
theorem dX1_begins_4 : decode cX1_begins 4 = .ok (.ifCond .lt 22, 3) := by decide +kernel
theorem dX1_begins_7 : decode cX1_begins 7 = .ok (.aload_n 0, 1) := by decide +kernel
theorem dX1_begins_8 : decode cX1_begins 8 = .ok (.getfield 15, 3) := by decide +kernel
theorem dX1_begins_11 : decode cX1_begins 11 = .ok (.bipush 20, 2) := by decide +kernel
theorem dX1_begins_13 : decode cX1_begins 13 = .ok (.if_icmp .ge 13, 3) := by decide +kernel
theorem dX1_begins_16 : decode cX1_begins 16 = .ok (.aload_n 0, 1) := by decide +kernel
theorem dX1_begins_17 : decode cX1_begins 17 = .ok (.getfield 9, 3) := by decide +kernel
theorem dX1_begins_20 : decode cX1_begins 20 = .ok (.aload_n 0, 1) := by decide +kernel
theorem dX1_begins_21 : decode cX1_begins 21 = .ok (.getfield 15, 3) := by decide +kernel
theorem dX1_begins_24 : decode cX1_begins 24 = .ok (.iload_n 1, 1) := by decide +kernel
theorem dX1_begins_25 : decode cX1_begins 25 = .ok (.iastore, 1) := by decide +kernel
theorem dX1_begins_26 : decode cX1_begins 26 = .ok (.aload_n 0, 1) := by decide +kernel
theorem dX1_begins_27 : decode cX1_begins 27 = .ok (.dup, 1) := by decide +kernel
theorem dX1_begins_28 : decode cX1_begins 28 = .ok (.getfield 15, 3) := by decide +kernel
theorem dX1_begins_31 : decode cX1_begins 31 = .ok (.iconst 1, 1) := by decide +kernel
theorem dX1_begins_32 : decode cX1_begins 32 = .ok (.iadd, 1) := by decide +kernel
theorem dX1_begins_33 : decode cX1_begins 33 = .ok (.putfield 15, 3) := by decide +kernel
theorem dX1_begins_36 : decode cX1_begins 36 = .ok (.return_, 1) := by decide +kernel
theorem dX2_init_0 : decode cX2_init 0 = .ok (.aload_n 0, 1) := by decide +kernel
theorem dX2_init_1 : decode cX2_init 1 = .ok (.invokespecial 3, 3) := by decide +kernel
theorem dX2_init_4 : decode cX2_init 4 = .ok (.aload_n 0, 1) := by decide +kernel
theorem dX2_init_5 : decode cX2_init 5 = .ok (.bipush 12, 2) := by decide +kernel
theorem dX2_init_7 : decode cX2_init 7 = .ok (.newarray .int, 2) := by decide +kernel
theorem dX2_init_9 : decode cX2_init 9 = .ok (.putfield 9, 3) := by decide +kernel
theorem dX2_init_12 : decode cX2_init 12 = .ok (.aload_n 0, 1) := by decide +kernel
theorem dX2_init_13 : decode cX2_init 13 = .ok (.bipush 6, 2) := by decide +kernel
theorem dX2_init_15 : decode cX2_init 15 = .ok (.newarray .int, 2) := by decide +kernel
theorem dX2_init_17 : decode cX2_init 17 = .ok (.putfield 15, 3) := by decide +kernel
theorem dX2_init_20 : decode cX2_init 20 = .ok (.aload_n 0, 1) := by decide +kernel
theorem dX2_init_21 : decode cX2_init 21 = .ok (.bipush 6, 2) := by decide +kernel
theorem dX2_init_23 : decode cX2_init 23 = .ok (.newarray .int, 2) := by decide +kernel
theorem dX2_init_25 : decode cX2_init 25 = .ok (.putfield 18, 3) := by decide +kernel
theorem dX2_init_28 : decode cX2_init 28 = .ok (.aload_n 0, 1) := by decide +kernel
theorem dX2_init_29 : decode cX2_init 29 = .ok (.bipush 6, 2) := by decide +kernel
theorem dX2_init_31 : decode cX2_init 31 = .ok (.newarray .int, 2) := by decide +kernel
theorem dX2_init_33 : decode cX2_init 33 = .ok (.putfield 21, 3) := by decide +kernel
theorem dX2_init_36 : decode cX2_init 36 = .ok (.aload_n 0, 1) := by decide +kernel
theorem dX2_init_37 : decode cX2_init 37 = .ok (.bipush 6, 2) := by decide +kernel
theorem dX2_init_39 : decode cX2_init 39 = .ok (.newarray .int, 2) := by decide +kernel
theorem dX2_init_41 : decode cX2_init 41 = .ok (.putfield 24, 3) := by decide +kernel
theorem dX2_init_44 : decode cX2_init 44 = .ok (.aload_n 0, 1) := by decide +kernel
theorem dX2_init_45 : decode cX2_init 45 = .ok (.bipush 24, 2) := by decide +kernel
theorem dX2_init_47 : decode cX2_init 47 = .ok (.newarray .int, 2) := by decide +kernel
theorem dX2_init_49 : decode cX2_init 49 = .ok (.putfield 27, 3) := by decide +kernel
theorem dX2_init_52 : decode cX2_init 52 = .ok (.return_, 1) := by decide +kernel
theorem dX2_has_0 : decode cX2_has 0 = .ok (.iload_n 1, 1) := by decide +kernel
theorem dX2_has_1 : decode cX2_has 1 = .ok (.ifCond .lt 21, 3) := by decide +kernel
theorem dX2_has_4 : decode cX2_has 4 = .ok (.iload_n 1, 1) := by decide +kernel
theorem dX2_has_5 : decode cX2_has 5 = .ok (.aload_n 0, 1) := by decide +kernel
theorem dX2_has_6 : decode cX2_has 6 = .ok (.getfield 30, 3) := by decide +kernel
theorem dX2_has_9 : decode cX2_has 9 = .ok (.if_icmp .ge 13, 3) := by decide +kernel
theorem dX2_has_12 : decode cX2_has 12 = .ok (.iload_n 1, 1) := by decide +kernel
theorem dX2_has_13 : decode cX2_has 13 = .ok (.bipush 6, 2) := by decide +kernel
theorem dX2_has_15 : decode cX2_has 15 = .ok (.if_icmp .ge 7, 3) := by decide +kernel
theorem dX2_has_18 : decode cX2_has 18 = .ok (.iconst 1, 1) := by decide +kernel
theorem dX2_has_19 : decode cX2_has 19 = .ok (.goto 4, 3) := by decide +kernel
theorem dX2_has_22 : decode cX2_has 22 = .ok (.iconst 0, 1) := by decide +kernel
theorem dX2_has_23 : decode cX2_has 23 = .ok (.ireturn, 1) := by decide +kernel
theorem dX2_adds_0 : decode cX2_adds 0 = .ok (.aload_n 0, 1) := by decide +kernel
theorem dX2_adds_1 : decode cX2_adds 1 = .ok (.getfield 30, 3) := by decide +kernel
theorem dX2_adds_4 : decode cX2_adds 4 = .ok (.ifCond .lt 12, 3) := by decide +kernel
theorem dX2_adds_7 : decode cX2_adds 7 = .ok (.aload_n 0, 1) := by decide +kernel
theorem dX2_adds_8 : decode cX2_adds 8 = .ok (.getfield 30, 3) := by decide +kernel
theorem dX2_adds_11 : decode cX2_adds 11 = .ok (.bipush 6, 2) := by decide +kernel
theorem dX2_adds_13 : decode cX2_adds 13 = .ok (.if_icmp .lt 6, 3) := by decide +kernel
theorem dX2_adds_16 : decode cX2_adds 16 = .ok (.bipush (-4), 2) := by decide +kernel
theorem dX2_adds_18 : decode cX2_adds 18 = .ok (.ireturn, 1) := by decide +kernel
theorem dX2_adds_19 : decode cX2_adds 19 = .ok (.aload_n 0, 1) := by decide +kernel
theorem dX2_adds_20 : decode cX2_adds 20 = .ok (.getfield 30, 3) := by decide +kernel
theorem dX2_adds_23 : decode cX2_adds 23 = .ok (.istore 4, 2) := by decide +kernel
theorem dX2_adds_25 : decode cX2_adds 25 = .ok (.aload_n 0, 1) := by decide +kernel
theorem dX2_adds_26 : decode cX2_adds 26 = .ok (.getfield 15, 3) := by decide +kernel
theorem dX2_adds_29 : decode cX2_adds 29 = .ok (.iload 4, 2) := by decide +kernel
theorem dX2_adds_31 : decode cX2_adds 31 = .ok (.iload_n 1, 1) := by decide +kernel
theorem dX2_adds_32 : decode cX2_adds 32 = .ok (.iastore, 1) := by decide +kernel
theorem dX2_adds_33 : decode cX2_adds 33 = .ok (.aload_n 0, 1) := by decide +kernel
theorem dX2_adds_34 : decode cX2_adds 34 = .ok (.getfield 18, 3) := by decide +kernel
theorem dX2_adds_37 : decode cX2_adds 37 = .ok (.iload 4, 2) := by decide +kernel
theorem dX2_adds_39 : decode cX2_adds 39 = .ok (.iload_n 2, 1) := by decide +kernel
theorem dX2_adds_40 : decode cX2_adds 40 = .ok (.iastore, 1) := by decide +kernel
theorem dX2_adds_41 : decode cX2_adds 41 = .ok (.aload_n 0, 1) := by decide +kernel
theorem dX2_adds_42 : decode cX2_adds 42 = .ok (.getfield 21, 3) := by decide +kernel
theorem dX2_adds_45 : decode cX2_adds 45 = .ok (.iload 4, 2) := by decide +kernel
theorem dX2_adds_47 : decode cX2_adds 47 = .ok (.iload_n 3, 1) := by decide +kernel
theorem dX2_adds_48 : decode cX2_adds 48 = .ok (.iastore, 1) := by decide +kernel
theorem dX2_adds_49 : decode cX2_adds 49 = .ok (.aload_n 0, 1) := by decide +kernel
theorem dX2_adds_50 : decode cX2_adds 50 = .ok (.dup, 1) := by decide +kernel
theorem dX2_adds_51 : decode cX2_adds 51 = .ok (.getfield 30, 3) := by decide +kernel
theorem dX2_adds_54 : decode cX2_adds 54 = .ok (.iconst 1, 1) := by decide +kernel
theorem dX2_adds_55 : decode cX2_adds 55 = .ok (.iadd, 1) := by decide +kernel
theorem dX2_adds_56 : decode cX2_adds 56 = .ok (.putfield 30, 3) := by decide +kernel
theorem dX2_adds_59 : decode cX2_adds 59 = .ok (.iload 4, 2) := by decide +kernel
theorem dX2_adds_61 : decode cX2_adds 61 = .ok (.ireturn, 1) := by decide +kernel
theorem dX2_goesAway_0 : decode cX2_goesAway 0 = .ok (.aload_n 0, 1) := by decide +kernel
theorem dX2_goesAway_1 : decode cX2_goesAway 1 = .ok (.iload_n 1, 1) := by decide +kernel
theorem dX2_goesAway_2 : decode cX2_goesAway 2 = .ok (.invokevirtual 34, 3) := by decide +kernel
theorem dX2_goesAway_5 : decode cX2_goesAway 5 = .ok (.ifCond .eq 32, 3) := by decide +kernel
theorem dX2_goesAway_8 : decode cX2_goesAway 8 = .ok (.aload_n 0, 1) := by decide +kernel
theorem dX2_goesAway_9 : decode cX2_goesAway 9 = .ok (.iload_n 2, 1) := by decide +kernel
theorem dX2_goesAway_10 : decode cX2_goesAway 10 = .ok (.ifCond .eq 14, 3) := by decide +kernel
theorem dX2_goesAway_13 : decode cX2_goesAway 13 = .ok (.aload_n 0, 1) := by decide +kernel
theorem dX2_goesAway_14 : decode cX2_goesAway 14 = .ok (.getfield 38, 3) := by decide +kernel
theorem dX2_goesAway_17 : decode cX2_goesAway 17 = .ok (.iconst 1, 1) := by decide +kernel
theorem dX2_goesAway_18 : decode cX2_goesAway 18 = .ok (.iload_n 1, 1) := by decide +kernel
theorem dX2_goesAway_19 : decode cX2_goesAway 19 = .ok (.ishl, 1) := by decide +kernel
theorem dX2_goesAway_20 : decode cX2_goesAway 20 = .ok (.ior, 1) := by decide +kernel
theorem dX2_goesAway_21 : decode cX2_goesAway 21 = .ok (.goto 13, 3) := by decide +kernel
theorem dX2_goesAway_24 : decode cX2_goesAway 24 = .ok (.aload_n 0, 1) := by decide +kernel
theorem dX2_goesAway_25 : decode cX2_goesAway 25 = .ok (.getfield 38, 3) := by decide +kernel
theorem dX2_goesAway_28 : decode cX2_goesAway 28 = .ok (.iconst 1, 1) := by decide +kernel
theorem dX2_goesAway_29 : decode cX2_goesAway 29 = .ok (.iload_n 1, 1) := by decide +kernel
theorem dX2_goesAway_30 : decode cX2_goesAway 30 = .ok (.ishl, 1) := by decide +kernel
theorem dX2_goesAway_31 : decode cX2_goesAway 31 = .ok (.iconst (-1), 1) := by decide +kernel
theorem dX2_goesAway_32 : decode cX2_goesAway 32 = .ok (.ixor, 1) := by decide +kernel
theorem dX2_goesAway_33 : decode cX2_goesAway 33 = .ok (.iand, 1) := by decide +kernel
theorem dX2_goesAway_34 : decode cX2_goesAway 34 = .ok (.putfield 38, 3) := by decide +kernel
theorem dX2_goesAway_37 : decode cX2_goesAway 37 = .ok (.return_, 1) := by decide +kernel
theorem dX2_winsOfAll_0 : decode cX2_winsOfAll 0 = .ok (.iconst 0, 1) := by decide +kernel
theorem dX2_winsOfAll_1 : decode cX2_winsOfAll 1 = .ok (.istore_n 1, 1) := by decide +kernel
theorem dX2_winsOfAll_2 : decode cX2_winsOfAll 2 = .ok (.iconst 0, 1) := by decide +kernel
theorem dX2_winsOfAll_3 : decode cX2_winsOfAll 3 = .ok (.istore_n 2, 1) := by decide +kernel
theorem dX2_winsOfAll_4 : decode cX2_winsOfAll 4 = .ok (.iload_n 2, 1) := by decide +kernel
theorem dX2_winsOfAll_5 : decode cX2_winsOfAll 5 = .ok (.aload_n 0, 1) := by decide +kernel
theorem dX2_winsOfAll_6 : decode cX2_winsOfAll 6 = .ok (.getfield 30, 3) := by decide +kernel
theorem dX2_winsOfAll_9 : decode cX2_winsOfAll 9 = .ok (.if_icmp .ge 24, 3) := by decide +kernel
theorem dX2_winsOfAll_12 : decode cX2_winsOfAll 12 = .ok (.iload_n 2, 1) := by decide +kernel
theorem dX2_winsOfAll_13 : decode cX2_winsOfAll 13 = .ok (.bipush 6, 2) := by decide +kernel
theorem dX2_winsOfAll_15 : decode cX2_winsOfAll 15 = .ok (.if_icmp .ge 18, 3) := by decide +kernel
theorem dX2_winsOfAll_18 : decode cX2_winsOfAll 18 = .ok (.iload_n 1, 1) := by decide +kernel
theorem dX2_winsOfAll_19 : decode cX2_winsOfAll 19 = .ok (.aload_n 0, 1) := by decide +kernel
theorem dX2_winsOfAll_20 : decode cX2_winsOfAll 20 = .ok (.getfield 24, 3) := by decide +kernel
theorem dX2_winsOfAll_23 : decode cX2_winsOfAll 23 = .ok (.iload_n 2, 1) := by decide +kernel
theorem dX2_winsOfAll_24 : decode cX2_winsOfAll 24 = .ok (.iaload, 1) := by decide +kernel
theorem dX2_winsOfAll_25 : decode cX2_winsOfAll 25 = .ok (.iadd, 1) := by decide +kernel
theorem dX2_winsOfAll_26 : decode cX2_winsOfAll 26 = .ok (.istore_n 1, 1) := by decide +kernel
theorem dX2_winsOfAll_27 : decode cX2_winsOfAll 27 = .ok (.iinc 2 1, 3) := by decide +kernel
theorem dX2_winsOfAll_30 : decode cX2_winsOfAll 30 = .ok (.goto (-26), 3) := by decide +kernel
theorem dX2_winsOfAll_33 : decode cX2_winsOfAll 33 = .ok (.iload_n 1, 1) := by decide +kernel
theorem dX2_winsOfAll_34 : decode cX2_winsOfAll 34 = .ok (.ireturn, 1) := by decide +kernel
theorem dX2_takes_0 : decode cX2_takes 0 = .ok (.aload_n 0, 1) := by decide +kernel
theorem dX2_takes_1 : decode cX2_takes 1 = .ok (.aload_n 1, 1) := by decide +kernel
theorem dX2_takes_2 : decode cX2_takes 2 = .ok (.getfield 41, 3) := by decide +kernel
theorem dX2_takes_5 : decode cX2_takes 5 = .ok (.putfield 41, 3) := by decide +kernel
theorem dX2_takes_8 : decode cX2_takes 8 = .ok (.aload_n 0, 1) := by decide +kernel
theorem dX2_takes_9 : decode cX2_takes 9 = .ok (.aload_n 1, 1) := by decide +kernel
theorem dX2_takes_10 : decode cX2_takes 10 = .ok (.getfield 30, 3) := by decide +kernel
theorem dX2_takes_13 : decode cX2_takes 13 = .ok (.putfield 30, 3) := by decide +kernel
theorem dX2_takes_16 : decode cX2_takes 16 = .ok (.aload_n 0, 1) := by decide +kernel
theorem dX2_takes_17 : decode cX2_takes 17 = .ok (.aload_n 1, 1) := by decide +kernel
theorem dX2_takes_18 : decode cX2_takes 18 = .ok (.getfield 38, 3) := by decide +kernel
theorem dX2_takes_21 : decode cX2_takes 21 = .ok (.putfield 38, 3) := by decide +kernel
theorem dX2_takes_24 : decode cX2_takes 24 = .ok (.aload_n 0, 1) := by decide +kernel
theorem dX2_takes_25 : decode cX2_takes 25 = .ok (.aload_n 1, 1) := by decide +kernel
theorem dX2_takes_26 : decode cX2_takes 26 = .ok (.getfield 44, 3) := by decide +kernel
theorem dX2_takes_29 : decode cX2_takes 29 = .ok (.putfield 44, 3) := by decide +kernel
theorem dX2_takes_32 : decode cX2_takes 32 = .ok (.aload_n 1, 1) := by decide +kernel
theorem dX2_takes_33 : decode cX2_takes 33 = .ok (.getfield 9, 3) := by decide +kernel
theorem dX2_takes_36 : decode cX2_takes 36 = .ok (.iconst 0, 1) := by decide +kernel
theorem dX2_takes_37 : decode cX2_takes 37 = .ok (.aload_n 0, 1) := by decide +kernel
theorem dX2_takes_38 : decode cX2_takes 38 = .ok (.getfield 9, 3) := by decide +kernel
theorem dX2_takes_41 : decode cX2_takes 41 = .ok (.iconst 0, 1) := by decide +kernel
theorem dX2_takes_42 : decode cX2_takes 42 = .ok (.bipush 12, 2) := by decide +kernel
theorem dX2_takes_44 : decode cX2_takes 44 = .ok (.invokestatic 47, 3) := by decide +kernel
theorem dX2_takes_47 : decode cX2_takes 47 = .ok (.aload_n 1, 1) := by decide +kernel
theorem dX2_takes_48 : decode cX2_takes 48 = .ok (.getfield 15, 3) := by decide +kernel
theorem dX2_takes_51 : decode cX2_takes 51 = .ok (.iconst 0, 1) := by decide +kernel
theorem dX2_takes_52 : decode cX2_takes 52 = .ok (.aload_n 0, 1) := by decide +kernel
theorem dX2_takes_53 : decode cX2_takes 53 = .ok (.getfield 15, 3) := by decide +kernel
theorem dX2_takes_56 : decode cX2_takes 56 = .ok (.iconst 0, 1) := by decide +kernel
theorem dX2_takes_57 : decode cX2_takes 57 = .ok (.bipush 6, 2) := by decide +kernel
theorem dX2_takes_59 : decode cX2_takes 59 = .ok (.invokestatic 47, 3) := by decide +kernel
theorem dX2_takes_62 : decode cX2_takes 62 = .ok (.aload_n 1, 1) := by decide +kernel
theorem dX2_takes_63 : decode cX2_takes 63 = .ok (.getfield 18, 3) := by decide +kernel
theorem dX2_takes_66 : decode cX2_takes 66 = .ok (.iconst 0, 1) := by decide +kernel
theorem dX2_takes_67 : decode cX2_takes 67 = .ok (.aload_n 0, 1) := by decide +kernel
theorem dX2_takes_68 : decode cX2_takes 68 = .ok (.getfield 18, 3) := by decide +kernel
theorem dX2_takes_71 : decode cX2_takes 71 = .ok (.iconst 0, 1) := by decide +kernel
theorem dX2_takes_72 : decode cX2_takes 72 = .ok (.bipush 6, 2) := by decide +kernel
theorem dX2_takes_74 : decode cX2_takes 74 = .ok (.invokestatic 47, 3) := by decide +kernel
theorem dX2_takes_77 : decode cX2_takes 77 = .ok (.aload_n 1, 1) := by decide +kernel
theorem dX2_takes_78 : decode cX2_takes 78 = .ok (.getfield 21, 3) := by decide +kernel
theorem dX2_takes_81 : decode cX2_takes 81 = .ok (.iconst 0, 1) := by decide +kernel
theorem dX2_takes_82 : decode cX2_takes 82 = .ok (.aload_n 0, 1) := by decide +kernel
theorem dX2_takes_83 : decode cX2_takes 83 = .ok (.getfield 21, 3) := by decide +kernel
theorem dX2_takes_86 : decode cX2_takes 86 = .ok (.iconst 0, 1) := by decide +kernel
theorem dX2_takes_87 : decode cX2_takes 87 = .ok (.bipush 6, 2) := by decide +kernel
theorem dX2_takes_89 : decode cX2_takes 89 = .ok (.invokestatic 47, 3) := by decide +kernel
theorem dX2_takes_92 : decode cX2_takes 92 = .ok (.aload_n 1, 1) := by decide +kernel
theorem dX2_takes_93 : decode cX2_takes 93 = .ok (.getfield 24, 3) := by decide +kernel
theorem dX2_takes_96 : decode cX2_takes 96 = .ok (.iconst 0, 1) := by decide +kernel
theorem dX2_takes_97 : decode cX2_takes 97 = .ok (.aload_n 0, 1) := by decide +kernel
theorem dX2_takes_98 : decode cX2_takes 98 = .ok (.getfield 24, 3) := by decide +kernel
theorem dX2_takes_101 : decode cX2_takes 101 = .ok (.iconst 0, 1) := by decide +kernel
theorem dX2_takes_102 : decode cX2_takes 102 = .ok (.bipush 6, 2) := by decide +kernel
theorem dX2_takes_104 : decode cX2_takes 104 = .ok (.invokestatic 47, 3) := by decide +kernel
theorem dX2_takes_107 : decode cX2_takes 107 = .ok (.aload_n 1, 1) := by decide +kernel
theorem dX2_takes_108 : decode cX2_takes 108 = .ok (.getfield 27, 3) := by decide +kernel
theorem dX2_takes_111 : decode cX2_takes 111 = .ok (.iconst 0, 1) := by decide +kernel
theorem dX2_takes_112 : decode cX2_takes 112 = .ok (.aload_n 0, 1) := by decide +kernel
theorem dX2_takes_113 : decode cX2_takes 113 = .ok (.getfield 27, 3) := by decide +kernel
theorem dX2_takes_116 : decode cX2_takes 116 = .ok (.iconst 0, 1) := by decide +kernel
theorem dX2_takes_117 : decode cX2_takes 117 = .ok (.bipush 24, 2) := by decide +kernel
theorem dX2_takes_119 : decode cX2_takes 119 = .ok (.invokestatic 47, 3) := by decide +kernel
theorem dX2_takes_122 : decode cX2_takes 122 = .ok (.return_, 1) := by decide +kernel
theorem dX3_init_0 : decode cX3_init 0 = .ok (.aload_n 0, 1) := by decide +kernel
theorem dX3_init_1 : decode cX3_init 1 = .ok (.invokespecial 3, 3) := by decide +kernel
theorem dX3_init_4 : decode cX3_init 4 = .ok (.aload_n 0, 1) := by decide +kernel
theorem dX3_init_5 : decode cX3_init 5 = .ok (.bipush 100, 2) := by decide +kernel
theorem dX3_init_7 : decode cX3_init 7 = .ok (.newarray .int, 2) := by decide +kernel
theorem dX3_init_9 : decode cX3_init 9 = .ok (.putfield 9, 3) := by decide +kernel
theorem dX3_init_12 : decode cX3_init 12 = .ok (.aload_n 0, 1) := by decide +kernel
theorem dX3_init_13 : decode cX3_init 13 = .ok (.bipush 100, 2) := by decide +kernel
theorem dX3_init_15 : decode cX3_init 15 = .ok (.newarray .int, 2) := by decide +kernel
theorem dX3_init_17 : decode cX3_init 17 = .ok (.putfield 15, 3) := by decide +kernel
theorem dX3_init_20 : decode cX3_init 20 = .ok (.aload_n 0, 1) := by decide +kernel
theorem dX3_init_21 : decode cX3_init 21 = .ok (.bipush 30, 2) := by decide +kernel
theorem dX3_init_23 : decode cX3_init 23 = .ok (.putfield 18, 3) := by decide +kernel
theorem dX3_init_26 : decode cX3_init 26 = .ok (.return_, 1) := by decide +kernel
theorem dX3_empties_0 : decode cX3_empties 0 = .ok (.aload_n 0, 1) := by decide +kernel
theorem dX3_empties_1 : decode cX3_empties 1 = .ok (.iconst 0, 1) := by decide +kernel
theorem dX3_empties_2 : decode cX3_empties 2 = .ok (.putfield 22, 3) := by decide +kernel
theorem dX3_empties_5 : decode cX3_empties 5 = .ok (.aload_n 0, 1) := by decide +kernel
theorem dX3_empties_6 : decode cX3_empties 6 = .ok (.bipush 30, 2) := by decide +kernel
theorem dX3_empties_8 : decode cX3_empties 8 = .ok (.putfield 18, 3) := by decide +kernel
theorem dX3_empties_11 : decode cX3_empties 11 = .ok (.return_, 1) := by decide +kernel
theorem dX3_adds_0 : decode cX3_adds 0 = .ok (.aload_n 0, 1) := by decide +kernel
theorem dX3_adds_1 : decode cX3_adds 1 = .ok (.getfield 22, 3) := by decide +kernel
theorem dX3_adds_4 : decode cX3_adds 4 = .ok (.ifCond .lt 42, 3) := by decide +kernel
theorem dX3_adds_7 : decode cX3_adds 7 = .ok (.aload_n 0, 1) := by decide +kernel
theorem dX3_adds_8 : decode cX3_adds 8 = .ok (.getfield 22, 3) := by decide +kernel
theorem dX3_adds_11 : decode cX3_adds 11 = .ok (.bipush 100, 2) := by decide +kernel
theorem dX3_adds_13 : decode cX3_adds 13 = .ok (.if_icmp .ge 33, 3) := by decide +kernel
theorem dX3_adds_16 : decode cX3_adds 16 = .ok (.aload_n 0, 1) := by decide +kernel
theorem dX3_adds_17 : decode cX3_adds 17 = .ok (.getfield 9, 3) := by decide +kernel
theorem dX3_adds_20 : decode cX3_adds 20 = .ok (.aload_n 0, 1) := by decide +kernel
theorem dX3_adds_21 : decode cX3_adds 21 = .ok (.getfield 22, 3) := by decide +kernel
theorem dX3_adds_24 : decode cX3_adds 24 = .ok (.iload_n 1, 1) := by decide +kernel
theorem dX3_adds_25 : decode cX3_adds 25 = .ok (.iastore, 1) := by decide +kernel
theorem dX3_adds_26 : decode cX3_adds 26 = .ok (.aload_n 0, 1) := by decide +kernel
theorem dX3_adds_27 : decode cX3_adds 27 = .ok (.getfield 15, 3) := by decide +kernel
theorem dX3_adds_30 : decode cX3_adds 30 = .ok (.aload_n 0, 1) := by decide +kernel
theorem dX3_adds_31 : decode cX3_adds 31 = .ok (.getfield 22, 3) := by decide +kernel
theorem dX3_adds_34 : decode cX3_adds 34 = .ok (.iload_n 2, 1) := by decide +kernel
theorem dX3_adds_35 : decode cX3_adds 35 = .ok (.iastore, 1) := by decide +kernel
theorem dX3_adds_36 : decode cX3_adds 36 = .ok (.aload_n 0, 1) := by decide +kernel
theorem dX3_adds_37 : decode cX3_adds 37 = .ok (.dup, 1) := by decide +kernel
theorem dX3_adds_38 : decode cX3_adds 38 = .ok (.getfield 22, 3) := by decide +kernel
theorem dX3_adds_41 : decode cX3_adds 41 = .ok (.iconst 1, 1) := by decide +kernel
theorem dX3_adds_42 : decode cX3_adds 42 = .ok (.iadd, 1) := by decide +kernel
theorem dX3_adds_43 : decode cX3_adds 43 = .ok (.putfield 22, 3) := by decide +kernel
theorem dX3_adds_46 : decode cX3_adds 46 = .ok (.return_, 1) := by decide +kernel
theorem dX3_drift_0 : decode cX3_drift 0 = .ok (.iconst 0, 1) := by decide +kernel
theorem dX3_drift_1 : decode cX3_drift 1 = .ok (.istore_n 2, 1) := by decide +kernel
theorem dX3_drift_2 : decode cX3_drift 2 = .ok (.iconst 0, 1) := by decide +kernel
theorem dX3_drift_3 : decode cX3_drift 3 = .ok (.istore_n 3, 1) := by decide +kernel
theorem dX3_drift_4 : decode cX3_drift 4 = .ok (.iconst 0, 1) := by decide +kernel
theorem dX3_drift_5 : decode cX3_drift 5 = .ok (.istore 4, 2) := by decide +kernel
theorem dX3_drift_7 : decode cX3_drift 7 = .ok (.iload 4, 2) := by decide +kernel
theorem dX3_drift_9 : decode cX3_drift 9 = .ok (.aload_n 0, 1) := by decide +kernel
theorem dX3_drift_10 : decode cX3_drift 10 = .ok (.getfield 22, 3) := by decide +kernel
theorem dX3_drift_13 : decode cX3_drift 13 = .ok (.if_icmp .ge 221, 3) := by decide +kernel
theorem dX3_drift_16 : decode cX3_drift 16 = .ok (.iload 4, 2) := by decide +kernel
theorem dX3_drift_18 : decode cX3_drift 18 = .ok (.bipush 100, 2) := by decide +kernel
theorem dX3_drift_20 : decode cX3_drift 20 = .ok (.if_icmp .ge 214, 3) := by decide +kernel
theorem dX3_drift_23 : decode cX3_drift 23 = .ok (.aload_n 0, 1) := by decide +kernel
theorem dX3_drift_24 : decode cX3_drift 24 = .ok (.getfield 9, 3) := by decide +kernel
theorem dX3_drift_27 : decode cX3_drift 27 = .ok (.iload 4, 2) := by decide +kernel
theorem dX3_drift_29 : decode cX3_drift 29 = .ok (.iaload, 1) := by decide +kernel
theorem dX3_drift_30 : decode cX3_drift 30 = .ok (.tableswitch 106 18 22 #[34, 41, 53, 64, 85], 34) := by decide +kernel
theorem dX3_drift_64 : decode cX3_drift 64 = .ok (.iload_n 3, 1) := by decide +kernel
theorem dX3_drift_65 : decode cX3_drift 65 = .ok (.iconst 1, 1) := by decide +kernel
theorem dX3_drift_66 : decode cX3_drift 66 = .ok (.ixor, 1) := by decide +kernel
theorem dX3_drift_67 : decode cX3_drift 67 = .ok (.istore_n 3, 1) := by decide +kernel
theorem dX3_drift_68 : decode cX3_drift 68 = .ok (.goto 160, 3) := by decide +kernel
theorem dX3_drift_71 : decode cX3_drift 71 = .ok (.iload_n 3, 1) := by decide +kernel
theorem dX3_drift_72 : decode cX3_drift 72 = .ok (.iconst 1, 1) := by decide +kernel
theorem dX3_drift_73 : decode cX3_drift 73 = .ok (.ishr, 1) := by decide +kernel
theorem dX3_drift_74 : decode cX3_drift 74 = .ok (.iload_n 3, 1) := by decide +kernel
theorem dX3_drift_75 : decode cX3_drift 75 = .ok (.bipush (-2), 2) := by decide +kernel
theorem dX3_drift_77 : decode cX3_drift 77 = .ok (.ior, 1) := by decide +kernel
theorem dX3_drift_78 : decode cX3_drift 78 = .ok (.iand, 1) := by decide +kernel
theorem dX3_drift_79 : decode cX3_drift 79 = .ok (.istore_n 3, 1) := by decide +kernel
theorem dX3_drift_80 : decode cX3_drift 80 = .ok (.goto 148, 3) := by decide +kernel
theorem dX3_drift_83 : decode cX3_drift 83 = .ok (.iload_n 3, 1) := by decide +kernel
theorem dX3_drift_84 : decode cX3_drift 84 = .ok (.iconst 1, 1) := by decide +kernel
theorem dX3_drift_85 : decode cX3_drift 85 = .ok (.ishr, 1) := by decide +kernel
theorem dX3_drift_86 : decode cX3_drift 86 = .ok (.iload_n 3, 1) := by decide +kernel
theorem dX3_drift_87 : decode cX3_drift 87 = .ok (.iconst 1, 1) := by decide +kernel
theorem dX3_drift_88 : decode cX3_drift 88 = .ok (.iand, 1) := by decide +kernel
theorem dX3_drift_89 : decode cX3_drift 89 = .ok (.ior, 1) := by decide +kernel
theorem dX3_drift_90 : decode cX3_drift 90 = .ok (.istore_n 3, 1) := by decide +kernel
theorem dX3_drift_91 : decode cX3_drift 91 = .ok (.goto 137, 3) := by decide +kernel
theorem dX3_drift_94 : decode cX3_drift 94 = .ok (.iload_n 2, 1) := by decide +kernel
theorem dX3_drift_95 : decode cX3_drift 95 = .ok (.iload_n 3, 1) := by decide +kernel
theorem dX3_drift_96 : decode cX3_drift 96 = .ok (.iconst 1, 1) := by decide +kernel
theorem dX3_drift_97 : decode cX3_drift 97 = .ok (.iand, 1) := by decide +kernel
theorem dX3_drift_98 : decode cX3_drift 98 = .ok (.aload_n 0, 1) := by decide +kernel
theorem dX3_drift_99 : decode cX3_drift 99 = .ok (.getfield 15, 3) := by decide +kernel
theorem dX3_drift_102 : decode cX3_drift 102 = .ok (.iload 4, 2) := by decide +kernel
theorem dX3_drift_104 : decode cX3_drift 104 = .ok (.iaload, 1) := by decide +kernel
theorem dX3_drift_105 : decode cX3_drift 105 = .ok (.imul, 1) := by decide +kernel
theorem dX3_drift_106 : decode cX3_drift 106 = .ok (.iadd, 1) := by decide +kernel
theorem dX3_drift_107 : decode cX3_drift 107 = .ok (.istore_n 2, 1) := by decide +kernel
theorem dX3_drift_108 : decode cX3_drift 108 = .ok (.iload_n 3, 1) := by decide +kernel
theorem dX3_drift_109 : decode cX3_drift 109 = .ok (.iconst 1, 1) := by decide +kernel
theorem dX3_drift_110 : decode cX3_drift 110 = .ok (.ishr, 1) := by decide +kernel
theorem dX3_drift_111 : decode cX3_drift 111 = .ok (.istore_n 3, 1) := by decide +kernel
theorem dX3_drift_112 : decode cX3_drift 112 = .ok (.goto 116, 3) := by decide +kernel
theorem dX3_drift_115 : decode cX3_drift 115 = .ok (.iload_n 2, 1) := by decide +kernel
theorem dX3_drift_116 : decode cX3_drift 116 = .ok (.iload_n 3, 1) := by decide +kernel
theorem dX3_drift_117 : decode cX3_drift 117 = .ok (.iconst 1, 1) := by decide +kernel
theorem dX3_drift_118 : decode cX3_drift 118 = .ok (.iand, 1) := by decide +kernel
theorem dX3_drift_119 : decode cX3_drift 119 = .ok (.aload_n 0, 1) := by decide +kernel
theorem dX3_drift_120 : decode cX3_drift 120 = .ok (.getfield 15, 3) := by decide +kernel
theorem dX3_drift_123 : decode cX3_drift 123 = .ok (.iload 4, 2) := by decide +kernel
theorem dX3_drift_125 : decode cX3_drift 125 = .ok (.iaload, 1) := by decide +kernel
theorem dX3_drift_126 : decode cX3_drift 126 = .ok (.imul, 1) := by decide +kernel
theorem dX3_drift_127 : decode cX3_drift 127 = .ok (.isub, 1) := by decide +kernel
theorem dX3_drift_128 : decode cX3_drift 128 = .ok (.istore_n 2, 1) := by decide +kernel
theorem dX3_drift_129 : decode cX3_drift 129 = .ok (.iload_n 3, 1) := by decide +kernel
theorem dX3_drift_130 : decode cX3_drift 130 = .ok (.iconst 1, 1) := by decide +kernel
theorem dX3_drift_131 : decode cX3_drift 131 = .ok (.ishr, 1) := by decide +kernel
theorem dX3_drift_132 : decode cX3_drift 132 = .ok (.istore_n 3, 1) := by decide +kernel
theorem dX3_drift_133 : decode cX3_drift 133 = .ok (.goto 95, 3) := by decide +kernel
theorem dX3_drift_136 : decode cX3_drift 136 = .ok (.aload_n 0, 1) := by decide +kernel
theorem dX3_drift_137 : decode cX3_drift 137 = .ok (.getfield 9, 3) := by decide +kernel
theorem dX3_drift_140 : decode cX3_drift 140 = .ok (.iload 4, 2) := by decide +kernel
theorem dX3_drift_142 : decode cX3_drift 142 = .ok (.iaload, 1) := by decide +kernel
theorem dX3_drift_143 : decode cX3_drift 143 = .ok (.iconst 3, 1) := by decide +kernel
theorem dX3_drift_144 : decode cX3_drift 144 = .ok (.idiv, 1) := by decide +kernel
theorem dX3_drift_145 : decode cX3_drift 145 = .ok (.istore 5, 2) := by decide +kernel
theorem dX3_drift_147 : decode cX3_drift 147 = .ok (.iload 5, 2) := by decide +kernel
theorem dX3_drift_149 : decode cX3_drift 149 = .ok (.ifCond .lt 17, 3) := by decide +kernel
theorem dX3_drift_152 : decode cX3_drift 152 = .ok (.iload 5, 2) := by decide +kernel
theorem dX3_drift_154 : decode cX3_drift 154 = .ok (.aload_n 1, 1) := by decide +kernel
theorem dX3_drift_155 : decode cX3_drift 155 = .ok (.arraylength, 1) := by decide +kernel
theorem dX3_drift_156 : decode cX3_drift 156 = .ok (.if_icmp .ge 10, 3) := by decide +kernel
theorem dX3_drift_159 : decode cX3_drift 159 = .ok (.aload_n 1, 1) := by decide +kernel
theorem dX3_drift_160 : decode cX3_drift 160 = .ok (.iload 5, 2) := by decide +kernel
theorem dX3_drift_162 : decode cX3_drift 162 = .ok (.iaload, 1) := by decide +kernel
theorem dX3_drift_163 : decode cX3_drift 163 = .ok (.goto 4, 3) := by decide +kernel
theorem dX3_drift_166 : decode cX3_drift 166 = .ok (.iconst 0, 1) := by decide +kernel
theorem dX3_drift_167 : decode cX3_drift 167 = .ok (.istore 6, 2) := by decide +kernel
theorem dX3_drift_169 : decode cX3_drift 169 = .ok (.iload 6, 2) := by decide +kernel
theorem dX3_drift_171 : decode cX3_drift 171 = .ok (.aload_n 0, 1) := by decide +kernel
theorem dX3_drift_172 : decode cX3_drift 172 = .ok (.getfield 15, 3) := by decide +kernel
theorem dX3_drift_175 : decode cX3_drift 175 = .ok (.iload 4, 2) := by decide +kernel
theorem dX3_drift_177 : decode cX3_drift 177 = .ok (.iaload, 1) := by decide +kernel
theorem dX3_drift_178 : decode cX3_drift 178 = .ok (.if_icmp .ge 7, 3) := by decide +kernel
theorem dX3_drift_181 : decode cX3_drift 181 = .ok (.iconst 0, 1) := by decide +kernel
theorem dX3_drift_182 : decode cX3_drift 182 = .ok (.goto 20, 3) := by decide +kernel
theorem dX3_drift_185 : decode cX3_drift 185 = .ok (.iload 6, 2) := by decide +kernel
theorem dX3_drift_187 : decode cX3_drift 187 = .ok (.aload_n 0, 1) := by decide +kernel
theorem dX3_drift_188 : decode cX3_drift 188 = .ok (.getfield 15, 3) := by decide +kernel
theorem dX3_drift_191 : decode cX3_drift 191 = .ok (.iload 4, 2) := by decide +kernel
theorem dX3_drift_193 : decode cX3_drift 193 = .ok (.iaload, 1) := by decide +kernel
theorem dX3_drift_194 : decode cX3_drift 194 = .ok (.if_icmp .ne 7, 3) := by decide +kernel
theorem dX3_drift_197 : decode cX3_drift 197 = .ok (.iconst 1, 1) := by decide +kernel
theorem dX3_drift_198 : decode cX3_drift 198 = .ok (.goto 4, 3) := by decide +kernel
theorem dX3_drift_201 : decode cX3_drift 201 = .ok (.iconst 2, 1) := by decide +kernel
theorem dX3_drift_202 : decode cX3_drift 202 = .ok (.istore 7, 2) := by decide +kernel
theorem dX3_drift_204 : decode cX3_drift 204 = .ok (.iload_n 3, 1) := by decide +kernel
theorem dX3_drift_205 : decode cX3_drift 205 = .ok (.iconst 1, 1) := by decide +kernel
theorem dX3_drift_206 : decode cX3_drift 206 = .ok (.ishl, 1) := by decide +kernel
theorem dX3_drift_207 : decode cX3_drift 207 = .ok (.iload 7, 2) := by decide +kernel
theorem dX3_drift_209 : decode cX3_drift 209 = .ok (.aload_n 0, 1) := by decide +kernel
theorem dX3_drift_210 : decode cX3_drift 210 = .ok (.getfield 9, 3) := by decide +kernel
theorem dX3_drift_213 : decode cX3_drift 213 = .ok (.iload 4, 2) := by decide +kernel
theorem dX3_drift_215 : decode cX3_drift 215 = .ok (.iaload, 1) := by decide +kernel
theorem dX3_drift_216 : decode cX3_drift 216 = .ok (.iconst 3, 1) := by decide +kernel
theorem dX3_drift_217 : decode cX3_drift 217 = .ok (.irem, 1) := by decide +kernel
theorem dX3_drift_218 : decode cX3_drift 218 = .ok (.if_icmp .ne 7, 3) := by decide +kernel
theorem dX3_drift_221 : decode cX3_drift 221 = .ok (.iconst 1, 1) := by decide +kernel
theorem dX3_drift_222 : decode cX3_drift 222 = .ok (.goto 4, 3) := by decide +kernel
theorem dX3_drift_225 : decode cX3_drift 225 = .ok (.iconst 0, 1) := by decide +kernel
theorem dX3_drift_226 : decode cX3_drift 226 = .ok (.ior, 1) := by decide +kernel
theorem dX3_drift_227 : decode cX3_drift 227 = .ok (.istore_n 3, 1) := by decide +kernel
theorem dX3_drift_228 : decode cX3_drift 228 = .ok (.iinc 4 1, 3) := by decide +kernel
theorem dX3_drift_231 : decode cX3_drift 231 = .ok (.goto (-224), 3) := by decide +kernel
theorem dX3_drift_234 : decode cX3_drift 234 = .ok (.iload_n 2, 1) := by decide +kernel
theorem dX3_drift_235 : decode cX3_drift 235 = .ok (.ireturn, 1) := by decide +kernel
theorem dX3_takes_0 : decode cX3_takes 0 = .ok (.aload_n 1, 1) := by decide +kernel
theorem dX3_takes_1 : decode cX3_takes 1 = .ok (.getfield 9, 3) := by decide +kernel
theorem dX3_takes_4 : decode cX3_takes 4 = .ok (.iconst 0, 1) := by decide +kernel
theorem dX3_takes_5 : decode cX3_takes 5 = .ok (.aload_n 0, 1) := by decide +kernel
theorem dX3_takes_6 : decode cX3_takes 6 = .ok (.getfield 9, 3) := by decide +kernel
theorem dX3_takes_9 : decode cX3_takes 9 = .ok (.iconst 0, 1) := by decide +kernel
theorem dX3_takes_10 : decode cX3_takes 10 = .ok (.bipush 100, 2) := by decide +kernel
theorem dX3_takes_12 : decode cX3_takes 12 = .ok (.invokestatic 25, 3) := by decide +kernel
theorem dX3_takes_15 : decode cX3_takes 15 = .ok (.aload_n 1, 1) := by decide +kernel
theorem dX3_takes_16 : decode cX3_takes 16 = .ok (.getfield 15, 3) := by decide +kernel
theorem dX3_takes_19 : decode cX3_takes 19 = .ok (.iconst 0, 1) := by decide +kernel
theorem dX3_takes_20 : decode cX3_takes 20 = .ok (.aload_n 0, 1) := by decide +kernel
theorem dX3_takes_21 : decode cX3_takes 21 = .ok (.getfield 15, 3) := by decide +kernel
theorem dX3_takes_24 : decode cX3_takes 24 = .ok (.iconst 0, 1) := by decide +kernel
theorem dX3_takes_25 : decode cX3_takes 25 = .ok (.bipush 100, 2) := by decide +kernel
theorem dX3_takes_27 : decode cX3_takes 27 = .ok (.invokestatic 25, 3) := by decide +kernel
theorem dX3_takes_30 : decode cX3_takes 30 = .ok (.aload_n 0, 1) := by decide +kernel
theorem dX3_takes_31 : decode cX3_takes 31 = .ok (.aload_n 1, 1) := by decide +kernel
theorem dX3_takes_32 : decode cX3_takes 32 = .ok (.getfield 22, 3) := by decide +kernel
theorem dX3_takes_35 : decode cX3_takes 35 = .ok (.putfield 22, 3) := by decide +kernel
theorem dX3_takes_38 : decode cX3_takes 38 = .ok (.aload_n 0, 1) := by decide +kernel
theorem dX3_takes_39 : decode cX3_takes 39 = .ok (.aload_n 1, 1) := by decide +kernel
theorem dX3_takes_40 : decode cX3_takes 40 = .ok (.getfield 18, 3) := by decide +kernel
theorem dX3_takes_43 : decode cX3_takes 43 = .ok (.putfield 18, 3) := by decide +kernel
theorem dX3_takes_46 : decode cX3_takes 46 = .ok (.return_, 1) := by decide +kernel
theorem dX4_init_0 : decode cX4_init 0 = .ok (.aload_n 0, 1) := by decide +kernel
theorem dX4_init_1 : decode cX4_init 1 = .ok (.invokespecial 3, 3) := by decide +kernel
theorem dX4_init_4 : decode cX4_init 4 = .ok (.aload_n 0, 1) := by decide +kernel
theorem dX4_init_5 : decode cX4_init 5 = .ok (.bipush 6, 2) := by decide +kernel
theorem dX4_init_7 : decode cX4_init 7 = .ok (.newarray .int, 2) := by decide +kernel
theorem dX4_init_9 : decode cX4_init 9 = .ok (.putfield 11, 3) := by decide +kernel
theorem dX4_init_12 : decode cX4_init 12 = .ok (.aload_n 0, 1) := by decide +kernel
theorem dX4_init_13 : decode cX4_init 13 = .ok (.bipush 6, 2) := by decide +kernel
theorem dX4_init_15 : decode cX4_init 15 = .ok (.newarray .int, 2) := by decide +kernel
theorem dX4_init_17 : decode cX4_init 17 = .ok (.putfield 17, 3) := by decide +kernel
theorem dX4_init_20 : decode cX4_init 20 = .ok (.aload_n 0, 1) := by decide +kernel
theorem dX4_init_21 : decode cX4_init 21 = .ok (.bipush 13, 2) := by decide +kernel
theorem dX4_init_23 : decode cX4_init 23 = .ok (.newarray .int, 2) := by decide +kernel
theorem dX4_init_25 : decode cX4_init 25 = .ok (.putfield 20, 3) := by decide +kernel
theorem dX4_init_28 : decode cX4_init 28 = .ok (.aload_n 0, 1) := by decide +kernel
theorem dX4_init_29 : decode cX4_init 29 = .ok (.aload_n 1, 1) := by decide +kernel
theorem dX4_init_30 : decode cX4_init 30 = .ok (.putfield 23, 3) := by decide +kernel
theorem dX4_init_33 : decode cX4_init 33 = .ok (.aload_n 0, 1) := by decide +kernel
theorem dX4_init_34 : decode cX4_init 34 = .ok (.aload_n 2, 1) := by decide +kernel
theorem dX4_init_35 : decode cX4_init 35 = .ok (.putfield 27, 3) := by decide +kernel
theorem dX4_init_38 : decode cX4_init 38 = .ok (.return_, 1) := by decide +kernel
theorem dX4_strayed_0 : decode cX4_strayed 0 = .ok (.aload_n 0, 1) := by decide +kernel
theorem dX4_strayed_1 : decode cX4_strayed 1 = .ok (.getfield 23, 3) := by decide +kernel
theorem dX4_strayed_4 : decode cX4_strayed 4 = .ok (.iload_n 1, 1) := by decide +kernel
theorem dX4_strayed_5 : decode cX4_strayed 5 = .ok (.invokevirtual 31, 3) := by decide +kernel
theorem dX4_strayed_8 : decode cX4_strayed 8 = .ok (.ifCond .eq 10, 3) := by decide +kernel
theorem dX4_strayed_11 : decode cX4_strayed 11 = .ok (.iload_n 2, 1) := by decide +kernel
theorem dX4_strayed_12 : decode cX4_strayed 12 = .ok (.invokestatic 37, 3) := by decide +kernel
theorem dX4_strayed_15 : decode cX4_strayed 15 = .ok (.ifCond .ne 5, 3) := by decide +kernel
theorem dX4_strayed_18 : decode cX4_strayed 18 = .ok (.iconst 0, 1) := by decide +kernel
theorem dX4_strayed_19 : decode cX4_strayed 19 = .ok (.ireturn, 1) := by decide +kernel
theorem dX4_strayed_20 : decode cX4_strayed 20 = .ok (.aload_n 0, 1) := by decide +kernel
theorem dX4_strayed_21 : decode cX4_strayed 21 = .ok (.getfield 23, 3) := by decide +kernel
theorem dX4_strayed_24 : decode cX4_strayed 24 = .ok (.getfield 40, 3) := by decide +kernel
theorem dX4_strayed_27 : decode cX4_strayed 27 = .ok (.iload_n 1, 1) := by decide +kernel
theorem dX4_strayed_28 : decode cX4_strayed 28 = .ok (.iaload, 1) := by decide +kernel
theorem dX4_strayed_29 : decode cX4_strayed 29 = .ok (.istore 4, 2) := by decide +kernel
theorem dX4_strayed_31 : decode cX4_strayed 31 = .ok (.aload_n 0, 1) := by decide +kernel
theorem dX4_strayed_32 : decode cX4_strayed 32 = .ok (.getfield 23, 3) := by decide +kernel
theorem dX4_strayed_35 : decode cX4_strayed 35 = .ok (.getfield 43, 3) := by decide +kernel
theorem dX4_strayed_38 : decode cX4_strayed 38 = .ok (.iload_n 2, 1) := by decide +kernel
theorem dX4_strayed_39 : decode cX4_strayed 39 = .ok (.iaload, 1) := by decide +kernel
theorem dX4_strayed_40 : decode cX4_strayed 40 = .ok (.istore 5, 2) := by decide +kernel
theorem dX4_strayed_42 : decode cX4_strayed 42 = .ok (.aload_n 0, 1) := by decide +kernel
theorem dX4_strayed_43 : decode cX4_strayed 43 = .ok (.getfield 11, 3) := by decide +kernel
theorem dX4_strayed_46 : decode cX4_strayed 46 = .ok (.iconst 0, 1) := by decide +kernel
theorem dX4_strayed_47 : decode cX4_strayed 47 = .ok (.iload_n 1, 1) := by decide +kernel
theorem dX4_strayed_48 : decode cX4_strayed 48 = .ok (.iastore, 1) := by decide +kernel
theorem dX4_strayed_49 : decode cX4_strayed 49 = .ok (.aload_n 0, 1) := by decide +kernel
theorem dX4_strayed_50 : decode cX4_strayed 50 = .ok (.getfield 11, 3) := by decide +kernel
theorem dX4_strayed_53 : decode cX4_strayed 53 = .ok (.iconst 1, 1) := by decide +kernel
theorem dX4_strayed_54 : decode cX4_strayed 54 = .ok (.aload_n 0, 1) := by decide +kernel
theorem dX4_strayed_55 : decode cX4_strayed 55 = .ok (.getfield 23, 3) := by decide +kernel
theorem dX4_strayed_58 : decode cX4_strayed 58 = .ok (.getfield 46, 3) := by decide +kernel
theorem dX4_strayed_61 : decode cX4_strayed 61 = .ok (.iload_n 1, 1) := by decide +kernel
theorem dX4_strayed_62 : decode cX4_strayed 62 = .ok (.iaload, 1) := by decide +kernel
theorem dX4_strayed_63 : decode cX4_strayed 63 = .ok (.iastore, 1) := by decide +kernel
theorem dX4_strayed_64 : decode cX4_strayed 64 = .ok (.aload_n 0, 1) := by decide +kernel
theorem dX4_strayed_65 : decode cX4_strayed 65 = .ok (.getfield 11, 3) := by decide +kernel
theorem dX4_strayed_68 : decode cX4_strayed 68 = .ok (.iconst 2, 1) := by decide +kernel
theorem dX4_strayed_69 : decode cX4_strayed 69 = .ok (.iload_n 2, 1) := by decide +kernel
theorem dX4_strayed_70 : decode cX4_strayed 70 = .ok (.iastore, 1) := by decide +kernel
theorem dX4_strayed_71 : decode cX4_strayed 71 = .ok (.aload_n 0, 1) := by decide +kernel
theorem dX4_strayed_72 : decode cX4_strayed 72 = .ok (.getfield 11, 3) := by decide +kernel
theorem dX4_strayed_75 : decode cX4_strayed 75 = .ok (.iconst 3, 1) := by decide +kernel
theorem dX4_strayed_76 : decode cX4_strayed 76 = .ok (.iload_n 3, 1) := by decide +kernel
theorem dX4_strayed_77 : decode cX4_strayed 77 = .ok (.iastore, 1) := by decide +kernel
theorem dX4_strayed_78 : decode cX4_strayed 78 = .ok (.aload_n 0, 1) := by decide +kernel
theorem dX4_strayed_79 : decode cX4_strayed 79 = .ok (.getfield 11, 3) := by decide +kernel
theorem dX4_strayed_82 : decode cX4_strayed 82 = .ok (.iconst 4, 1) := by decide +kernel
theorem dX4_strayed_83 : decode cX4_strayed 83 = .ok (.iload 5, 2) := by decide +kernel
theorem dX4_strayed_85 : decode cX4_strayed 85 = .ok (.iastore, 1) := by decide +kernel
theorem dX4_strayed_86 : decode cX4_strayed 86 = .ok (.aload_n 0, 1) := by decide +kernel
theorem dX4_strayed_87 : decode cX4_strayed 87 = .ok (.getfield 11, 3) := by decide +kernel
theorem dX4_strayed_90 : decode cX4_strayed 90 = .ok (.iconst 5, 1) := by decide +kernel
theorem dX4_strayed_91 : decode cX4_strayed 91 = .ok (.aload_n 0, 1) := by decide +kernel
theorem dX4_strayed_92 : decode cX4_strayed 92 = .ok (.getfield 23, 3) := by decide +kernel
theorem dX4_strayed_95 : decode cX4_strayed 95 = .ok (.getfield 49, 3) := by decide +kernel
theorem dX4_strayed_98 : decode cX4_strayed 98 = .ok (.bipush 10, 2) := by decide +kernel
theorem dX4_strayed_100 : decode cX4_strayed 100 = .ok (.irem, 1) := by decide +kernel
theorem dX4_strayed_101 : decode cX4_strayed 101 = .ok (.iastore, 1) := by decide +kernel
theorem dX4_strayed_102 : decode cX4_strayed 102 = .ok (.aload_n 0, 1) := by decide +kernel
theorem dX4_strayed_103 : decode cX4_strayed 103 = .ok (.getfield 27, 3) := by decide +kernel
theorem dX4_strayed_106 : decode cX4_strayed 106 = .ok (.aload_n 0, 1) := by decide +kernel
theorem dX4_strayed_107 : decode cX4_strayed 107 = .ok (.getfield 11, 3) := by decide +kernel
theorem dX4_strayed_110 : decode cX4_strayed 110 = .ok (.invokevirtual 53, 3) := by decide +kernel
theorem dX4_strayed_113 : decode cX4_strayed 113 = .ok (.istore 6, 2) := by decide +kernel
theorem dX4_strayed_115 : decode cX4_strayed 115 = .ok (.aload_n 0, 1) := by decide +kernel
theorem dX4_strayed_116 : decode cX4_strayed 116 = .ok (.getfield 23, 3) := by decide +kernel
theorem dX4_strayed_119 : decode cX4_strayed 119 = .ok (.getfield 46, 3) := by decide +kernel
theorem dX4_strayed_122 : decode cX4_strayed 122 = .ok (.iload_n 1, 1) := by decide +kernel
theorem dX4_strayed_123 : decode cX4_strayed 123 = .ok (.iaload, 1) := by decide +kernel
theorem dX4_strayed_124 : decode cX4_strayed 124 = .ok (.tableswitch 133 1 6 #[40, 53, 87, 45, 59, 101], 40) := by decide +kernel
theorem dX4_strayed_164 : decode cX4_strayed 164 = .ok (.iload 6, 2) := by decide +kernel
theorem dX4_strayed_166 : decode cX4_strayed 166 = .ok (.iconst 2, 1) := by decide +kernel
theorem dX4_strayed_167 : decode cX4_strayed 167 = .ok (.idiv, 1) := by decide +kernel
theorem dX4_strayed_168 : decode cX4_strayed 168 = .ok (.ireturn, 1) := by decide +kernel
theorem dX4_strayed_169 : decode cX4_strayed 169 = .ok (.iload 6, 2) := by decide +kernel
theorem dX4_strayed_171 : decode cX4_strayed 171 = .ok (.iconst 2, 1) := by decide +kernel
theorem dX4_strayed_172 : decode cX4_strayed 172 = .ok (.idiv, 1) := by decide +kernel
theorem dX4_strayed_173 : decode cX4_strayed 173 = .ok (.iload 4, 2) := by decide +kernel
theorem dX4_strayed_175 : decode cX4_strayed 175 = .ok (.isub, 1) := by decide +kernel
theorem dX4_strayed_176 : decode cX4_strayed 176 = .ok (.ireturn, 1) := by decide +kernel
theorem dX4_strayed_177 : decode cX4_strayed 177 = .ok (.iload 6, 2) := by decide +kernel
theorem dX4_strayed_179 : decode cX4_strayed 179 = .ok (.iload 5, 2) := by decide +kernel
theorem dX4_strayed_181 : decode cX4_strayed 181 = .ok (.iadd, 1) := by decide +kernel
theorem dX4_strayed_182 : decode cX4_strayed 182 = .ok (.ireturn, 1) := by decide +kernel
theorem dX4_strayed_183 : decode cX4_strayed 183 = .ok (.aload_n 0, 1) := by decide +kernel
theorem dX4_strayed_184 : decode cX4_strayed 184 = .ok (.getfield 23, 3) := by decide +kernel
theorem dX4_strayed_187 : decode cX4_strayed 187 = .ok (.getfield 49, 3) := by decide +kernel
theorem dX4_strayed_190 : decode cX4_strayed 190 = .ok (.iconst 2, 1) := by decide +kernel
theorem dX4_strayed_191 : decode cX4_strayed 191 = .ok (.irem, 1) := by decide +kernel
theorem dX4_strayed_192 : decode cX4_strayed 192 = .ok (.iconst 1, 1) := by decide +kernel
theorem dX4_strayed_193 : decode cX4_strayed 193 = .ok (.if_icmp .ne 12, 3) := by decide +kernel
theorem dX4_strayed_196 : decode cX4_strayed 196 = .ok (.iload 6, 2) := by decide +kernel
theorem dX4_strayed_198 : decode cX4_strayed 198 = .ok (.iload 5, 2) := by decide +kernel
theorem dX4_strayed_200 : decode cX4_strayed 200 = .ok (.iadd, 1) := by decide +kernel
theorem dX4_strayed_201 : decode cX4_strayed 201 = .ok (.ineg, 1) := by decide +kernel
theorem dX4_strayed_202 : decode cX4_strayed 202 = .ok (.goto 8, 3) := by decide +kernel
theorem dX4_strayed_205 : decode cX4_strayed 205 = .ok (.iload 6, 2) := by decide +kernel
theorem dX4_strayed_207 : decode cX4_strayed 207 = .ok (.iload 5, 2) := by decide +kernel
theorem dX4_strayed_209 : decode cX4_strayed 209 = .ok (.iadd, 1) := by decide +kernel
theorem dX4_strayed_210 : decode cX4_strayed 210 = .ok (.ireturn, 1) := by decide +kernel
theorem dX4_strayed_211 : decode cX4_strayed 211 = .ok (.iload 5, 2) := by decide +kernel
theorem dX4_strayed_213 : decode cX4_strayed 213 = .ok (.iload 4, 2) := by decide +kernel
theorem dX4_strayed_215 : decode cX4_strayed 215 = .ok (.if_icmp .le 8, 3) := by decide +kernel
theorem dX4_strayed_218 : decode cX4_strayed 218 = .ok (.iload 6, 2) := by decide +kernel
theorem dX4_strayed_220 : decode cX4_strayed 220 = .ok (.goto 4, 3) := by decide +kernel
theorem dX4_strayed_223 : decode cX4_strayed 223 = .ok (.iconst 0, 1) := by decide +kernel
theorem dX4_strayed_224 : decode cX4_strayed 224 = .ok (.ireturn, 1) := by decide +kernel
theorem dX4_strayed_225 : decode cX4_strayed 225 = .ok (.iload 5, 2) := by decide +kernel
theorem dX4_strayed_227 : decode cX4_strayed 227 = .ok (.iload 4, 2) := by decide +kernel
theorem dX4_strayed_229 : decode cX4_strayed 229 = .ok (.if_icmp .le 8, 3) := by decide +kernel
theorem dX4_strayed_232 : decode cX4_strayed 232 = .ok (.iload 6, 2) := by decide +kernel
theorem dX4_strayed_234 : decode cX4_strayed 234 = .ok (.goto 4, 3) := by decide +kernel
theorem dX4_strayed_237 : decode cX4_strayed 237 = .ok (.iconst 0, 1) := by decide +kernel
theorem dX4_strayed_238 : decode cX4_strayed 238 = .ok (.aload_n 0, 1) := by decide +kernel
theorem dX4_strayed_239 : decode cX4_strayed 239 = .ok (.getfield 23, 3) := by decide +kernel
theorem dX4_strayed_242 : decode cX4_strayed 242 = .ok (.getfield 57, 3) := by decide +kernel
theorem dX4_strayed_245 : decode cX4_strayed 245 = .ok (.iload_n 1, 1) := by decide +kernel
theorem dX4_strayed_246 : decode cX4_strayed 246 = .ok (.iconst 4, 1) := by decide +kernel
theorem dX4_strayed_247 : decode cX4_strayed 247 = .ok (.imul, 1) := by decide +kernel
theorem dX4_strayed_248 : decode cX4_strayed 248 = .ok (.iload_n 2, 1) := by decide +kernel
theorem dX4_strayed_249 : decode cX4_strayed 249 = .ok (.iconst 4, 1) := by decide +kernel
theorem dX4_strayed_250 : decode cX4_strayed 250 = .ok (.irem, 1) := by decide +kernel
theorem dX4_strayed_251 : decode cX4_strayed 251 = .ok (.iadd, 1) := by decide +kernel
theorem dX4_strayed_252 : decode cX4_strayed 252 = .ok (.iaload, 1) := by decide +kernel
theorem dX4_strayed_253 : decode cX4_strayed 253 = .ok (.iadd, 1) := by decide +kernel
theorem dX4_strayed_254 : decode cX4_strayed 254 = .ok (.iconst 4, 1) := by decide +kernel
theorem dX4_strayed_255 : decode cX4_strayed 255 = .ok (.isub, 1) := by decide +kernel
theorem dX4_strayed_256 : decode cX4_strayed 256 = .ok (.ireturn, 1) := by decide +kernel
theorem dX4_strayed_257 : decode cX4_strayed 257 = .ok (.iload 6, 2) := by decide +kernel
theorem dX4_strayed_259 : decode cX4_strayed 259 = .ok (.ireturn, 1) := by decide +kernel
theorem dX4_moved_0 : decode cX4_moved 0 = .ok (.aload_n 0, 1) := by decide +kernel
theorem dX4_moved_1 : decode cX4_moved 1 = .ok (.iload_n 1, 1) := by decide +kernel
theorem dX4_moved_2 : decode cX4_moved 2 = .ok (.iload_n 2, 1) := by decide +kernel
theorem dX4_moved_3 : decode cX4_moved 3 = .ok (.iload_n 3, 1) := by decide +kernel
theorem dX4_moved_4 : decode cX4_moved 4 = .ok (.invokevirtual 60, 3) := by decide +kernel
theorem dX4_moved_7 : decode cX4_moved 7 = .ok (.istore 4, 2) := by decide +kernel
theorem dX4_moved_9 : decode cX4_moved 9 = .ok (.iload 4, 2) := by decide +kernel
theorem dX4_moved_11 : decode cX4_moved 11 = .ok (.ifCond .le 7, 3) := by decide +kernel
theorem dX4_moved_14 : decode cX4_moved 14 = .ok (.iconst 1, 1) := by decide +kernel
theorem dX4_moved_15 : decode cX4_moved 15 = .ok (.goto 13, 3) := by decide +kernel
theorem dX4_moved_18 : decode cX4_moved 18 = .ok (.iload 4, 2) := by decide +kernel
theorem dX4_moved_20 : decode cX4_moved 20 = .ok (.ifCond .ge 7, 3) := by decide +kernel
theorem dX4_moved_23 : decode cX4_moved 23 = .ok (.iconst (-1), 1) := by decide +kernel
theorem dX4_moved_24 : decode cX4_moved 24 = .ok (.goto 4, 3) := by decide +kernel
theorem dX4_moved_27 : decode cX4_moved 27 = .ok (.iconst 0, 1) := by decide +kernel
theorem dX4_moved_28 : decode cX4_moved 28 = .ok (.istore 5, 2) := by decide +kernel
theorem dX4_moved_30 : decode cX4_moved 30 = .ok (.iload_n 3, 1) := by decide +kernel
theorem dX4_moved_31 : decode cX4_moved 31 = .ok (.iload 5, 2) := by decide +kernel
theorem dX4_moved_33 : decode cX4_moved 33 = .ok (.iadd, 1) := by decide +kernel
theorem dX4_moved_34 : decode cX4_moved 34 = .ok (.invokestatic 64, 3) := by decide +kernel
theorem dX4_moved_37 : decode cX4_moved 37 = .ok (.ifCond .eq 8, 3) := by decide +kernel
theorem dX4_moved_40 : decode cX4_moved 40 = .ok (.iload 5, 2) := by decide +kernel
theorem dX4_moved_42 : decode cX4_moved 42 = .ok (.goto 4, 3) := by decide +kernel
theorem dX4_moved_45 : decode cX4_moved 45 = .ok (.iconst 0, 1) := by decide +kernel
theorem dX4_moved_46 : decode cX4_moved 46 = .ok (.ireturn, 1) := by decide +kernel
theorem dX4_goes_0 : decode cX4_goes 0 = .ok (.aload_n 0, 1) := by decide +kernel
theorem dX4_goes_1 : decode cX4_goes 1 = .ok (.iconst 0, 1) := by decide +kernel
theorem dX4_goes_2 : decode cX4_goes 2 = .ok (.putfield 67, 3) := by decide +kernel
theorem dX4_goes_5 : decode cX4_goes 5 = .ok (.aload_n 0, 1) := by decide +kernel
theorem dX4_goes_6 : decode cX4_goes 6 = .ok (.iconst 0, 1) := by decide +kernel
theorem dX4_goes_7 : decode cX4_goes 7 = .ok (.putfield 70, 3) := by decide +kernel
theorem dX4_goes_10 : decode cX4_goes 10 = .ok (.aload_n 0, 1) := by decide +kernel
theorem dX4_goes_11 : decode cX4_goes 11 = .ok (.getfield 20, 3) := by decide +kernel
theorem dX4_goes_14 : decode cX4_goes 14 = .ok (.iconst 0, 1) := by decide +kernel
theorem dX4_goes_15 : decode cX4_goes 15 = .ok (.iload_n 2, 1) := by decide +kernel
theorem dX4_goes_16 : decode cX4_goes 16 = .ok (.iastore, 1) := by decide +kernel
theorem dX4_goes_17 : decode cX4_goes 17 = .ok (.iconst 0, 1) := by decide +kernel
theorem dX4_goes_18 : decode cX4_goes 18 = .ok (.istore_n 3, 1) := by decide +kernel
theorem dX4_goes_19 : decode cX4_goes 19 = .ok (.iconst 0, 1) := by decide +kernel
theorem dX4_goes_20 : decode cX4_goes 20 = .ok (.istore 4, 2) := by decide +kernel
theorem dX4_goes_22 : decode cX4_goes 22 = .ok (.iload 4, 2) := by decide +kernel
theorem dX4_goes_24 : decode cX4_goes 24 = .ok (.bipush 12, 2) := by decide +kernel
theorem dX4_goes_26 : decode cX4_goes 26 = .ok (.if_icmp .ge 83, 3) := by decide +kernel
theorem dX4_goes_29 : decode cX4_goes 29 = .ok (.aload_n 0, 1) := by decide +kernel
theorem dX4_goes_30 : decode cX4_goes 30 = .ok (.iload_n 1, 1) := by decide +kernel
theorem dX4_goes_31 : decode cX4_goes 31 = .ok (.iload 4, 2) := by decide +kernel
theorem dX4_goes_33 : decode cX4_goes 33 = .ok (.aload_n 0, 1) := by decide +kernel
theorem dX4_goes_34 : decode cX4_goes 34 = .ok (.getfield 20, 3) := by decide +kernel
theorem dX4_goes_37 : decode cX4_goes 37 = .ok (.iload 4, 2) := by decide +kernel
theorem dX4_goes_39 : decode cX4_goes 39 = .ok (.iaload, 1) := by decide +kernel
theorem dX4_goes_40 : decode cX4_goes 40 = .ok (.invokevirtual 73, 3) := by decide +kernel
theorem dX4_goes_43 : decode cX4_goes 43 = .ok (.istore 5, 2) := by decide +kernel
theorem dX4_goes_45 : decode cX4_goes 45 = .ok (.aload_n 0, 1) := by decide +kernel
theorem dX4_goes_46 : decode cX4_goes 46 = .ok (.getfield 20, 3) := by decide +kernel
theorem dX4_goes_49 : decode cX4_goes 49 = .ok (.iload 4, 2) := by decide +kernel
theorem dX4_goes_51 : decode cX4_goes 51 = .ok (.iconst 1, 1) := by decide +kernel
theorem dX4_goes_52 : decode cX4_goes 52 = .ok (.iadd, 1) := by decide +kernel
theorem dX4_goes_53 : decode cX4_goes 53 = .ok (.aload_n 0, 1) := by decide +kernel
theorem dX4_goes_54 : decode cX4_goes 54 = .ok (.getfield 20, 3) := by decide +kernel
theorem dX4_goes_57 : decode cX4_goes 57 = .ok (.iload 4, 2) := by decide +kernel
theorem dX4_goes_59 : decode cX4_goes 59 = .ok (.iaload, 1) := by decide +kernel
theorem dX4_goes_60 : decode cX4_goes 60 = .ok (.iload 5, 2) := by decide +kernel
theorem dX4_goes_62 : decode cX4_goes 62 = .ok (.iadd, 1) := by decide +kernel
theorem dX4_goes_63 : decode cX4_goes 63 = .ok (.iastore, 1) := by decide +kernel
theorem dX4_goes_64 : decode cX4_goes 64 = .ok (.iload 5, 2) := by decide +kernel
theorem dX4_goes_66 : decode cX4_goes 66 = .ok (.ifCond .eq 37, 3) := by decide +kernel
theorem dX4_goes_69 : decode cX4_goes 69 = .ok (.aload_n 0, 1) := by decide +kernel
theorem dX4_goes_70 : decode cX4_goes 70 = .ok (.dup, 1) := by decide +kernel
theorem dX4_goes_71 : decode cX4_goes 71 = .ok (.getfield 67, 3) := by decide +kernel
theorem dX4_goes_74 : decode cX4_goes 74 = .ok (.iconst 1, 1) := by decide +kernel
theorem dX4_goes_75 : decode cX4_goes 75 = .ok (.iadd, 1) := by decide +kernel
theorem dX4_goes_76 : decode cX4_goes 76 = .ok (.putfield 67, 3) := by decide +kernel
theorem dX4_goes_79 : decode cX4_goes 79 = .ok (.aload_n 0, 1) := by decide +kernel
theorem dX4_goes_80 : decode cX4_goes 80 = .ok (.dup, 1) := by decide +kernel
theorem dX4_goes_81 : decode cX4_goes 81 = .ok (.getfield 70, 3) := by decide +kernel
theorem dX4_goes_84 : decode cX4_goes 84 = .ok (.iload 5, 2) := by decide +kernel
theorem dX4_goes_86 : decode cX4_goes 86 = .ok (.iload_n 3, 1) := by decide +kernel
theorem dX4_goes_87 : decode cX4_goes 87 = .ok (.iadd, 1) := by decide +kernel
theorem dX4_goes_88 : decode cX4_goes 88 = .ok (.ifCond .ne 7, 3) := by decide +kernel
theorem dX4_goes_91 : decode cX4_goes 91 = .ok (.iconst 1, 1) := by decide +kernel
theorem dX4_goes_92 : decode cX4_goes 92 = .ok (.goto 4, 3) := by decide +kernel
theorem dX4_goes_95 : decode cX4_goes 95 = .ok (.iconst 0, 1) := by decide +kernel
theorem dX4_goes_96 : decode cX4_goes 96 = .ok (.iadd, 1) := by decide +kernel
theorem dX4_goes_97 : decode cX4_goes 97 = .ok (.putfield 70, 3) := by decide +kernel
theorem dX4_goes_100 : decode cX4_goes 100 = .ok (.iload 5, 2) := by decide +kernel
theorem dX4_goes_102 : decode cX4_goes 102 = .ok (.istore_n 3, 1) := by decide +kernel
theorem dX4_goes_103 : decode cX4_goes 103 = .ok (.iinc 4 1, 3) := by decide +kernel
theorem dX4_goes_106 : decode cX4_goes 106 = .ok (.goto (-84), 3) := by decide +kernel
theorem dX4_goes_109 : decode cX4_goes 109 = .ok (.aload_n 0, 1) := by decide +kernel
theorem dX4_goes_110 : decode cX4_goes 110 = .ok (.invokevirtual 76, 3) := by decide +kernel
theorem dX4_goes_113 : decode cX4_goes 113 = .ok (.ireturn, 1) := by decide +kernel
theorem dX4_laneAt_0 : decode cX4_laneAt 0 = .ok (.iload_n 1, 1) := by decide +kernel
theorem dX4_laneAt_1 : decode cX4_laneAt 1 = .ok (.ifCond .lt 18, 3) := by decide +kernel
theorem dX4_laneAt_4 : decode cX4_laneAt 4 = .ok (.iload_n 1, 1) := by decide +kernel
theorem dX4_laneAt_5 : decode cX4_laneAt 5 = .ok (.bipush 12, 2) := by decide +kernel
theorem dX4_laneAt_7 : decode cX4_laneAt 7 = .ok (.if_icmp .gt 12, 3) := by decide +kernel
theorem dX4_laneAt_10 : decode cX4_laneAt 10 = .ok (.aload_n 0, 1) := by decide +kernel
theorem dX4_laneAt_11 : decode cX4_laneAt 11 = .ok (.getfield 20, 3) := by decide +kernel
theorem dX4_laneAt_14 : decode cX4_laneAt 14 = .ok (.iload_n 1, 1) := by decide +kernel
theorem dX4_laneAt_15 : decode cX4_laneAt 15 = .ok (.iaload, 1) := by decide +kernel
theorem dX4_laneAt_16 : decode cX4_laneAt 16 = .ok (.goto 4, 3) := by decide +kernel
theorem dX4_laneAt_19 : decode cX4_laneAt 19 = .ok (.iconst (-1), 1) := by decide +kernel
theorem dX4_laneAt_20 : decode cX4_laneAt 20 = .ok (.ireturn, 1) := by decide +kernel
theorem dX4_span_0 : decode cX4_span 0 = .ok (.aload_n 0, 1) := by decide +kernel
theorem dX4_span_1 : decode cX4_span 1 = .ok (.getfield 20, 3) := by decide +kernel
theorem dX4_span_4 : decode cX4_span 4 = .ok (.bipush 12, 2) := by decide +kernel
theorem dX4_span_6 : decode cX4_span 6 = .ok (.iaload, 1) := by decide +kernel
theorem dX4_span_7 : decode cX4_span 7 = .ok (.aload_n 0, 1) := by decide +kernel
theorem dX4_span_8 : decode cX4_span 8 = .ok (.getfield 20, 3) := by decide +kernel
theorem dX4_span_11 : decode cX4_span 11 = .ok (.iconst 0, 1) := by decide +kernel
theorem dX4_span_12 : decode cX4_span 12 = .ok (.iaload, 1) := by decide +kernel
theorem dX4_span_13 : decode cX4_span 13 = .ok (.isub, 1) := by decide +kernel
theorem dX4_span_14 : decode cX4_span 14 = .ok (.invokestatic 80, 3) := by decide +kernel
theorem dX4_span_17 : decode cX4_span 17 = .ok (.ireturn, 1) := by decide +kernel
theorem dX4_score_0 : decode cX4_score 0 = .ok (.bipush 40, 2) := by decide +kernel
theorem dX4_score_2 : decode cX4_score 2 = .ok (.aload_n 0, 1) := by decide +kernel
theorem dX4_score_3 : decode cX4_score 3 = .ok (.getfield 67, 3) := by decide +kernel
theorem dX4_score_6 : decode cX4_score 6 = .ok (.isub, 1) := by decide +kernel
theorem dX4_score_7 : decode cX4_score 7 = .ok (.iconst 2, 1) := by decide +kernel
theorem dX4_score_8 : decode cX4_score 8 = .ok (.aload_n 0, 1) := by decide +kernel
theorem dX4_score_9 : decode cX4_score 9 = .ok (.getfield 70, 3) := by decide +kernel
theorem dX4_score_12 : decode cX4_score 12 = .ok (.imul, 1) := by decide +kernel
theorem dX4_score_13 : decode cX4_score 13 = .ok (.isub, 1) := by decide +kernel
theorem dX4_score_14 : decode cX4_score 14 = .ok (.aload_n 0, 1) := by decide +kernel
theorem dX4_score_15 : decode cX4_score 15 = .ok (.invokevirtual 86, 3) := by decide +kernel
theorem dX4_score_18 : decode cX4_score 18 = .ok (.isub, 1) := by decide +kernel
theorem dX4_score_19 : decode cX4_score 19 = .ok (.ireturn, 1) := by decide +kernel
theorem dX4_pegScore_0 : decode cX4_pegScore 0 = .ok (.aload_n 0, 1) := by decide +kernel
theorem dX4_pegScore_1 : decode cX4_pegScore 1 = .ok (.getfield 23, 3) := by decide +kernel
theorem dX4_pegScore_4 : decode cX4_pegScore 4 = .ok (.iload_n 1, 1) := by decide +kernel
theorem dX4_pegScore_5 : decode cX4_pegScore 5 = .ok (.invokevirtual 31, 3) := by decide +kernel
theorem dX4_pegScore_8 : decode cX4_pegScore 8 = .ok (.ifCond .eq 20, 3) := by decide +kernel
theorem dX4_pegScore_11 : decode cX4_pegScore 11 = .ok (.aload_n 0, 1) := by decide +kernel
theorem dX4_pegScore_12 : decode cX4_pegScore 12 = .ok (.iload_n 1, 1) := by decide +kernel
theorem dX4_pegScore_13 : decode cX4_pegScore 13 = .ok (.aload_n 0, 1) := by decide +kernel
theorem dX4_pegScore_14 : decode cX4_pegScore 14 = .ok (.getfield 23, 3) := by decide +kernel
theorem dX4_pegScore_17 : decode cX4_pegScore 17 = .ok (.getfield 89, 3) := by decide +kernel
theorem dX4_pegScore_20 : decode cX4_pegScore 20 = .ok (.iload_n 1, 1) := by decide +kernel
theorem dX4_pegScore_21 : decode cX4_pegScore 21 = .ok (.iaload, 1) := by decide +kernel
theorem dX4_pegScore_22 : decode cX4_pegScore 22 = .ok (.invokevirtual 92, 3) := by decide +kernel
theorem dX4_pegScore_25 : decode cX4_pegScore 25 = .ok (.goto 4, 3) := by decide +kernel
theorem dX4_pegScore_28 : decode cX4_pegScore 28 = .ok (.iconst 0, 1) := by decide +kernel
theorem dX4_pegScore_29 : decode cX4_pegScore 29 = .ok (.ireturn, 1) := by decide +kernel
theorem dX4_scoresAll_0 : decode cX4_scoresAll 0 = .ok (.iconst 0, 1) := by decide +kernel
theorem dX4_scoresAll_1 : decode cX4_scoresAll 1 = .ok (.istore_n 1, 1) := by decide +kernel
theorem dX4_scoresAll_2 : decode cX4_scoresAll 2 = .ok (.iload_n 1, 1) := by decide +kernel
theorem dX4_scoresAll_3 : decode cX4_scoresAll 3 = .ok (.aload_n 0, 1) := by decide +kernel
theorem dX4_scoresAll_4 : decode cX4_scoresAll 4 = .ok (.getfield 23, 3) := by decide +kernel
theorem dX4_scoresAll_7 : decode cX4_scoresAll 7 = .ok (.getfield 96, 3) := by decide +kernel
theorem dX4_scoresAll_10 : decode cX4_scoresAll 10 = .ok (.if_icmp .ge 49, 3) := by decide +kernel
theorem dX4_scoresAll_13 : decode cX4_scoresAll 13 = .ok (.iload_n 1, 1) := by decide +kernel
theorem dX4_scoresAll_14 : decode cX4_scoresAll 14 = .ok (.bipush 6, 2) := by decide +kernel
theorem dX4_scoresAll_16 : decode cX4_scoresAll 16 = .ok (.if_icmp .ge 43, 3) := by decide +kernel
theorem dX4_scoresAll_19 : decode cX4_scoresAll 19 = .ok (.aload_n 0, 1) := by decide +kernel
theorem dX4_scoresAll_20 : decode cX4_scoresAll 20 = .ok (.getfield 23, 3) := by decide +kernel
theorem dX4_scoresAll_23 : decode cX4_scoresAll 23 = .ok (.getfield 99, 3) := by decide +kernel
theorem dX4_scoresAll_26 : decode cX4_scoresAll 26 = .ok (.iload_n 1, 1) := by decide +kernel
theorem dX4_scoresAll_27 : decode cX4_scoresAll 27 = .ok (.invokestatic 102, 3) := by decide +kernel
theorem dX4_scoresAll_30 : decode cX4_scoresAll 30 = .ok (.ifCond .ne 23, 3) := by decide +kernel
theorem dX4_scoresAll_33 : decode cX4_scoresAll 33 = .ok (.aload_n 0, 1) := by decide +kernel
theorem dX4_scoresAll_34 : decode cX4_scoresAll 34 = .ok (.getfield 17, 3) := by decide +kernel
theorem dX4_scoresAll_37 : decode cX4_scoresAll 37 = .ok (.iload_n 1, 1) := by decide +kernel
theorem dX4_scoresAll_38 : decode cX4_scoresAll 38 = .ok (.aload_n 0, 1) := by decide +kernel
theorem dX4_scoresAll_39 : decode cX4_scoresAll 39 = .ok (.iload_n 1, 1) := by decide +kernel
theorem dX4_scoresAll_40 : decode cX4_scoresAll 40 = .ok (.aload_n 0, 1) := by decide +kernel
theorem dX4_scoresAll_41 : decode cX4_scoresAll 41 = .ok (.getfield 23, 3) := by decide +kernel
theorem dX4_scoresAll_44 : decode cX4_scoresAll 44 = .ok (.getfield 89, 3) := by decide +kernel
theorem dX4_scoresAll_47 : decode cX4_scoresAll 47 = .ok (.iload_n 1, 1) := by decide +kernel
theorem dX4_scoresAll_48 : decode cX4_scoresAll 48 = .ok (.iaload, 1) := by decide +kernel
theorem dX4_scoresAll_49 : decode cX4_scoresAll 49 = .ok (.invokevirtual 92, 3) := by decide +kernel
theorem dX4_scoresAll_52 : decode cX4_scoresAll 52 = .ok (.iastore, 1) := by decide +kernel
theorem dX4_scoresAll_53 : decode cX4_scoresAll 53 = .ok (.iinc 1 1, 3) := by decide +kernel
theorem dX4_scoresAll_56 : decode cX4_scoresAll 56 = .ok (.goto (-54), 3) := by decide +kernel
theorem dX4_scoresAll_59 : decode cX4_scoresAll 59 = .ok (.return_, 1) := by decide +kernel
theorem dX4_whoHas_0 : decode cX4_whoHas 0 = .ok (.iconst 0, 1) := by decide +kernel
theorem dX4_whoHas_1 : decode cX4_whoHas 1 = .ok (.istore_n 2, 1) := by decide +kernel
theorem dX4_whoHas_2 : decode cX4_whoHas 2 = .ok (.iconst 0, 1) := by decide +kernel
theorem dX4_whoHas_3 : decode cX4_whoHas 3 = .ok (.istore_n 3, 1) := by decide +kernel
theorem dX4_whoHas_4 : decode cX4_whoHas 4 = .ok (.iload_n 3, 1) := by decide +kernel
theorem dX4_whoHas_5 : decode cX4_whoHas 5 = .ok (.aload_n 0, 1) := by decide +kernel
theorem dX4_whoHas_6 : decode cX4_whoHas 6 = .ok (.getfield 23, 3) := by decide +kernel
theorem dX4_whoHas_9 : decode cX4_whoHas 9 = .ok (.getfield 96, 3) := by decide +kernel
theorem dX4_whoHas_12 : decode cX4_whoHas 12 = .ok (.if_icmp .ge 45, 3) := by decide +kernel
theorem dX4_whoHas_15 : decode cX4_whoHas 15 = .ok (.iload_n 3, 1) := by decide +kernel
theorem dX4_whoHas_16 : decode cX4_whoHas 16 = .ok (.bipush 6, 2) := by decide +kernel
theorem dX4_whoHas_18 : decode cX4_whoHas 18 = .ok (.if_icmp .ge 39, 3) := by decide +kernel
theorem dX4_whoHas_21 : decode cX4_whoHas 21 = .ok (.aload_n 0, 1) := by decide +kernel
theorem dX4_whoHas_22 : decode cX4_whoHas 22 = .ok (.getfield 23, 3) := by decide +kernel
theorem dX4_whoHas_25 : decode cX4_whoHas 25 = .ok (.getfield 99, 3) := by decide +kernel
theorem dX4_whoHas_28 : decode cX4_whoHas 28 = .ok (.iload_n 3, 1) := by decide +kernel
theorem dX4_whoHas_29 : decode cX4_whoHas 29 = .ok (.invokestatic 102, 3) := by decide +kernel
theorem dX4_whoHas_32 : decode cX4_whoHas 32 = .ok (.ifCond .ne 19, 3) := by decide +kernel
theorem dX4_whoHas_35 : decode cX4_whoHas 35 = .ok (.aload_n 0, 1) := by decide +kernel
theorem dX4_whoHas_36 : decode cX4_whoHas 36 = .ok (.getfield 17, 3) := by decide +kernel
theorem dX4_whoHas_39 : decode cX4_whoHas 39 = .ok (.iload_n 3, 1) := by decide +kernel
theorem dX4_whoHas_40 : decode cX4_whoHas 40 = .ok (.iaload, 1) := by decide +kernel
theorem dX4_whoHas_41 : decode cX4_whoHas 41 = .ok (.iload_n 1, 1) := by decide +kernel
theorem dX4_whoHas_42 : decode cX4_whoHas 42 = .ok (.if_icmp .lt 9, 3) := by decide +kernel
theorem dX4_whoHas_45 : decode cX4_whoHas 45 = .ok (.iload_n 2, 1) := by decide +kernel
theorem dX4_whoHas_46 : decode cX4_whoHas 46 = .ok (.iconst 1, 1) := by decide +kernel
theorem dX4_whoHas_47 : decode cX4_whoHas 47 = .ok (.iload_n 3, 1) := by decide +kernel
theorem dX4_whoHas_48 : decode cX4_whoHas 48 = .ok (.ishl, 1) := by decide +kernel
theorem dX4_whoHas_49 : decode cX4_whoHas 49 = .ok (.ior, 1) := by decide +kernel
theorem dX4_whoHas_50 : decode cX4_whoHas 50 = .ok (.istore_n 2, 1) := by decide +kernel
theorem dX4_whoHas_51 : decode cX4_whoHas 51 = .ok (.iinc 3 1, 3) := by decide +kernel
theorem dX4_whoHas_54 : decode cX4_whoHas 54 = .ok (.goto (-50), 3) := by decide +kernel
theorem dX4_whoHas_57 : decode cX4_whoHas 57 = .ok (.iload_n 2, 1) := by decide +kernel
theorem dX4_whoHas_58 : decode cX4_whoHas 58 = .ok (.ireturn, 1) := by decide +kernel
theorem dX4_bestOfAll_0 : decode cX4_bestOfAll 0 = .ok (.bipush (-5), 2) := by decide +kernel
theorem dX4_bestOfAll_2 : decode cX4_bestOfAll 2 = .ok (.istore_n 1, 1) := by decide +kernel
theorem dX4_bestOfAll_3 : decode cX4_bestOfAll 3 = .ok (.ldc 105, 2) := by decide +kernel
theorem dX4_bestOfAll_5 : decode cX4_bestOfAll 5 = .ok (.istore_n 2, 1) := by decide +kernel
theorem dX4_bestOfAll_6 : decode cX4_bestOfAll 6 = .ok (.iconst 0, 1) := by decide +kernel
theorem dX4_bestOfAll_7 : decode cX4_bestOfAll 7 = .ok (.istore_n 3, 1) := by decide +kernel
theorem dX4_bestOfAll_8 : decode cX4_bestOfAll 8 = .ok (.iload_n 3, 1) := by decide +kernel
theorem dX4_bestOfAll_9 : decode cX4_bestOfAll 9 = .ok (.aload_n 0, 1) := by decide +kernel
theorem dX4_bestOfAll_10 : decode cX4_bestOfAll 10 = .ok (.getfield 23, 3) := by decide +kernel
theorem dX4_bestOfAll_13 : decode cX4_bestOfAll 13 = .ok (.getfield 96, 3) := by decide +kernel
theorem dX4_bestOfAll_16 : decode cX4_bestOfAll 16 = .ok (.if_icmp .ge 48, 3) := by decide +kernel
theorem dX4_bestOfAll_19 : decode cX4_bestOfAll 19 = .ok (.iload_n 3, 1) := by decide +kernel
theorem dX4_bestOfAll_20 : decode cX4_bestOfAll 20 = .ok (.bipush 6, 2) := by decide +kernel
theorem dX4_bestOfAll_22 : decode cX4_bestOfAll 22 = .ok (.if_icmp .ge 42, 3) := by decide +kernel
theorem dX4_bestOfAll_25 : decode cX4_bestOfAll 25 = .ok (.aload_n 0, 1) := by decide +kernel
theorem dX4_bestOfAll_26 : decode cX4_bestOfAll 26 = .ok (.getfield 23, 3) := by decide +kernel
theorem dX4_bestOfAll_29 : decode cX4_bestOfAll 29 = .ok (.getfield 99, 3) := by decide +kernel
theorem dX4_bestOfAll_32 : decode cX4_bestOfAll 32 = .ok (.iload_n 3, 1) := by decide +kernel
theorem dX4_bestOfAll_33 : decode cX4_bestOfAll 33 = .ok (.invokestatic 102, 3) := by decide +kernel
theorem dX4_bestOfAll_36 : decode cX4_bestOfAll 36 = .ok (.ifCond .ne 22, 3) := by decide +kernel
theorem dX4_bestOfAll_39 : decode cX4_bestOfAll 39 = .ok (.aload_n 0, 1) := by decide +kernel
theorem dX4_bestOfAll_40 : decode cX4_bestOfAll 40 = .ok (.getfield 17, 3) := by decide +kernel
theorem dX4_bestOfAll_43 : decode cX4_bestOfAll 43 = .ok (.iload_n 3, 1) := by decide +kernel
theorem dX4_bestOfAll_44 : decode cX4_bestOfAll 44 = .ok (.iaload, 1) := by decide +kernel
theorem dX4_bestOfAll_45 : decode cX4_bestOfAll 45 = .ok (.iload_n 2, 1) := by decide +kernel
theorem dX4_bestOfAll_46 : decode cX4_bestOfAll 46 = .ok (.if_icmp .le 12, 3) := by decide +kernel
theorem dX4_bestOfAll_49 : decode cX4_bestOfAll 49 = .ok (.aload_n 0, 1) := by decide +kernel
theorem dX4_bestOfAll_50 : decode cX4_bestOfAll 50 = .ok (.getfield 17, 3) := by decide +kernel
theorem dX4_bestOfAll_53 : decode cX4_bestOfAll 53 = .ok (.iload_n 3, 1) := by decide +kernel
theorem dX4_bestOfAll_54 : decode cX4_bestOfAll 54 = .ok (.iaload, 1) := by decide +kernel
theorem dX4_bestOfAll_55 : decode cX4_bestOfAll 55 = .ok (.istore_n 2, 1) := by decide +kernel
theorem dX4_bestOfAll_56 : decode cX4_bestOfAll 56 = .ok (.iload_n 3, 1) := by decide +kernel
theorem dX4_bestOfAll_57 : decode cX4_bestOfAll 57 = .ok (.istore_n 1, 1) := by decide +kernel
theorem dX4_bestOfAll_58 : decode cX4_bestOfAll 58 = .ok (.iinc 3 1, 3) := by decide +kernel
theorem dX4_bestOfAll_61 : decode cX4_bestOfAll 61 = .ok (.goto (-53), 3) := by decide +kernel
theorem dX4_bestOfAll_64 : decode cX4_bestOfAll 64 = .ok (.iload_n 1, 1) := by decide +kernel
theorem dX4_bestOfAll_65 : decode cX4_bestOfAll 65 = .ok (.ireturn, 1) := by decide +kernel
theorem dX4_yearsGo_0 : decode cX4_yearsGo 0 = .ok (.aload_n 0, 1) := by decide +kernel
theorem dX4_yearsGo_1 : decode cX4_yearsGo 1 = .ok (.getfield 23, 3) := by decide +kernel
theorem dX4_yearsGo_4 : decode cX4_yearsGo 4 = .ok (.getfield 49, 3) := by decide +kernel
theorem dX4_yearsGo_7 : decode cX4_yearsGo 7 = .ok (.istore_n 3, 1) := by decide +kernel
theorem dX4_yearsGo_8 : decode cX4_yearsGo 8 = .ok (.iconst 0, 1) := by decide +kernel
theorem dX4_yearsGo_9 : decode cX4_yearsGo 9 = .ok (.istore 4, 2) := by decide +kernel
theorem dX4_yearsGo_11 : decode cX4_yearsGo 11 = .ok (.iload 4, 2) := by decide +kernel
theorem dX4_yearsGo_13 : decode cX4_yearsGo 13 = .ok (.iload_n 1, 1) := by decide +kernel
theorem dX4_yearsGo_14 : decode cX4_yearsGo 14 = .ok (.if_icmp .ge 119, 3) := by decide +kernel
theorem dX4_yearsGo_17 : decode cX4_yearsGo 17 = .ok (.iload 4, 2) := by decide +kernel
theorem dX4_yearsGo_19 : decode cX4_yearsGo 19 = .ok (.bipush 10, 2) := by decide +kernel
theorem dX4_yearsGo_21 : decode cX4_yearsGo 21 = .ok (.if_icmp .ge 112, 3) := by decide +kernel
theorem dX4_yearsGo_24 : decode cX4_yearsGo 24 = .ok (.aload_n 0, 1) := by decide +kernel
theorem dX4_yearsGo_25 : decode cX4_yearsGo 25 = .ok (.getfield 23, 3) := by decide +kernel
theorem dX4_yearsGo_28 : decode cX4_yearsGo 28 = .ok (.iload_n 3, 1) := by decide +kernel
theorem dX4_yearsGo_29 : decode cX4_yearsGo 29 = .ok (.iload 4, 2) := by decide +kernel
theorem dX4_yearsGo_31 : decode cX4_yearsGo 31 = .ok (.iadd, 1) := by decide +kernel
theorem dX4_yearsGo_32 : decode cX4_yearsGo 32 = .ok (.putfield 49, 3) := by decide +kernel
theorem dX4_yearsGo_35 : decode cX4_yearsGo 35 = .ok (.iload_n 1, 1) := by decide +kernel
theorem dX4_yearsGo_36 : decode cX4_yearsGo 36 = .ok (.iload 4, 2) := by decide +kernel
theorem dX4_yearsGo_38 : decode cX4_yearsGo 38 = .ok (.isub, 1) := by decide +kernel
theorem dX4_yearsGo_39 : decode cX4_yearsGo 39 = .ok (.bipush 10, 2) := by decide +kernel
theorem dX4_yearsGo_41 : decode cX4_yearsGo 41 = .ok (.iadd, 1) := by decide +kernel
theorem dX4_yearsGo_42 : decode cX4_yearsGo 42 = .ok (.iconst 1, 1) := by decide +kernel
theorem dX4_yearsGo_43 : decode cX4_yearsGo 43 = .ok (.isub, 1) := by decide +kernel
theorem dX4_yearsGo_44 : decode cX4_yearsGo 44 = .ok (.bipush 10, 2) := by decide +kernel
theorem dX4_yearsGo_46 : decode cX4_yearsGo 46 = .ok (.idiv, 1) := by decide +kernel
theorem dX4_yearsGo_47 : decode cX4_yearsGo 47 = .ok (.istore 5, 2) := by decide +kernel
theorem dX4_yearsGo_49 : decode cX4_yearsGo 49 = .ok (.aload_n 0, 1) := by decide +kernel
theorem dX4_yearsGo_50 : decode cX4_yearsGo 50 = .ok (.invokevirtual 106, 3) := by decide +kernel
theorem dX4_yearsGo_53 : decode cX4_yearsGo 53 = .ok (.aload_n 0, 1) := by decide +kernel
theorem dX4_yearsGo_54 : decode cX4_yearsGo 54 = .ok (.invokevirtual 109, 3) := by decide +kernel
theorem dX4_yearsGo_57 : decode cX4_yearsGo 57 = .ok (.istore 6, 2) := by decide +kernel
theorem dX4_yearsGo_59 : decode cX4_yearsGo 59 = .ok (.aload_n 0, 1) := by decide +kernel
theorem dX4_yearsGo_60 : decode cX4_yearsGo 60 = .ok (.getfield 23, 3) := by decide +kernel
theorem dX4_yearsGo_63 : decode cX4_yearsGo 63 = .ok (.iload 6, 2) := by decide +kernel
theorem dX4_yearsGo_65 : decode cX4_yearsGo 65 = .ok (.invokevirtual 31, 3) := by decide +kernel
theorem dX4_yearsGo_68 : decode cX4_yearsGo 68 = .ok (.ifCond .eq 30, 3) := by decide +kernel
theorem dX4_yearsGo_71 : decode cX4_yearsGo 71 = .ok (.aload_n 0, 1) := by decide +kernel
theorem dX4_yearsGo_72 : decode cX4_yearsGo 72 = .ok (.getfield 23, 3) := by decide +kernel
theorem dX4_yearsGo_75 : decode cX4_yearsGo 75 = .ok (.getfield 112, 3) := by decide +kernel
theorem dX4_yearsGo_78 : decode cX4_yearsGo 78 = .ok (.iload 6, 2) := by decide +kernel
theorem dX4_yearsGo_80 : decode cX4_yearsGo 80 = .ok (.iload_n 2, 1) := by decide +kernel
theorem dX4_yearsGo_81 : decode cX4_yearsGo 81 = .ok (.aload_n 0, 1) := by decide +kernel
theorem dX4_yearsGo_82 : decode cX4_yearsGo 82 = .ok (.getfield 23, 3) := by decide +kernel
theorem dX4_yearsGo_85 : decode cX4_yearsGo 85 = .ok (.getfield 112, 3) := by decide +kernel
theorem dX4_yearsGo_88 : decode cX4_yearsGo 88 = .ok (.iload 6, 2) := by decide +kernel
theorem dX4_yearsGo_90 : decode cX4_yearsGo 90 = .ok (.iaload, 1) := by decide +kernel
theorem dX4_yearsGo_91 : decode cX4_yearsGo 91 = .ok (.iload 5, 2) := by decide +kernel
theorem dX4_yearsGo_93 : decode cX4_yearsGo 93 = .ok (.iadd, 1) := by decide +kernel
theorem dX4_yearsGo_94 : decode cX4_yearsGo 94 = .ok (.invokestatic 115, 3) := by decide +kernel
theorem dX4_yearsGo_97 : decode cX4_yearsGo 97 = .ok (.iastore, 1) := by decide +kernel
theorem dX4_yearsGo_98 : decode cX4_yearsGo 98 = .ok (.iload 4, 2) := by decide +kernel
theorem dX4_yearsGo_100 : decode cX4_yearsGo 100 = .ok (.iload_n 1, 1) := by decide +kernel
theorem dX4_yearsGo_101 : decode cX4_yearsGo 101 = .ok (.iconst 1, 1) := by decide +kernel
theorem dX4_yearsGo_102 : decode cX4_yearsGo 102 = .ok (.isub, 1) := by decide +kernel
theorem dX4_yearsGo_103 : decode cX4_yearsGo 103 = .ok (.bipush 10, 2) := by decide +kernel
theorem dX4_yearsGo_105 : decode cX4_yearsGo 105 = .ok (.irem, 1) := by decide +kernel
theorem dX4_yearsGo_106 : decode cX4_yearsGo 106 = .ok (.if_icmp .ne 21, 3) := by decide +kernel
theorem dX4_yearsGo_109 : decode cX4_yearsGo 109 = .ok (.aload_n 0, 1) := by decide +kernel
theorem dX4_yearsGo_110 : decode cX4_yearsGo 110 = .ok (.getfield 23, 3) := by decide +kernel
theorem dX4_yearsGo_113 : decode cX4_yearsGo 113 = .ok (.aload_n 0, 1) := by decide +kernel
theorem dX4_yearsGo_114 : decode cX4_yearsGo 114 = .ok (.aload_n 0, 1) := by decide +kernel
theorem dX4_yearsGo_115 : decode cX4_yearsGo 115 = .ok (.getfield 27, 3) := by decide +kernel
theorem dX4_yearsGo_118 : decode cX4_yearsGo 118 = .ok (.getfield 118, 3) := by decide +kernel
theorem dX4_yearsGo_121 : decode cX4_yearsGo 121 = .ok (.invokevirtual 121, 3) := by decide +kernel
theorem dX4_yearsGo_124 : decode cX4_yearsGo 124 = .ok (.putfield 124, 3) := by decide +kernel
theorem dX4_yearsGo_127 : decode cX4_yearsGo 127 = .ok (.iinc 4 1, 3) := by decide +kernel
theorem dX4_yearsGo_130 : decode cX4_yearsGo 130 = .ok (.goto (-119), 3) := by decide +kernel
theorem dX4_yearsGo_133 : decode cX4_yearsGo 133 = .ok (.aload_n 0, 1) := by decide +kernel
theorem dX4_yearsGo_134 : decode cX4_yearsGo 134 = .ok (.getfield 23, 3) := by decide +kernel
theorem dX4_yearsGo_137 : decode cX4_yearsGo 137 = .ok (.iload_n 3, 1) := by decide +kernel
theorem dX4_yearsGo_138 : decode cX4_yearsGo 138 = .ok (.iload_n 1, 1) := by decide +kernel
theorem dX4_yearsGo_139 : decode cX4_yearsGo 139 = .ok (.iadd, 1) := by decide +kernel
theorem dX4_yearsGo_140 : decode cX4_yearsGo 140 = .ok (.putfield 49, 3) := by decide +kernel
theorem dX4_yearsGo_143 : decode cX4_yearsGo 143 = .ok (.return_, 1) := by decide +kernel
theorem dX5_init_0 : decode cX5_init 0 = .ok (.aload_n 0, 1) := by decide +kernel
theorem dX5_init_1 : decode cX5_init 1 = .ok (.invokespecial 3, 3) := by decide +kernel
theorem dX5_init_4 : decode cX5_init 4 = .ok (.aload_n 0, 1) := by decide +kernel
theorem dX5_init_5 : decode cX5_init 5 = .ok (.new 9, 3) := by decide +kernel
theorem dX5_init_8 : decode cX5_init 8 = .ok (.dup, 1) := by decide +kernel
theorem dX5_init_9 : decode cX5_init 9 = .ok (.invokespecial 11, 3) := by decide +kernel
theorem dX5_init_12 : decode cX5_init 12 = .ok (.putfield 12, 3) := by decide +kernel
theorem dX5_init_15 : decode cX5_init 15 = .ok (.aload_n 0, 1) := by decide +kernel
theorem dX5_init_16 : decode cX5_init 16 = .ok (.aload_n 1, 1) := by decide +kernel
theorem dX5_init_17 : decode cX5_init 17 = .ok (.putfield 18, 3) := by decide +kernel
theorem dX5_init_20 : decode cX5_init 20 = .ok (.return_, 1) := by decide +kernel
theorem dX5_faultOfTape_0 : decode cX5_faultOfTape 0 = .ok (.aload_n 0, 1) := by decide +kernel
theorem dX5_faultOfTape_1 : decode cX5_faultOfTape 1 = .ok (.getfield 12, 3) := by decide +kernel
theorem dX5_faultOfTape_4 : decode cX5_faultOfTape 4 = .ok (.invokevirtual 22, 3) := by decide +kernel
theorem dX5_faultOfTape_7 : decode cX5_faultOfTape 7 = .ok (.aload_n 0, 1) := by decide +kernel
theorem dX5_faultOfTape_8 : decode cX5_faultOfTape 8 = .ok (.iconst (-1), 1) := by decide +kernel
theorem dX5_faultOfTape_9 : decode cX5_faultOfTape 9 = .ok (.putfield 25, 3) := by decide +kernel
theorem dX5_faultOfTape_12 : decode cX5_faultOfTape 12 = .ok (.aload_n 0, 1) := by decide +kernel
theorem dX5_faultOfTape_13 : decode cX5_faultOfTape 13 = .ok (.invokevirtual 29, 3) := by decide +kernel
theorem dX5_faultOfTape_16 : decode cX5_faultOfTape 16 = .ok (.iconst 1, 1) := by decide +kernel
theorem dX5_faultOfTape_17 : decode cX5_faultOfTape 17 = .ok (.istore_n 1, 1) := by decide +kernel
theorem dX5_faultOfTape_18 : decode cX5_faultOfTape 18 = .ok (.iload_n 1, 1) := by decide +kernel
theorem dX5_faultOfTape_19 : decode cX5_faultOfTape 19 = .ok (.bipush 10, 2) := by decide +kernel
theorem dX5_faultOfTape_21 : decode cX5_faultOfTape 21 = .ok (.if_icmp .gt 168, 3) := by decide +kernel
theorem dX5_faultOfTape_24 : decode cX5_faultOfTape 24 = .ok (.aload_n 0, 1) := by decide +kernel
theorem dX5_faultOfTape_25 : decode cX5_faultOfTape 25 = .ok (.getfield 32, 3) := by decide +kernel
theorem dX5_faultOfTape_28 : decode cX5_faultOfTape 28 = .ok (.bipush 112, 2) := by decide +kernel
theorem dX5_faultOfTape_30 : decode cX5_faultOfTape 30 = .ok (.if_icmp .ne 7, 3) := by decide +kernel
theorem dX5_faultOfTape_33 : decode cX5_faultOfTape 33 = .ok (.iconst 1, 1) := by decide +kernel
theorem dX5_faultOfTape_34 : decode cX5_faultOfTape 34 = .ok (.goto 4, 3) := by decide +kernel
theorem dX5_faultOfTape_37 : decode cX5_faultOfTape 37 = .ok (.iconst 0, 1) := by decide +kernel
theorem dX5_faultOfTape_38 : decode cX5_faultOfTape 38 = .ok (.istore_n 2, 1) := by decide +kernel
theorem dX5_faultOfTape_39 : decode cX5_faultOfTape 39 = .ok (.aload_n 0, 1) := by decide +kernel
theorem dX5_faultOfTape_40 : decode cX5_faultOfTape 40 = .ok (.getfield 32, 3) := by decide +kernel
theorem dX5_faultOfTape_43 : decode cX5_faultOfTape 43 = .ok (.bipush 100, 2) := by decide +kernel
theorem dX5_faultOfTape_45 : decode cX5_faultOfTape 45 = .ok (.if_icmp .ne 7, 3) := by decide +kernel
theorem dX5_faultOfTape_48 : decode cX5_faultOfTape 48 = .ok (.iconst 1, 1) := by decide +kernel
theorem dX5_faultOfTape_49 : decode cX5_faultOfTape 49 = .ok (.goto 4, 3) := by decide +kernel
theorem dX5_faultOfTape_52 : decode cX5_faultOfTape 52 = .ok (.iconst 0, 1) := by decide +kernel
theorem dX5_faultOfTape_53 : decode cX5_faultOfTape 53 = .ok (.istore_n 3, 1) := by decide +kernel
theorem dX5_faultOfTape_54 : decode cX5_faultOfTape 54 = .ok (.aload_n 0, 1) := by decide +kernel
theorem dX5_faultOfTape_55 : decode cX5_faultOfTape 55 = .ok (.iload_n 2, 1) := by decide +kernel
theorem dX5_faultOfTape_56 : decode cX5_faultOfTape 56 = .ok (.ifCond .eq 8, 3) := by decide +kernel
theorem dX5_faultOfTape_59 : decode cX5_faultOfTape 59 = .ok (.ldc 35, 2) := by decide +kernel
theorem dX5_faultOfTape_61 : decode cX5_faultOfTape 61 = .ok (.goto 14, 3) := by decide +kernel
theorem dX5_faultOfTape_64 : decode cX5_faultOfTape 64 = .ok (.iload_n 3, 1) := by decide +kernel
theorem dX5_faultOfTape_65 : decode cX5_faultOfTape 65 = .ok (.ifCond .eq 8, 3) := by decide +kernel
theorem dX5_faultOfTape_68 : decode cX5_faultOfTape 68 = .ok (.ldc 37, 2) := by decide +kernel
theorem dX5_faultOfTape_70 : decode cX5_faultOfTape 70 = .ok (.goto 5, 3) := by decide +kernel
theorem dX5_faultOfTape_73 : decode cX5_faultOfTape 73 = .ok (.ldc 39, 2) := by decide +kernel
theorem dX5_faultOfTape_75 : decode cX5_faultOfTape 75 = .ok (.invokevirtual 41, 3) := by decide +kernel
theorem dX5_faultOfTape_78 : decode cX5_faultOfTape 78 = .ok (.ifCond .ne 8, 3) := by decide +kernel
theorem dX5_faultOfTape_81 : decode cX5_faultOfTape 81 = .ok (.aload_n 0, 1) := by decide +kernel
theorem dX5_faultOfTape_82 : decode cX5_faultOfTape 82 = .ok (.getfield 25, 3) := by decide +kernel
theorem dX5_faultOfTape_85 : decode cX5_faultOfTape 85 = .ok (.ireturn, 1) := by decide +kernel
theorem dX5_faultOfTape_86 : decode cX5_faultOfTape 86 = .ok (.aload_n 0, 1) := by decide +kernel
theorem dX5_faultOfTape_87 : decode cX5_faultOfTape 87 = .ok (.getfield 45, 3) := by decide +kernel
theorem dX5_faultOfTape_90 : decode cX5_faultOfTape 90 = .ok (.istore 4, 2) := by decide +kernel
theorem dX5_faultOfTape_92 : decode cX5_faultOfTape 92 = .ok (.iload_n 2, 1) := by decide +kernel
theorem dX5_faultOfTape_93 : decode cX5_faultOfTape 93 = .ok (.ifCond .eq 15, 3) := by decide +kernel
theorem dX5_faultOfTape_96 : decode cX5_faultOfTape 96 = .ok (.aload_n 0, 1) := by decide +kernel
theorem dX5_faultOfTape_97 : decode cX5_faultOfTape 97 = .ok (.getfield 12, 3) := by decide +kernel
theorem dX5_faultOfTape_100 : decode cX5_faultOfTape 100 = .ok (.iload 4, 2) := by decide +kernel
theorem dX5_faultOfTape_102 : decode cX5_faultOfTape 102 = .ok (.putfield 48, 3) := by decide +kernel
theorem dX5_faultOfTape_105 : decode cX5_faultOfTape 105 = .ok (.goto 48, 3) := by decide +kernel
theorem dX5_faultOfTape_108 : decode cX5_faultOfTape 108 = .ok (.aload_n 0, 1) := by decide +kernel
theorem dX5_faultOfTape_109 : decode cX5_faultOfTape 109 = .ok (.bipush 32, 2) := by decide +kernel
theorem dX5_faultOfTape_111 : decode cX5_faultOfTape 111 = .ok (.invokevirtual 51, 3) := by decide +kernel
theorem dX5_faultOfTape_114 : decode cX5_faultOfTape 114 = .ok (.ifCond .eq 34, 3) := by decide +kernel
theorem dX5_faultOfTape_117 : decode cX5_faultOfTape 117 = .ok (.aload_n 0, 1) := by decide +kernel
theorem dX5_faultOfTape_118 : decode cX5_faultOfTape 118 = .ok (.iconst 0, 1) := by decide +kernel
theorem dX5_faultOfTape_119 : decode cX5_faultOfTape 119 = .ok (.invokevirtual 55, 3) := by decide +kernel
theorem dX5_faultOfTape_122 : decode cX5_faultOfTape 122 = .ok (.ifCond .eq 26, 3) := by decide +kernel
theorem dX5_faultOfTape_125 : decode cX5_faultOfTape 125 = .ok (.aload_n 0, 1) := by decide +kernel
theorem dX5_faultOfTape_126 : decode cX5_faultOfTape 126 = .ok (.getfield 12, 3) := by decide +kernel
theorem dX5_faultOfTape_129 : decode cX5_faultOfTape 129 = .ok (.iload_n 3, 1) := by decide +kernel
theorem dX5_faultOfTape_130 : decode cX5_faultOfTape 130 = .ok (.ifCond .eq 8, 3) := by decide +kernel
theorem dX5_faultOfTape_133 : decode cX5_faultOfTape 133 = .ok (.bipush 21, 2) := by decide +kernel
theorem dX5_faultOfTape_135 : decode cX5_faultOfTape 135 = .ok (.goto 5, 3) := by decide +kernel
theorem dX5_faultOfTape_138 : decode cX5_faultOfTape 138 = .ok (.bipush 22, 2) := by decide +kernel
theorem dX5_faultOfTape_140 : decode cX5_faultOfTape 140 = .ok (.iload 4, 2) := by decide +kernel
theorem dX5_faultOfTape_142 : decode cX5_faultOfTape 142 = .ok (.invokevirtual 58, 3) := by decide +kernel
theorem dX5_faultOfTape_145 : decode cX5_faultOfTape 145 = .ok (.goto 8, 3) := by decide +kernel
theorem dX5_faultOfTape_148 : decode cX5_faultOfTape 148 = .ok (.aload_n 0, 1) := by decide +kernel
theorem dX5_faultOfTape_149 : decode cX5_faultOfTape 149 = .ok (.getfield 25, 3) := by decide +kernel
theorem dX5_faultOfTape_152 : decode cX5_faultOfTape 152 = .ok (.ireturn, 1) := by decide +kernel
theorem dX5_faultOfTape_153 : decode cX5_faultOfTape 153 = .ok (.aload_n 0, 1) := by decide +kernel
theorem dX5_faultOfTape_154 : decode cX5_faultOfTape 154 = .ok (.getfield 32, 3) := by decide +kernel
theorem dX5_faultOfTape_157 : decode cX5_faultOfTape 157 = .ok (.iconst (-1), 1) := by decide +kernel
theorem dX5_faultOfTape_158 : decode cX5_faultOfTape 158 = .ok (.if_icmp .ne 5, 3) := by decide +kernel
theorem dX5_faultOfTape_161 : decode cX5_faultOfTape 161 = .ok (.iconst (-1), 1) := by decide +kernel
theorem dX5_faultOfTape_162 : decode cX5_faultOfTape 162 = .ok (.ireturn, 1) := by decide +kernel
theorem dX5_faultOfTape_163 : decode cX5_faultOfTape 163 = .ok (.iload_n 1, 1) := by decide +kernel
theorem dX5_faultOfTape_164 : decode cX5_faultOfTape 164 = .ok (.bipush 10, 2) := by decide +kernel
theorem dX5_faultOfTape_166 : decode cX5_faultOfTape 166 = .ok (.if_icmp .eq 12, 3) := by decide +kernel
theorem dX5_faultOfTape_169 : decode cX5_faultOfTape 169 = .ok (.aload_n 0, 1) := by decide +kernel
theorem dX5_faultOfTape_170 : decode cX5_faultOfTape 170 = .ok (.bipush 59, 2) := by decide +kernel
theorem dX5_faultOfTape_172 : decode cX5_faultOfTape 172 = .ok (.invokevirtual 51, 3) := by decide +kernel
theorem dX5_faultOfTape_175 : decode cX5_faultOfTape 175 = .ok (.ifCond .ne 8, 3) := by decide +kernel
theorem dX5_faultOfTape_178 : decode cX5_faultOfTape 178 = .ok (.aload_n 0, 1) := by decide +kernel
theorem dX5_faultOfTape_179 : decode cX5_faultOfTape 179 = .ok (.getfield 25, 3) := by decide +kernel
theorem dX5_faultOfTape_182 : decode cX5_faultOfTape 182 = .ok (.ireturn, 1) := by decide +kernel
theorem dX5_faultOfTape_183 : decode cX5_faultOfTape 183 = .ok (.iinc 1 1, 3) := by decide +kernel
theorem dX5_faultOfTape_186 : decode cX5_faultOfTape 186 = .ok (.goto (-168), 3) := by decide +kernel
theorem dX5_faultOfTape_189 : decode cX5_faultOfTape 189 = .ok (.aload_n 0, 1) := by decide +kernel
theorem dX5_faultOfTape_190 : decode cX5_faultOfTape 190 = .ok (.getfield 25, 3) := by decide +kernel
theorem dX5_faultOfTape_193 : decode cX5_faultOfTape 193 = .ok (.ireturn, 1) := by decide +kernel
theorem dX5_heads_0 : decode cX5_heads 0 = .ok (.iconst 0, 1) := by decide +kernel
theorem dX5_heads_1 : decode cX5_heads 1 = .ok (.istore_n 2, 1) := by decide +kernel
theorem dX5_heads_2 : decode cX5_heads 2 = .ok (.iload_n 2, 1) := by decide +kernel
theorem dX5_heads_3 : decode cX5_heads 3 = .ok (.aload_n 1, 1) := by decide +kernel
theorem dX5_heads_4 : decode cX5_heads 4 = .ok (.invokevirtual 62, 3) := by decide +kernel
theorem dX5_heads_7 : decode cX5_heads 7 = .ok (.if_icmp .ge 23, 3) := by decide +kernel
theorem dX5_heads_10 : decode cX5_heads 10 = .ok (.aload_n 0, 1) := by decide +kernel
theorem dX5_heads_11 : decode cX5_heads 11 = .ok (.aload_n 1, 1) := by decide +kernel
theorem dX5_heads_12 : decode cX5_heads 12 = .ok (.iload_n 2, 1) := by decide +kernel
theorem dX5_heads_13 : decode cX5_heads 13 = .ok (.invokevirtual 68, 3) := by decide +kernel
theorem dX5_heads_16 : decode cX5_heads 16 = .ok (.invokevirtual 51, 3) := by decide +kernel
theorem dX5_heads_19 : decode cX5_heads 19 = .ok (.ifCond .ne 5, 3) := by decide +kernel
theorem dX5_heads_22 : decode cX5_heads 22 = .ok (.iconst 0, 1) := by decide +kernel
theorem dX5_heads_23 : decode cX5_heads 23 = .ok (.ireturn, 1) := by decide +kernel
theorem dX5_heads_24 : decode cX5_heads 24 = .ok (.iinc 2 1, 3) := by decide +kernel
theorem dX5_heads_27 : decode cX5_heads 27 = .ok (.goto (-25), 3) := by decide +kernel
theorem dX5_heads_30 : decode cX5_heads 30 = .ok (.aload_n 0, 1) := by decide +kernel
theorem dX5_heads_31 : decode cX5_heads 31 = .ok (.bipush 32, 2) := by decide +kernel
theorem dX5_heads_33 : decode cX5_heads 33 = .ok (.invokevirtual 51, 3) := by decide +kernel
theorem dX5_heads_36 : decode cX5_heads 36 = .ok (.ifCond .eq 14, 3) := by decide +kernel
theorem dX5_heads_39 : decode cX5_heads 39 = .ok (.aload_n 0, 1) := by decide +kernel
theorem dX5_heads_40 : decode cX5_heads 40 = .ok (.invokevirtual 72, 3) := by decide +kernel
theorem dX5_heads_43 : decode cX5_heads 43 = .ok (.ifCond .eq 7, 3) := by decide +kernel
theorem dX5_heads_46 : decode cX5_heads 46 = .ok (.iconst 1, 1) := by decide +kernel
theorem dX5_heads_47 : decode cX5_heads 47 = .ok (.goto 4, 3) := by decide +kernel
theorem dX5_heads_50 : decode cX5_heads 50 = .ok (.iconst 0, 1) := by decide +kernel
theorem dX5_heads_51 : decode cX5_heads 51 = .ok (.ireturn, 1) := by decide +kernel
theorem dX5_either_0 : decode cX5_either 0 = .ok (.aload_n 0, 1) := by decide +kernel
theorem dX5_either_1 : decode cX5_either 1 = .ok (.iload_n 1, 1) := by decide +kernel
theorem dX5_either_2 : decode cX5_either 2 = .ok (.invokevirtual 76, 3) := by decide +kernel
theorem dX5_either_5 : decode cX5_either 5 = .ok (.istore_n 2, 1) := by decide +kernel
theorem dX5_either_6 : decode cX5_either 6 = .ok (.iconst 0, 1) := by decide +kernel
theorem dX5_either_7 : decode cX5_either 7 = .ok (.istore_n 3, 1) := by decide +kernel
theorem dX5_either_8 : decode cX5_either 8 = .ok (.iload_n 3, 1) := by decide +kernel
theorem dX5_either_9 : decode cX5_either 9 = .ok (.bipush 100, 2) := by decide +kernel
theorem dX5_either_11 : decode cX5_either 11 = .ok (.if_icmp .ge 42, 3) := by decide +kernel
theorem dX5_either_14 : decode cX5_either 14 = .ok (.iload_n 2, 1) := by decide +kernel
theorem dX5_either_15 : decode cX5_either 15 = .ok (.ifCond .eq 38, 3) := by decide +kernel
theorem dX5_either_18 : decode cX5_either 18 = .ok (.aload_n 0, 1) := by decide +kernel
theorem dX5_either_19 : decode cX5_either 19 = .ok (.getfield 32, 3) := by decide +kernel
theorem dX5_either_22 : decode cX5_either 22 = .ok (.bipush 124, 2) := by decide +kernel
theorem dX5_either_24 : decode cX5_either 24 = .ok (.if_icmp .ne 29, 3) := by decide +kernel
theorem dX5_either_27 : decode cX5_either 27 = .ok (.aload_n 0, 1) := by decide +kernel
theorem dX5_either_28 : decode cX5_either 28 = .ok (.invokevirtual 29, 3) := by decide +kernel
theorem dX5_either_31 : decode cX5_either 31 = .ok (.aload_n 0, 1) := by decide +kernel
theorem dX5_either_32 : decode cX5_either 32 = .ok (.iload_n 1, 1) := by decide +kernel
theorem dX5_either_33 : decode cX5_either 33 = .ok (.invokevirtual 76, 3) := by decide +kernel
theorem dX5_either_36 : decode cX5_either 36 = .ok (.istore_n 2, 1) := by decide +kernel
theorem dX5_either_37 : decode cX5_either 37 = .ok (.aload_n 0, 1) := by decide +kernel
theorem dX5_either_38 : decode cX5_either 38 = .ok (.getfield 12, 3) := by decide +kernel
theorem dX5_either_41 : decode cX5_either 41 = .ok (.bipush 20, 2) := by decide +kernel
theorem dX5_either_43 : decode cX5_either 43 = .ok (.iconst 0, 1) := by decide +kernel
theorem dX5_either_44 : decode cX5_either 44 = .ok (.invokevirtual 58, 3) := by decide +kernel
theorem dX5_either_47 : decode cX5_either 47 = .ok (.iinc 3 1, 3) := by decide +kernel
theorem dX5_either_50 : decode cX5_either 50 = .ok (.goto (-42), 3) := by decide +kernel
theorem dX5_either_53 : decode cX5_either 53 = .ok (.iload_n 2, 1) := by decide +kernel
theorem dX5_either_54 : decode cX5_either 54 = .ok (.ireturn, 1) := by decide +kernel
theorem dX5_both_0 : decode cX5_both 0 = .ok (.aload_n 0, 1) := by decide +kernel
theorem dX5_both_1 : decode cX5_both 1 = .ok (.iload_n 1, 1) := by decide +kernel
theorem dX5_both_2 : decode cX5_both 2 = .ok (.invokevirtual 79, 3) := by decide +kernel
theorem dX5_both_5 : decode cX5_both 5 = .ok (.istore_n 2, 1) := by decide +kernel
theorem dX5_both_6 : decode cX5_both 6 = .ok (.iconst 0, 1) := by decide +kernel
theorem dX5_both_7 : decode cX5_both 7 = .ok (.istore_n 3, 1) := by decide +kernel
theorem dX5_both_8 : decode cX5_both 8 = .ok (.iload_n 3, 1) := by decide +kernel
theorem dX5_both_9 : decode cX5_both 9 = .ok (.bipush 100, 2) := by decide +kernel
theorem dX5_both_11 : decode cX5_both 11 = .ok (.if_icmp .ge 42, 3) := by decide +kernel
theorem dX5_both_14 : decode cX5_both 14 = .ok (.iload_n 2, 1) := by decide +kernel
theorem dX5_both_15 : decode cX5_both 15 = .ok (.ifCond .eq 38, 3) := by decide +kernel
theorem dX5_both_18 : decode cX5_both 18 = .ok (.aload_n 0, 1) := by decide +kernel
theorem dX5_both_19 : decode cX5_both 19 = .ok (.getfield 32, 3) := by decide +kernel
theorem dX5_both_22 : decode cX5_both 22 = .ok (.bipush 38, 2) := by decide +kernel
theorem dX5_both_24 : decode cX5_both 24 = .ok (.if_icmp .ne 29, 3) := by decide +kernel
theorem dX5_both_27 : decode cX5_both 27 = .ok (.aload_n 0, 1) := by decide +kernel
theorem dX5_both_28 : decode cX5_both 28 = .ok (.invokevirtual 29, 3) := by decide +kernel
theorem dX5_both_31 : decode cX5_both 31 = .ok (.aload_n 0, 1) := by decide +kernel
theorem dX5_both_32 : decode cX5_both 32 = .ok (.iload_n 1, 1) := by decide +kernel
theorem dX5_both_33 : decode cX5_both 33 = .ok (.invokevirtual 79, 3) := by decide +kernel
theorem dX5_both_36 : decode cX5_both 36 = .ok (.istore_n 2, 1) := by decide +kernel
theorem dX5_both_37 : decode cX5_both 37 = .ok (.aload_n 0, 1) := by decide +kernel
theorem dX5_both_38 : decode cX5_both 38 = .ok (.getfield 12, 3) := by decide +kernel
theorem dX5_both_41 : decode cX5_both 41 = .ok (.bipush 19, 2) := by decide +kernel
theorem dX5_both_43 : decode cX5_both 43 = .ok (.iconst 0, 1) := by decide +kernel
theorem dX5_both_44 : decode cX5_both 44 = .ok (.invokevirtual 58, 3) := by decide +kernel
theorem dX5_both_47 : decode cX5_both 47 = .ok (.iinc 3 1, 3) := by decide +kernel
theorem dX5_both_50 : decode cX5_both 50 = .ok (.goto (-42), 3) := by decide +kernel
theorem dX5_both_53 : decode cX5_both 53 = .ok (.iload_n 2, 1) := by decide +kernel
theorem dX5_both_54 : decode cX5_both 54 = .ok (.ireturn, 1) := by decide +kernel
theorem dX5_factor_0 : decode cX5_factor 0 = .ok (.aload_n 0, 1) := by decide +kernel
theorem dX5_factor_1 : decode cX5_factor 1 = .ok (.getfield 32, 3) := by decide +kernel
theorem dX5_factor_4 : decode cX5_factor 4 = .ok (.istore_n 2, 1) := by decide +kernel
theorem dX5_factor_5 : decode cX5_factor 5 = .ok (.iload_n 2, 1) := by decide +kernel
theorem dX5_factor_6 : decode cX5_factor 6 = .ok (.bipush 33, 2) := by decide +kernel
theorem dX5_factor_8 : decode cX5_factor 8 = .ok (.if_icmp .eq 14, 3) := by decide +kernel
theorem dX5_factor_11 : decode cX5_factor 11 = .ok (.iload_n 2, 1) := by decide +kernel
theorem dX5_factor_12 : decode cX5_factor 12 = .ok (.bipush 40, 2) := by decide +kernel
theorem dX5_factor_14 : decode cX5_factor 14 = .ok (.if_icmp .eq 8, 3) := by decide +kernel
theorem dX5_factor_17 : decode cX5_factor 17 = .ok (.aload_n 0, 1) := by decide +kernel
theorem dX5_factor_18 : decode cX5_factor 18 = .ok (.invokevirtual 82, 3) := by decide +kernel
theorem dX5_factor_21 : decode cX5_factor 21 = .ok (.ireturn, 1) := by decide +kernel
theorem dX5_factor_22 : decode cX5_factor 22 = .ok (.iload_n 1, 1) := by decide +kernel
theorem dX5_factor_23 : decode cX5_factor 23 = .ok (.iconst 5, 1) := by decide +kernel
theorem dX5_factor_24 : decode cX5_factor 24 = .ok (.if_icmp .lt 5, 3) := by decide +kernel
theorem dX5_factor_27 : decode cX5_factor 27 = .ok (.iconst 0, 1) := by decide +kernel
theorem dX5_factor_28 : decode cX5_factor 28 = .ok (.ireturn, 1) := by decide +kernel
theorem dX5_factor_29 : decode cX5_factor 29 = .ok (.aload_n 0, 1) := by decide +kernel
theorem dX5_factor_30 : decode cX5_factor 30 = .ok (.invokevirtual 29, 3) := by decide +kernel
theorem dX5_factor_33 : decode cX5_factor 33 = .ok (.iload_n 2, 1) := by decide +kernel
theorem dX5_factor_34 : decode cX5_factor 34 = .ok (.bipush 40, 2) := by decide +kernel
theorem dX5_factor_36 : decode cX5_factor 36 = .ok (.if_icmp .ne 28, 3) := by decide +kernel
theorem dX5_factor_39 : decode cX5_factor 39 = .ok (.aload_n 0, 1) := by decide +kernel
theorem dX5_factor_40 : decode cX5_factor 40 = .ok (.iload_n 1, 1) := by decide +kernel
theorem dX5_factor_41 : decode cX5_factor 41 = .ok (.iconst 1, 1) := by decide +kernel
theorem dX5_factor_42 : decode cX5_factor 42 = .ok (.iadd, 1) := by decide +kernel
theorem dX5_factor_43 : decode cX5_factor 43 = .ok (.invokevirtual 55, 3) := by decide +kernel
theorem dX5_factor_46 : decode cX5_factor 46 = .ok (.ifCond .eq 16, 3) := by decide +kernel
theorem dX5_factor_49 : decode cX5_factor 49 = .ok (.aload_n 0, 1) := by decide +kernel
theorem dX5_factor_50 : decode cX5_factor 50 = .ok (.bipush 41, 2) := by decide +kernel
theorem dX5_factor_52 : decode cX5_factor 52 = .ok (.invokevirtual 51, 3) := by decide +kernel
theorem dX5_factor_55 : decode cX5_factor 55 = .ok (.ifCond .eq 7, 3) := by decide +kernel
theorem dX5_factor_58 : decode cX5_factor 58 = .ok (.iconst 1, 1) := by decide +kernel
theorem dX5_factor_59 : decode cX5_factor 59 = .ok (.goto 4, 3) := by decide +kernel
theorem dX5_factor_62 : decode cX5_factor 62 = .ok (.iconst 0, 1) := by decide +kernel
theorem dX5_factor_63 : decode cX5_factor 63 = .ok (.ireturn, 1) := by decide +kernel
theorem dX5_factor_64 : decode cX5_factor 64 = .ok (.aload_n 0, 1) := by decide +kernel
theorem dX5_factor_65 : decode cX5_factor 65 = .ok (.iload_n 1, 1) := by decide +kernel
theorem dX5_factor_66 : decode cX5_factor 66 = .ok (.iconst 1, 1) := by decide +kernel
theorem dX5_factor_67 : decode cX5_factor 67 = .ok (.iadd, 1) := by decide +kernel
theorem dX5_factor_68 : decode cX5_factor 68 = .ok (.invokevirtual 79, 3) := by decide +kernel
theorem dX5_factor_71 : decode cX5_factor 71 = .ok (.istore_n 3, 1) := by decide +kernel
theorem dX5_factor_72 : decode cX5_factor 72 = .ok (.aload_n 0, 1) := by decide +kernel
theorem dX5_factor_73 : decode cX5_factor 73 = .ok (.getfield 12, 3) := by decide +kernel
theorem dX5_factor_76 : decode cX5_factor 76 = .ok (.bipush 18, 2) := by decide +kernel
theorem dX5_factor_78 : decode cX5_factor 78 = .ok (.iconst 0, 1) := by decide +kernel
theorem dX5_factor_79 : decode cX5_factor 79 = .ok (.invokevirtual 58, 3) := by decide +kernel
theorem dX5_factor_82 : decode cX5_factor 82 = .ok (.iload_n 3, 1) := by decide +kernel
theorem dX5_factor_83 : decode cX5_factor 83 = .ok (.ireturn, 1) := by decide +kernel
theorem dX5_test_0 : decode cX5_test 0 = .ok (.aload_n 0, 1) := by decide +kernel
theorem dX5_test_1 : decode cX5_test 1 = .ok (.ldc 85, 2) := by decide +kernel
theorem dX5_test_3 : decode cX5_test 3 = .ok (.invokevirtual 87, 3) := by decide +kernel
theorem dX5_test_6 : decode cX5_test 6 = .ok (.istore_n 1, 1) := by decide +kernel
theorem dX5_test_7 : decode cX5_test 7 = .ok (.iload_n 1, 1) := by decide +kernel
theorem dX5_test_8 : decode cX5_test 8 = .ok (.ifCond .ge 5, 3) := by decide +kernel
theorem dX5_test_11 : decode cX5_test 11 = .ok (.iconst 0, 1) := by decide +kernel
theorem dX5_test_12 : decode cX5_test 12 = .ok (.ireturn, 1) := by decide +kernel
theorem dX5_test_13 : decode cX5_test 13 = .ok (.aload_n 0, 1) := by decide +kernel
theorem dX5_test_14 : decode cX5_test 14 = .ok (.ldc 91, 2) := by decide +kernel
theorem dX5_test_16 : decode cX5_test 16 = .ok (.invokevirtual 87, 3) := by decide +kernel
theorem dX5_test_19 : decode cX5_test 19 = .ok (.istore_n 2, 1) := by decide +kernel
theorem dX5_test_20 : decode cX5_test 20 = .ok (.iload_n 2, 1) := by decide +kernel
theorem dX5_test_21 : decode cX5_test 21 = .ok (.ifCond .lt 10, 3) := by decide +kernel
theorem dX5_test_24 : decode cX5_test 24 = .ok (.aload_n 0, 1) := by decide +kernel
theorem dX5_test_25 : decode cX5_test 25 = .ok (.invokevirtual 72, 3) := by decide +kernel
theorem dX5_test_28 : decode cX5_test 28 = .ok (.ifCond .ne 5, 3) := by decide +kernel
theorem dX5_test_31 : decode cX5_test 31 = .ok (.iconst 0, 1) := by decide +kernel
theorem dX5_test_32 : decode cX5_test 32 = .ok (.ireturn, 1) := by decide +kernel
theorem dX5_test_33 : decode cX5_test 33 = .ok (.aload_n 0, 1) := by decide +kernel
theorem dX5_test_34 : decode cX5_test 34 = .ok (.getfield 12, 3) := by decide +kernel
theorem dX5_test_37 : decode cX5_test 37 = .ok (.iload_n 1, 1) := by decide +kernel
theorem dX5_test_38 : decode cX5_test 38 = .ok (.iconst 3, 1) := by decide +kernel
theorem dX5_test_39 : decode cX5_test 39 = .ok (.imul, 1) := by decide +kernel
theorem dX5_test_40 : decode cX5_test 40 = .ok (.iload_n 2, 1) := by decide +kernel
theorem dX5_test_41 : decode cX5_test 41 = .ok (.iadd, 1) := by decide +kernel
theorem dX5_test_42 : decode cX5_test 42 = .ok (.aload_n 0, 1) := by decide +kernel
theorem dX5_test_43 : decode cX5_test 43 = .ok (.getfield 45, 3) := by decide +kernel
theorem dX5_test_46 : decode cX5_test 46 = .ok (.invokevirtual 58, 3) := by decide +kernel
theorem dX5_test_49 : decode cX5_test 49 = .ok (.iconst 1, 1) := by decide +kernel
theorem dX5_test_50 : decode cX5_test 50 = .ok (.ireturn, 1) := by decide +kernel
theorem dX5_readsNumber_0 : decode cX5_readsNumber 0 = .ok (.aload_n 0, 1) := by decide +kernel
theorem dX5_readsNumber_1 : decode cX5_readsNumber 1 = .ok (.getfield 32, 3) := by decide +kernel
theorem dX5_readsNumber_4 : decode cX5_readsNumber 4 = .ok (.bipush 48, 2) := by decide +kernel
theorem dX5_readsNumber_6 : decode cX5_readsNumber 6 = .ok (.isub, 1) := by decide +kernel
theorem dX5_readsNumber_7 : decode cX5_readsNumber 7 = .ok (.invokestatic 93, 3) := by decide +kernel
theorem dX5_readsNumber_10 : decode cX5_readsNumber 10 = .ok (.ifCond .ne 5, 3) := by decide +kernel
theorem dX5_readsNumber_13 : decode cX5_readsNumber 13 = .ok (.iconst 0, 1) := by decide +kernel
theorem dX5_readsNumber_14 : decode cX5_readsNumber 14 = .ok (.ireturn, 1) := by decide +kernel
theorem dX5_readsNumber_15 : decode cX5_readsNumber 15 = .ok (.aload_n 0, 1) := by decide +kernel
theorem dX5_readsNumber_16 : decode cX5_readsNumber 16 = .ok (.aload_n 0, 1) := by decide +kernel
theorem dX5_readsNumber_17 : decode cX5_readsNumber 17 = .ok (.getfield 32, 3) := by decide +kernel
theorem dX5_readsNumber_20 : decode cX5_readsNumber 20 = .ok (.bipush 48, 2) := by decide +kernel
theorem dX5_readsNumber_22 : decode cX5_readsNumber 22 = .ok (.isub, 1) := by decide +kernel
theorem dX5_readsNumber_23 : decode cX5_readsNumber 23 = .ok (.putfield 45, 3) := by decide +kernel
theorem dX5_readsNumber_26 : decode cX5_readsNumber 26 = .ok (.aload_n 0, 1) := by decide +kernel
theorem dX5_readsNumber_27 : decode cX5_readsNumber 27 = .ok (.invokevirtual 29, 3) := by decide +kernel
theorem dX5_readsNumber_30 : decode cX5_readsNumber 30 = .ok (.aload_n 0, 1) := by decide +kernel
theorem dX5_readsNumber_31 : decode cX5_readsNumber 31 = .ok (.getfield 45, 3) := by decide +kernel
theorem dX5_readsNumber_34 : decode cX5_readsNumber 34 = .ok (.ifCond .le 39, 3) := by decide +kernel
theorem dX5_readsNumber_37 : decode cX5_readsNumber 37 = .ok (.aload_n 0, 1) := by decide +kernel
theorem dX5_readsNumber_38 : decode cX5_readsNumber 38 = .ok (.getfield 32, 3) := by decide +kernel
theorem dX5_readsNumber_41 : decode cX5_readsNumber 41 = .ok (.bipush 48, 2) := by decide +kernel
theorem dX5_readsNumber_43 : decode cX5_readsNumber 43 = .ok (.isub, 1) := by decide +kernel
theorem dX5_readsNumber_44 : decode cX5_readsNumber 44 = .ok (.invokestatic 93, 3) := by decide +kernel
theorem dX5_readsNumber_47 : decode cX5_readsNumber 47 = .ok (.ifCond .eq 26, 3) := by decide +kernel
theorem dX5_readsNumber_50 : decode cX5_readsNumber 50 = .ok (.aload_n 0, 1) := by decide +kernel
theorem dX5_readsNumber_51 : decode cX5_readsNumber 51 = .ok (.aload_n 0, 1) := by decide +kernel
theorem dX5_readsNumber_52 : decode cX5_readsNumber 52 = .ok (.getfield 45, 3) := by decide +kernel
theorem dX5_readsNumber_55 : decode cX5_readsNumber 55 = .ok (.bipush 10, 2) := by decide +kernel
theorem dX5_readsNumber_57 : decode cX5_readsNumber 57 = .ok (.imul, 1) := by decide +kernel
theorem dX5_readsNumber_58 : decode cX5_readsNumber 58 = .ok (.aload_n 0, 1) := by decide +kernel
theorem dX5_readsNumber_59 : decode cX5_readsNumber 59 = .ok (.getfield 32, 3) := by decide +kernel
theorem dX5_readsNumber_62 : decode cX5_readsNumber 62 = .ok (.iadd, 1) := by decide +kernel
theorem dX5_readsNumber_63 : decode cX5_readsNumber 63 = .ok (.bipush 48, 2) := by decide +kernel
theorem dX5_readsNumber_65 : decode cX5_readsNumber 65 = .ok (.isub, 1) := by decide +kernel
theorem dX5_readsNumber_66 : decode cX5_readsNumber 66 = .ok (.putfield 45, 3) := by decide +kernel
theorem dX5_readsNumber_69 : decode cX5_readsNumber 69 = .ok (.aload_n 0, 1) := by decide +kernel
theorem dX5_readsNumber_70 : decode cX5_readsNumber 70 = .ok (.invokevirtual 29, 3) := by decide +kernel
theorem dX5_readsNumber_73 : decode cX5_readsNumber 73 = .ok (.iconst 1, 1) := by decide +kernel
theorem dX5_readsNumber_74 : decode cX5_readsNumber 74 = .ok (.ireturn, 1) := by decide +kernel
theorem dX5_eats_0 : decode cX5_eats 0 = .ok (.aload_n 0, 1) := by decide +kernel
theorem dX5_eats_1 : decode cX5_eats 1 = .ok (.getfield 32, 3) := by decide +kernel
theorem dX5_eats_4 : decode cX5_eats 4 = .ok (.iload_n 1, 1) := by decide +kernel
theorem dX5_eats_5 : decode cX5_eats 5 = .ok (.if_icmp .ne 7, 3) := by decide +kernel
theorem dX5_eats_8 : decode cX5_eats 8 = .ok (.iconst 1, 1) := by decide +kernel
theorem dX5_eats_9 : decode cX5_eats 9 = .ok (.goto 4, 3) := by decide +kernel
theorem dX5_eats_12 : decode cX5_eats 12 = .ok (.iconst 0, 1) := by decide +kernel
theorem dX5_eats_13 : decode cX5_eats 13 = .ok (.istore_n 2, 1) := by decide +kernel
theorem dX5_eats_14 : decode cX5_eats 14 = .ok (.iload_n 2, 1) := by decide +kernel
theorem dX5_eats_15 : decode cX5_eats 15 = .ok (.ifCond .eq 7, 3) := by decide +kernel
theorem dX5_eats_18 : decode cX5_eats 18 = .ok (.aload_n 0, 1) := by decide +kernel
theorem dX5_eats_19 : decode cX5_eats 19 = .ok (.invokevirtual 29, 3) := by decide +kernel
theorem dX5_eats_22 : decode cX5_eats 22 = .ok (.iload_n 2, 1) := by decide +kernel
theorem dX5_eats_23 : decode cX5_eats 23 = .ok (.ireturn, 1) := by decide +kernel
theorem dX5_eatsOneOf_0 : decode cX5_eatsOneOf 0 = .ok (.iconst 0, 1) := by decide +kernel
theorem dX5_eatsOneOf_1 : decode cX5_eatsOneOf 1 = .ok (.istore_n 2, 1) := by decide +kernel
theorem dX5_eatsOneOf_2 : decode cX5_eatsOneOf 2 = .ok (.iload_n 2, 1) := by decide +kernel
theorem dX5_eatsOneOf_3 : decode cX5_eatsOneOf 3 = .ok (.aload_n 1, 1) := by decide +kernel
theorem dX5_eatsOneOf_4 : decode cX5_eatsOneOf 4 = .ok (.invokevirtual 62, 3) := by decide +kernel
theorem dX5_eatsOneOf_7 : decode cX5_eatsOneOf 7 = .ok (.if_icmp .ge 27, 3) := by decide +kernel
theorem dX5_eatsOneOf_10 : decode cX5_eatsOneOf 10 = .ok (.aload_n 0, 1) := by decide +kernel
theorem dX5_eatsOneOf_11 : decode cX5_eatsOneOf 11 = .ok (.getfield 32, 3) := by decide +kernel
theorem dX5_eatsOneOf_14 : decode cX5_eatsOneOf 14 = .ok (.aload_n 1, 1) := by decide +kernel
theorem dX5_eatsOneOf_15 : decode cX5_eatsOneOf 15 = .ok (.iload_n 2, 1) := by decide +kernel
theorem dX5_eatsOneOf_16 : decode cX5_eatsOneOf 16 = .ok (.invokevirtual 68, 3) := by decide +kernel
theorem dX5_eatsOneOf_19 : decode cX5_eatsOneOf 19 = .ok (.if_icmp .ne 9, 3) := by decide +kernel
theorem dX5_eatsOneOf_22 : decode cX5_eatsOneOf 22 = .ok (.aload_n 0, 1) := by decide +kernel
theorem dX5_eatsOneOf_23 : decode cX5_eatsOneOf 23 = .ok (.invokevirtual 29, 3) := by decide +kernel
theorem dX5_eatsOneOf_26 : decode cX5_eatsOneOf 26 = .ok (.iload_n 2, 1) := by decide +kernel
theorem dX5_eatsOneOf_27 : decode cX5_eatsOneOf 27 = .ok (.ireturn, 1) := by decide +kernel
theorem dX5_eatsOneOf_28 : decode cX5_eatsOneOf 28 = .ok (.iinc 2 1, 3) := by decide +kernel
theorem dX5_eatsOneOf_31 : decode cX5_eatsOneOf 31 = .ok (.goto (-29), 3) := by decide +kernel
theorem dX5_eatsOneOf_34 : decode cX5_eatsOneOf 34 = .ok (.iconst (-1), 1) := by decide +kernel
theorem dX5_eatsOneOf_35 : decode cX5_eatsOneOf 35 = .ok (.ireturn, 1) := by decide +kernel
theorem dX5_goesOn_0 : decode cX5_goesOn 0 = .ok (.aload_n 0, 1) := by decide +kernel
theorem dX5_goesOn_1 : decode cX5_goesOn 1 = .ok (.dup, 1) := by decide +kernel
theorem dX5_goesOn_2 : decode cX5_goesOn 2 = .ok (.getfield 25, 3) := by decide +kernel
theorem dX5_goesOn_5 : decode cX5_goesOn 5 = .ok (.iconst 1, 1) := by decide +kernel
theorem dX5_goesOn_6 : decode cX5_goesOn 6 = .ok (.iadd, 1) := by decide +kernel
theorem dX5_goesOn_7 : decode cX5_goesOn 7 = .ok (.putfield 25, 3) := by decide +kernel
theorem dX5_goesOn_10 : decode cX5_goesOn 10 = .ok (.aload_n 0, 1) := by decide +kernel
theorem dX5_goesOn_11 : decode cX5_goesOn 11 = .ok (.aload_n 0, 1) := by decide +kernel
theorem dX5_goesOn_12 : decode cX5_goesOn 12 = .ok (.getfield 25, 3) := by decide +kernel
theorem dX5_goesOn_15 : decode cX5_goesOn 15 = .ok (.aload_n 0, 1) := by decide +kernel
theorem dX5_goesOn_16 : decode cX5_goesOn 16 = .ok (.getfield 18, 3) := by decide +kernel
theorem dX5_goesOn_19 : decode cX5_goesOn 19 = .ok (.getfield 96, 3) := by decide +kernel
theorem dX5_goesOn_22 : decode cX5_goesOn 22 = .ok (.if_icmp .ge 33, 3) := by decide +kernel
theorem dX5_goesOn_25 : decode cX5_goesOn 25 = .ok (.aload_n 0, 1) := by decide +kernel
theorem dX5_goesOn_26 : decode cX5_goesOn 26 = .ok (.getfield 25, 3) := by decide +kernel
theorem dX5_goesOn_29 : decode cX5_goesOn 29 = .ok (.aload_n 0, 1) := by decide +kernel
theorem dX5_goesOn_30 : decode cX5_goesOn 30 = .ok (.getfield 18, 3) := by decide +kernel
theorem dX5_goesOn_33 : decode cX5_goesOn 33 = .ok (.getfield 101, 3) := by decide +kernel
theorem dX5_goesOn_36 : decode cX5_goesOn 36 = .ok (.arraylength, 1) := by decide +kernel
theorem dX5_goesOn_37 : decode cX5_goesOn 37 = .ok (.if_icmp .ge 18, 3) := by decide +kernel
theorem dX5_goesOn_40 : decode cX5_goesOn 40 = .ok (.aload_n 0, 1) := by decide +kernel
theorem dX5_goesOn_41 : decode cX5_goesOn 41 = .ok (.getfield 18, 3) := by decide +kernel
theorem dX5_goesOn_44 : decode cX5_goesOn 44 = .ok (.getfield 101, 3) := by decide +kernel
theorem dX5_goesOn_47 : decode cX5_goesOn 47 = .ok (.aload_n 0, 1) := by decide +kernel
theorem dX5_goesOn_48 : decode cX5_goesOn 48 = .ok (.getfield 25, 3) := by decide +kernel
theorem dX5_goesOn_51 : decode cX5_goesOn 51 = .ok (.iaload, 1) := by decide +kernel
theorem dX5_goesOn_52 : decode cX5_goesOn 52 = .ok (.goto 4, 3) := by decide +kernel
theorem dX5_goesOn_55 : decode cX5_goesOn 55 = .ok (.iconst (-1), 1) := by decide +kernel
theorem dX5_goesOn_56 : decode cX5_goesOn 56 = .ok (.putfield 32, 3) := by decide +kernel
theorem dX5_goesOn_59 : decode cX5_goesOn 59 = .ok (.return_, 1) := by decide +kernel
theorem dX6_init_0 : decode cX6_init 0 = .ok (.aload_n 0, 1) := by decide +kernel
theorem dX6_init_1 : decode cX6_init 1 = .ok (.invokespecial 3, 3) := by decide +kernel
theorem dX6_init_4 : decode cX6_init 4 = .ok (.aload_n 0, 1) := by decide +kernel
theorem dX6_init_5 : decode cX6_init 5 = .ok (.iconst 1, 1) := by decide +kernel
theorem dX6_init_6 : decode cX6_init 6 = .ok (.iconst 3, 1) := by decide +kernel
theorem dX6_init_7 : decode cX6_init 7 = .ok (.iload_n 2, 1) := by decide +kernel
theorem dX6_init_8 : decode cX6_init 8 = .ok (.invokestatic 9, 3) := by decide +kernel
theorem dX6_init_11 : decode cX6_init 11 = .ok (.invokestatic 15, 3) := by decide +kernel
theorem dX6_init_14 : decode cX6_init 14 = .ok (.putfield 18, 3) := by decide +kernel
theorem dX6_init_17 : decode cX6_init 17 = .ok (.aload_n 0, 1) := by decide +kernel
theorem dX6_init_18 : decode cX6_init 18 = .ok (.iconst 0, 1) := by decide +kernel
theorem dX6_init_19 : decode cX6_init 19 = .ok (.iload_n 1, 1) := by decide +kernel
theorem dX6_init_20 : decode cX6_init 20 = .ok (.invokestatic 15, 3) := by decide +kernel
theorem dX6_init_23 : decode cX6_init 23 = .ok (.aload_n 0, 1) := by decide +kernel
theorem dX6_init_24 : decode cX6_init 24 = .ok (.getfield 18, 3) := by decide +kernel
theorem dX6_init_27 : decode cX6_init 27 = .ok (.imul, 1) := by decide +kernel
theorem dX6_init_28 : decode cX6_init 28 = .ok (.newarray .int, 2) := by decide +kernel
theorem dX6_init_30 : decode cX6_init 30 = .ok (.putfield 24, 3) := by decide +kernel
theorem dX6_init_33 : decode cX6_init 33 = .ok (.return_, 1) := by decide +kernel
theorem dX6_adds_0 : decode cX6_adds 0 = .ok (.aload_n 0, 1) := by decide +kernel
theorem dX6_adds_1 : decode cX6_adds 1 = .ok (.getfield 28, 3) := by decide +kernel
theorem dX6_adds_4 : decode cX6_adds 4 = .ok (.aload_n 0, 1) := by decide +kernel
theorem dX6_adds_5 : decode cX6_adds 5 = .ok (.getfield 18, 3) := by decide +kernel
theorem dX6_adds_8 : decode cX6_adds 8 = .ok (.imul, 1) := by decide +kernel
theorem dX6_adds_9 : decode cX6_adds 9 = .ok (.istore 4, 2) := by decide +kernel
theorem dX6_adds_11 : decode cX6_adds 11 = .ok (.iload 4, 2) := by decide +kernel
theorem dX6_adds_13 : decode cX6_adds 13 = .ok (.ifCond .lt 18, 3) := by decide +kernel
theorem dX6_adds_16 : decode cX6_adds 16 = .ok (.iload 4, 2) := by decide +kernel
theorem dX6_adds_18 : decode cX6_adds 18 = .ok (.aload_n 0, 1) := by decide +kernel
theorem dX6_adds_19 : decode cX6_adds 19 = .ok (.getfield 18, 3) := by decide +kernel
theorem dX6_adds_22 : decode cX6_adds 22 = .ok (.iadd, 1) := by decide +kernel
theorem dX6_adds_23 : decode cX6_adds 23 = .ok (.aload_n 0, 1) := by decide +kernel
theorem dX6_adds_24 : decode cX6_adds 24 = .ok (.getfield 24, 3) := by decide +kernel
theorem dX6_adds_27 : decode cX6_adds 27 = .ok (.arraylength, 1) := by decide +kernel
theorem dX6_adds_28 : decode cX6_adds 28 = .ok (.if_icmp .le 6, 3) := by decide +kernel
theorem dX6_adds_31 : decode cX6_adds 31 = .ok (.bipush (-4), 2) := by decide +kernel
theorem dX6_adds_33 : decode cX6_adds 33 = .ok (.ireturn, 1) := by decide +kernel
theorem dX6_adds_34 : decode cX6_adds 34 = .ok (.aload_n 0, 1) := by decide +kernel
theorem dX6_adds_35 : decode cX6_adds 35 = .ok (.getfield 24, 3) := by decide +kernel
theorem dX6_adds_38 : decode cX6_adds 38 = .ok (.iload 4, 2) := by decide +kernel
theorem dX6_adds_40 : decode cX6_adds 40 = .ok (.iload_n 1, 1) := by decide +kernel
theorem dX6_adds_41 : decode cX6_adds 41 = .ok (.iastore, 1) := by decide +kernel
theorem dX6_adds_42 : decode cX6_adds 42 = .ok (.aload_n 0, 1) := by decide +kernel
theorem dX6_adds_43 : decode cX6_adds 43 = .ok (.getfield 18, 3) := by decide +kernel
theorem dX6_adds_46 : decode cX6_adds 46 = .ok (.iconst 1, 1) := by decide +kernel
theorem dX6_adds_47 : decode cX6_adds 47 = .ok (.if_icmp .le 13, 3) := by decide +kernel
theorem dX6_adds_50 : decode cX6_adds 50 = .ok (.aload_n 0, 1) := by decide +kernel
theorem dX6_adds_51 : decode cX6_adds 51 = .ok (.getfield 24, 3) := by decide +kernel
theorem dX6_adds_54 : decode cX6_adds 54 = .ok (.iload 4, 2) := by decide +kernel
theorem dX6_adds_56 : decode cX6_adds 56 = .ok (.iconst 1, 1) := by decide +kernel
theorem dX6_adds_57 : decode cX6_adds 57 = .ok (.iadd, 1) := by decide +kernel
theorem dX6_adds_58 : decode cX6_adds 58 = .ok (.iload_n 2, 1) := by decide +kernel
theorem dX6_adds_59 : decode cX6_adds 59 = .ok (.iastore, 1) := by decide +kernel
theorem dX6_adds_60 : decode cX6_adds 60 = .ok (.aload_n 0, 1) := by decide +kernel
theorem dX6_adds_61 : decode cX6_adds 61 = .ok (.getfield 18, 3) := by decide +kernel
theorem dX6_adds_64 : decode cX6_adds 64 = .ok (.iconst 2, 1) := by decide +kernel
theorem dX6_adds_65 : decode cX6_adds 65 = .ok (.if_icmp .le 13, 3) := by decide +kernel
theorem dX6_adds_68 : decode cX6_adds 68 = .ok (.aload_n 0, 1) := by decide +kernel
theorem dX6_adds_69 : decode cX6_adds 69 = .ok (.getfield 24, 3) := by decide +kernel
theorem dX6_adds_72 : decode cX6_adds 72 = .ok (.iload 4, 2) := by decide +kernel
theorem dX6_adds_74 : decode cX6_adds 74 = .ok (.iconst 2, 1) := by decide +kernel
theorem dX6_adds_75 : decode cX6_adds 75 = .ok (.iadd, 1) := by decide +kernel
theorem dX6_adds_76 : decode cX6_adds 76 = .ok (.iload_n 3, 1) := by decide +kernel
theorem dX6_adds_77 : decode cX6_adds 77 = .ok (.iastore, 1) := by decide +kernel
theorem dX6_adds_78 : decode cX6_adds 78 = .ok (.aload_n 0, 1) := by decide +kernel
theorem dX6_adds_79 : decode cX6_adds 79 = .ok (.dup, 1) := by decide +kernel
theorem dX6_adds_80 : decode cX6_adds 80 = .ok (.getfield 28, 3) := by decide +kernel
theorem dX6_adds_83 : decode cX6_adds 83 = .ok (.iconst 1, 1) := by decide +kernel
theorem dX6_adds_84 : decode cX6_adds 84 = .ok (.iadd, 1) := by decide +kernel
theorem dX6_adds_85 : decode cX6_adds 85 = .ok (.putfield 28, 3) := by decide +kernel
theorem dX6_adds_88 : decode cX6_adds 88 = .ok (.aload_n 0, 1) := by decide +kernel
theorem dX6_adds_89 : decode cX6_adds 89 = .ok (.getfield 28, 3) := by decide +kernel
theorem dX6_adds_92 : decode cX6_adds 92 = .ok (.ireturn, 1) := by decide +kernel
theorem dX6_at_0 : decode cX6_at 0 = .ok (.iload_n 1, 1) := by decide +kernel
theorem dX6_at_1 : decode cX6_at 1 = .ok (.ifCond .lt 27, 3) := by decide +kernel
theorem dX6_at_4 : decode cX6_at 4 = .ok (.iload_n 1, 1) := by decide +kernel
theorem dX6_at_5 : decode cX6_at 5 = .ok (.aload_n 0, 1) := by decide +kernel
theorem dX6_at_6 : decode cX6_at 6 = .ok (.getfield 28, 3) := by decide +kernel
theorem dX6_at_9 : decode cX6_at 9 = .ok (.if_icmp .ge 19, 3) := by decide +kernel
theorem dX6_at_12 : decode cX6_at 12 = .ok (.iload_n 2, 1) := by decide +kernel
theorem dX6_at_13 : decode cX6_at 13 = .ok (.ifCond .lt 15, 3) := by decide +kernel
theorem dX6_at_16 : decode cX6_at 16 = .ok (.iload_n 2, 1) := by decide +kernel
theorem dX6_at_17 : decode cX6_at 17 = .ok (.aload_n 0, 1) := by decide +kernel
theorem dX6_at_18 : decode cX6_at 18 = .ok (.getfield 18, 3) := by decide +kernel
theorem dX6_at_21 : decode cX6_at 21 = .ok (.if_icmp .ge 7, 3) := by decide +kernel
theorem dX6_at_24 : decode cX6_at 24 = .ok (.iconst 1, 1) := by decide +kernel
theorem dX6_at_25 : decode cX6_at 25 = .ok (.goto 4, 3) := by decide +kernel
theorem dX6_at_28 : decode cX6_at 28 = .ok (.iconst 0, 1) := by decide +kernel
theorem dX6_at_29 : decode cX6_at 29 = .ok (.istore_n 3, 1) := by decide +kernel
theorem dX6_at_30 : decode cX6_at 30 = .ok (.iload_n 3, 1) := by decide +kernel
theorem dX6_at_31 : decode cX6_at 31 = .ok (.ifCond .eq 19, 3) := by decide +kernel
theorem dX6_at_34 : decode cX6_at 34 = .ok (.aload_n 0, 1) := by decide +kernel
theorem dX6_at_35 : decode cX6_at 35 = .ok (.getfield 24, 3) := by decide +kernel
theorem dX6_at_38 : decode cX6_at 38 = .ok (.iload_n 1, 1) := by decide +kernel
theorem dX6_at_39 : decode cX6_at 39 = .ok (.aload_n 0, 1) := by decide +kernel
theorem dX6_at_40 : decode cX6_at 40 = .ok (.getfield 18, 3) := by decide +kernel
theorem dX6_at_43 : decode cX6_at 43 = .ok (.imul, 1) := by decide +kernel
theorem dX6_at_44 : decode cX6_at 44 = .ok (.iload_n 2, 1) := by decide +kernel
theorem dX6_at_45 : decode cX6_at 45 = .ok (.iadd, 1) := by decide +kernel
theorem dX6_at_46 : decode cX6_at 46 = .ok (.iaload, 1) := by decide +kernel
theorem dX6_at_47 : decode cX6_at 47 = .ok (.goto 4, 3) := by decide +kernel
theorem dX6_at_50 : decode cX6_at 50 = .ok (.iconst 0, 1) := by decide +kernel
theorem dX6_at_51 : decode cX6_at 51 = .ok (.ireturn, 1) := by decide +kernel
theorem dX6_empties_0 : decode cX6_empties 0 = .ok (.aload_n 0, 1) := by decide +kernel
theorem dX6_empties_1 : decode cX6_empties 1 = .ok (.iconst 0, 1) := by decide +kernel
theorem dX6_empties_2 : decode cX6_empties 2 = .ok (.putfield 28, 3) := by decide +kernel
theorem dX6_empties_5 : decode cX6_empties 5 = .ok (.iconst 0, 1) := by decide +kernel
theorem dX6_empties_6 : decode cX6_empties 6 = .ok (.ireturn, 1) := by decide +kernel
theorem dX6_takes_0 : decode cX6_takes 0 = .ok (.aload_n 0, 1) := by decide +kernel
theorem dX6_takes_1 : decode cX6_takes 1 = .ok (.getfield 24, 3) := by decide +kernel
theorem dX6_takes_4 : decode cX6_takes 4 = .ok (.arraylength, 1) := by decide +kernel
theorem dX6_takes_5 : decode cX6_takes 5 = .ok (.aload_n 1, 1) := by decide +kernel
theorem dX6_takes_6 : decode cX6_takes 6 = .ok (.getfield 24, 3) := by decide +kernel
theorem dX6_takes_9 : decode cX6_takes 9 = .ok (.arraylength, 1) := by decide +kernel
theorem dX6_takes_10 : decode cX6_takes 10 = .ok (.invokestatic 9, 3) := by decide +kernel
theorem dX6_takes_13 : decode cX6_takes 13 = .ok (.istore_n 2, 1) := by decide +kernel
theorem dX6_takes_14 : decode cX6_takes 14 = .ok (.aload_n 1, 1) := by decide +kernel
theorem dX6_takes_15 : decode cX6_takes 15 = .ok (.getfield 24, 3) := by decide +kernel
theorem dX6_takes_18 : decode cX6_takes 18 = .ok (.iconst 0, 1) := by decide +kernel
theorem dX6_takes_19 : decode cX6_takes 19 = .ok (.aload_n 0, 1) := by decide +kernel
theorem dX6_takes_20 : decode cX6_takes 20 = .ok (.getfield 24, 3) := by decide +kernel
theorem dX6_takes_23 : decode cX6_takes 23 = .ok (.iconst 0, 1) := by decide +kernel
theorem dX6_takes_24 : decode cX6_takes 24 = .ok (.iload_n 2, 1) := by decide +kernel
theorem dX6_takes_25 : decode cX6_takes 25 = .ok (.invokestatic 31, 3) := by decide +kernel
theorem dX6_takes_28 : decode cX6_takes 28 = .ok (.aload_n 0, 1) := by decide +kernel
theorem dX6_takes_29 : decode cX6_takes 29 = .ok (.aload_n 1, 1) := by decide +kernel
theorem dX6_takes_30 : decode cX6_takes 30 = .ok (.getfield 28, 3) := by decide +kernel
theorem dX6_takes_33 : decode cX6_takes 33 = .ok (.putfield 28, 3) := by decide +kernel
theorem dX6_takes_36 : decode cX6_takes 36 = .ok (.return_, 1) := by decide +kernel
theorem dX7_init_0 : decode cX7_init 0 = .ok (.aload_n 0, 1) := by decide +kernel
theorem dX7_init_1 : decode cX7_init 1 = .ok (.invokespecial 3, 3) := by decide +kernel
theorem dX7_init_4 : decode cX7_init 4 = .ok (.aload_n 0, 1) := by decide +kernel
theorem dX7_init_5 : decode cX7_init 5 = .ok (.new 9, 3) := by decide +kernel
theorem dX7_init_8 : decode cX7_init 8 = .ok (.dup, 1) := by decide +kernel
theorem dX7_init_9 : decode cX7_init 9 = .ok (.invokespecial 11, 3) := by decide +kernel
theorem dX7_init_12 : decode cX7_init 12 = .ok (.putfield 12, 3) := by decide +kernel
theorem dX7_init_15 : decode cX7_init 15 = .ok (.aload_n 0, 1) := by decide +kernel
theorem dX7_init_16 : decode cX7_init 16 = .ok (.new 18, 3) := by decide +kernel
theorem dX7_init_19 : decode cX7_init 19 = .ok (.dup, 1) := by decide +kernel
theorem dX7_init_20 : decode cX7_init 20 = .ok (.invokespecial 20, 3) := by decide +kernel
theorem dX7_init_23 : decode cX7_init 23 = .ok (.putfield 21, 3) := by decide +kernel
theorem dX7_init_26 : decode cX7_init 26 = .ok (.aload_n 0, 1) := by decide +kernel
theorem dX7_init_27 : decode cX7_init 27 = .ok (.new 25, 3) := by decide +kernel
theorem dX7_init_30 : decode cX7_init 30 = .ok (.dup, 1) := by decide +kernel
theorem dX7_init_31 : decode cX7_init 31 = .ok (.bipush 100, 2) := by decide +kernel
theorem dX7_init_33 : decode cX7_init 33 = .ok (.iconst 1, 1) := by decide +kernel
theorem dX7_init_34 : decode cX7_init 34 = .ok (.invokespecial 27, 3) := by decide +kernel
theorem dX7_init_37 : decode cX7_init 37 = .ok (.putfield 30, 3) := by decide +kernel
theorem dX7_init_40 : decode cX7_init 40 = .ok (.aload_n 0, 1) := by decide +kernel
theorem dX7_init_41 : decode cX7_init 41 = .ok (.new 25, 3) := by decide +kernel
theorem dX7_init_44 : decode cX7_init 44 = .ok (.dup, 1) := by decide +kernel
theorem dX7_init_45 : decode cX7_init 45 = .ok (.iconst 5, 1) := by decide +kernel
theorem dX7_init_46 : decode cX7_init 46 = .ok (.iconst 2, 1) := by decide +kernel
theorem dX7_init_47 : decode cX7_init 47 = .ok (.invokespecial 27, 3) := by decide +kernel
theorem dX7_init_50 : decode cX7_init 50 = .ok (.putfield 34, 3) := by decide +kernel
theorem dX7_init_53 : decode cX7_init 53 = .ok (.aload_n 0, 1) := by decide +kernel
theorem dX7_init_54 : decode cX7_init 54 = .ok (.new 25, 3) := by decide +kernel
theorem dX7_init_57 : decode cX7_init 57 = .ok (.dup, 1) := by decide +kernel
theorem dX7_init_58 : decode cX7_init 58 = .ok (.iconst 5, 1) := by decide +kernel
theorem dX7_init_59 : decode cX7_init 59 = .ok (.iconst 3, 1) := by decide +kernel
theorem dX7_init_60 : decode cX7_init 60 = .ok (.invokespecial 27, 3) := by decide +kernel
theorem dX7_init_63 : decode cX7_init 63 = .ok (.putfield 37, 3) := by decide +kernel
theorem dX7_init_66 : decode cX7_init 66 = .ok (.aload_n 0, 1) := by decide +kernel
theorem dX7_init_67 : decode cX7_init 67 = .ok (.new 25, 3) := by decide +kernel
theorem dX7_init_70 : decode cX7_init 70 = .ok (.dup, 1) := by decide +kernel
theorem dX7_init_71 : decode cX7_init 71 = .ok (.bipush 8, 2) := by decide +kernel
theorem dX7_init_73 : decode cX7_init 73 = .ok (.iconst 2, 1) := by decide +kernel
theorem dX7_init_74 : decode cX7_init 74 = .ok (.invokespecial 27, 3) := by decide +kernel
theorem dX7_init_77 : decode cX7_init 77 = .ok (.putfield 40, 3) := by decide +kernel
theorem dX7_init_80 : decode cX7_init 80 = .ok (.aload_n 0, 1) := by decide +kernel
theorem dX7_init_81 : decode cX7_init 81 = .ok (.new 25, 3) := by decide +kernel
theorem dX7_init_84 : decode cX7_init 84 = .ok (.dup, 1) := by decide +kernel
theorem dX7_init_85 : decode cX7_init 85 = .ok (.bipush 8, 2) := by decide +kernel
theorem dX7_init_87 : decode cX7_init 87 = .ok (.iconst 2, 1) := by decide +kernel
theorem dX7_init_88 : decode cX7_init 88 = .ok (.invokespecial 27, 3) := by decide +kernel
theorem dX7_init_91 : decode cX7_init 91 = .ok (.putfield 43, 3) := by decide +kernel
theorem dX7_init_94 : decode cX7_init 94 = .ok (.return_, 1) := by decide +kernel
theorem dX7_takes_0 : decode cX7_takes 0 = .ok (.aload_n 0, 1) := by decide +kernel
theorem dX7_takes_1 : decode cX7_takes 1 = .ok (.getfield 12, 3) := by decide +kernel
theorem dX7_takes_4 : decode cX7_takes 4 = .ok (.aload_n 1, 1) := by decide +kernel
theorem dX7_takes_5 : decode cX7_takes 5 = .ok (.getfield 12, 3) := by decide +kernel
theorem dX7_takes_8 : decode cX7_takes 8 = .ok (.invokevirtual 46, 3) := by decide +kernel
theorem dX7_takes_11 : decode cX7_takes 11 = .ok (.aload_n 0, 1) := by decide +kernel
theorem dX7_takes_12 : decode cX7_takes 12 = .ok (.getfield 21, 3) := by decide +kernel
theorem dX7_takes_15 : decode cX7_takes 15 = .ok (.aload_n 1, 1) := by decide +kernel
theorem dX7_takes_16 : decode cX7_takes 16 = .ok (.getfield 21, 3) := by decide +kernel
theorem dX7_takes_19 : decode cX7_takes 19 = .ok (.invokevirtual 50, 3) := by decide +kernel
theorem dX7_takes_22 : decode cX7_takes 22 = .ok (.aload_n 0, 1) := by decide +kernel
theorem dX7_takes_23 : decode cX7_takes 23 = .ok (.getfield 30, 3) := by decide +kernel
theorem dX7_takes_26 : decode cX7_takes 26 = .ok (.aload_n 1, 1) := by decide +kernel
theorem dX7_takes_27 : decode cX7_takes 27 = .ok (.getfield 30, 3) := by decide +kernel
theorem dX7_takes_30 : decode cX7_takes 30 = .ok (.invokevirtual 53, 3) := by decide +kernel
theorem dX7_takes_33 : decode cX7_takes 33 = .ok (.aload_n 0, 1) := by decide +kernel
theorem dX7_takes_34 : decode cX7_takes 34 = .ok (.getfield 34, 3) := by decide +kernel
theorem dX7_takes_37 : decode cX7_takes 37 = .ok (.aload_n 1, 1) := by decide +kernel
theorem dX7_takes_38 : decode cX7_takes 38 = .ok (.getfield 34, 3) := by decide +kernel
theorem dX7_takes_41 : decode cX7_takes 41 = .ok (.invokevirtual 53, 3) := by decide +kernel
theorem dX7_takes_44 : decode cX7_takes 44 = .ok (.aload_n 0, 1) := by decide +kernel
theorem dX7_takes_45 : decode cX7_takes 45 = .ok (.getfield 37, 3) := by decide +kernel
theorem dX7_takes_48 : decode cX7_takes 48 = .ok (.aload_n 1, 1) := by decide +kernel
theorem dX7_takes_49 : decode cX7_takes 49 = .ok (.getfield 37, 3) := by decide +kernel
theorem dX7_takes_52 : decode cX7_takes 52 = .ok (.invokevirtual 53, 3) := by decide +kernel
theorem dX7_takes_55 : decode cX7_takes 55 = .ok (.aload_n 0, 1) := by decide +kernel
theorem dX7_takes_56 : decode cX7_takes 56 = .ok (.getfield 40, 3) := by decide +kernel
theorem dX7_takes_59 : decode cX7_takes 59 = .ok (.aload_n 1, 1) := by decide +kernel
theorem dX7_takes_60 : decode cX7_takes 60 = .ok (.getfield 40, 3) := by decide +kernel
theorem dX7_takes_63 : decode cX7_takes 63 = .ok (.invokevirtual 53, 3) := by decide +kernel
theorem dX7_takes_66 : decode cX7_takes 66 = .ok (.aload_n 0, 1) := by decide +kernel
theorem dX7_takes_67 : decode cX7_takes 67 = .ok (.getfield 43, 3) := by decide +kernel
theorem dX7_takes_70 : decode cX7_takes 70 = .ok (.aload_n 1, 1) := by decide +kernel
theorem dX7_takes_71 : decode cX7_takes 71 = .ok (.getfield 43, 3) := by decide +kernel
theorem dX7_takes_74 : decode cX7_takes 74 = .ok (.invokevirtual 53, 3) := by decide +kernel
theorem dX7_takes_77 : decode cX7_takes 77 = .ok (.aload_n 0, 1) := by decide +kernel
theorem dX7_takes_78 : decode cX7_takes 78 = .ok (.aload_n 1, 1) := by decide +kernel
theorem dX7_takes_79 : decode cX7_takes 79 = .ok (.getfield 56, 3) := by decide +kernel
theorem dX7_takes_82 : decode cX7_takes 82 = .ok (.putfield 56, 3) := by decide +kernel
theorem dX7_takes_85 : decode cX7_takes 85 = .ok (.return_, 1) := by decide +kernel
theorem dX8_init_0 : decode cX8_init 0 = .ok (.aload_n 0, 1) := by decide +kernel
theorem dX8_init_1 : decode cX8_init 1 = .ok (.invokespecial 3, 3) := by decide +kernel
theorem dX8_init_4 : decode cX8_init 4 = .ok (.aload_n 0, 1) := by decide +kernel
theorem dX8_init_5 : decode cX8_init 5 = .ok (.new 9, 3) := by decide +kernel
theorem dX8_init_8 : decode cX8_init 8 = .ok (.dup, 1) := by decide +kernel
theorem dX8_init_9 : decode cX8_init 9 = .ok (.invokespecial 11, 3) := by decide +kernel
theorem dX8_init_12 : decode cX8_init 12 = .ok (.putfield 12, 3) := by decide +kernel
theorem dX8_init_15 : decode cX8_init 15 = .ok (.aload_n 0, 1) := by decide +kernel
theorem dX8_init_16 : decode cX8_init 16 = .ok (.new 9, 3) := by decide +kernel
theorem dX8_init_19 : decode cX8_init 19 = .ok (.dup, 1) := by decide +kernel
theorem dX8_init_20 : decode cX8_init 20 = .ok (.invokespecial 11, 3) := by decide +kernel
theorem dX8_init_23 : decode cX8_init 23 = .ok (.putfield 18, 3) := by decide +kernel
theorem dX8_init_26 : decode cX8_init 26 = .ok (.aload_n 0, 1) := by decide +kernel
theorem dX8_init_27 : decode cX8_init 27 = .ok (.aload_n 0, 1) := by decide +kernel
theorem dX8_init_28 : decode cX8_init 28 = .ok (.getfield 12, 3) := by decide +kernel
theorem dX8_init_31 : decode cX8_init 31 = .ok (.getfield 21, 3) := by decide +kernel
theorem dX8_init_34 : decode cX8_init 34 = .ok (.putfield 25, 3) := by decide +kernel
theorem dX8_init_37 : decode cX8_init 37 = .ok (.aload_n 0, 1) := by decide +kernel
theorem dX8_init_38 : decode cX8_init 38 = .ok (.new 26, 3) := by decide +kernel
theorem dX8_init_41 : decode cX8_init 41 = .ok (.dup, 1) := by decide +kernel
theorem dX8_init_42 : decode cX8_init 42 = .ok (.aload_n 0, 1) := by decide +kernel
theorem dX8_init_43 : decode cX8_init 43 = .ok (.getfield 12, 3) := by decide +kernel
theorem dX8_init_46 : decode cX8_init 46 = .ok (.getfield 21, 3) := by decide +kernel
theorem dX8_init_49 : decode cX8_init 49 = .ok (.aload_n 0, 1) := by decide +kernel
theorem dX8_init_50 : decode cX8_init 50 = .ok (.getfield 12, 3) := by decide +kernel
theorem dX8_init_53 : decode cX8_init 53 = .ok (.getfield 28, 3) := by decide +kernel
theorem dX8_init_56 : decode cX8_init 56 = .ok (.invokespecial 32, 3) := by decide +kernel
theorem dX8_init_59 : decode cX8_init 59 = .ok (.putfield 35, 3) := by decide +kernel
theorem dX8_init_62 : decode cX8_init 62 = .ok (.aload_n 0, 1) := by decide +kernel
theorem dX8_init_63 : decode cX8_init 63 = .ok (.new 39, 3) := by decide +kernel
theorem dX8_init_66 : decode cX8_init 66 = .ok (.dup, 1) := by decide +kernel
theorem dX8_init_67 : decode cX8_init 67 = .ok (.invokespecial 41, 3) := by decide +kernel
theorem dX8_init_70 : decode cX8_init 70 = .ok (.putfield 42, 3) := by decide +kernel
theorem dX8_init_73 : decode cX8_init 73 = .ok (.aload_n 0, 1) := by decide +kernel
theorem dX8_init_74 : decode cX8_init 74 = .ok (.new 26, 3) := by decide +kernel
theorem dX8_init_77 : decode cX8_init 77 = .ok (.dup, 1) := by decide +kernel
theorem dX8_init_78 : decode cX8_init 78 = .ok (.aload_n 0, 1) := by decide +kernel
theorem dX8_init_79 : decode cX8_init 79 = .ok (.getfield 42, 3) := by decide +kernel
theorem dX8_init_82 : decode cX8_init 82 = .ok (.aload_n 0, 1) := by decide +kernel
theorem dX8_init_83 : decode cX8_init 83 = .ok (.getfield 12, 3) := by decide +kernel
theorem dX8_init_86 : decode cX8_init 86 = .ok (.getfield 28, 3) := by decide +kernel
theorem dX8_init_89 : decode cX8_init 89 = .ok (.invokespecial 32, 3) := by decide +kernel
theorem dX8_init_92 : decode cX8_init 92 = .ok (.putfield 45, 3) := by decide +kernel
theorem dX8_init_95 : decode cX8_init 95 = .ok (.aload_n 0, 1) := by decide +kernel
theorem dX8_init_96 : decode cX8_init 96 = .ok (.new 48, 3) := by decide +kernel
theorem dX8_init_99 : decode cX8_init 99 = .ok (.dup, 1) := by decide +kernel
theorem dX8_init_100 : decode cX8_init 100 = .ok (.invokespecial 50, 3) := by decide +kernel
theorem dX8_init_103 : decode cX8_init 103 = .ok (.putfield 51, 3) := by decide +kernel
theorem dX8_init_106 : decode cX8_init 106 = .ok (.aload_n 0, 1) := by decide +kernel
theorem dX8_init_107 : decode cX8_init 107 = .ok (.new 55, 3) := by decide +kernel
theorem dX8_init_110 : decode cX8_init 110 = .ok (.dup, 1) := by decide +kernel
theorem dX8_init_111 : decode cX8_init 111 = .ok (.aload_n 0, 1) := by decide +kernel
theorem dX8_init_112 : decode cX8_init 112 = .ok (.getfield 12, 3) := by decide +kernel
theorem dX8_init_115 : decode cX8_init 115 = .ok (.getfield 57, 3) := by decide +kernel
theorem dX8_init_118 : decode cX8_init 118 = .ok (.invokespecial 61, 3) := by decide +kernel
theorem dX8_init_121 : decode cX8_init 121 = .ok (.putfield 64, 3) := by decide +kernel
theorem dX8_init_124 : decode cX8_init 124 = .ok (.aload_n 0, 1) := by decide +kernel
theorem dX8_init_125 : decode cX8_init 125 = .ok (.new 68, 3) := by decide +kernel
theorem dX8_init_128 : decode cX8_init 128 = .ok (.dup, 1) := by decide +kernel
theorem dX8_init_129 : decode cX8_init 129 = .ok (.invokespecial 70, 3) := by decide +kernel
theorem dX8_init_132 : decode cX8_init 132 = .ok (.putfield 71, 3) := by decide +kernel
theorem dX8_init_135 : decode cX8_init 135 = .ok (.return_, 1) := by decide +kernel
theorem dX8_feed_0 : decode cX8_feed 0 = .ok (.iload_n 1, 1) := by decide +kernel
theorem dX8_feed_1 : decode cX8_feed 1 = .ok (.ifCond .lt 9, 3) := by decide +kernel
theorem dX8_feed_4 : decode cX8_feed 4 = .ok (.iload_n 1, 1) := by decide +kernel
theorem dX8_feed_5 : decode cX8_feed 5 = .ok (.bipush 127, 2) := by decide +kernel
theorem dX8_feed_7 : decode cX8_feed 7 = .ok (.if_icmp .le 8, 3) := by decide +kernel
theorem dX8_feed_10 : decode cX8_feed 10 = .ok (.bipush (-2), 2) := by decide +kernel
theorem dX8_feed_12 : decode cX8_feed 12 = .ok (.goto 16, 3) := by decide +kernel
theorem dX8_feed_15 : decode cX8_feed 15 = .ok (.aload_n 0, 1) := by decide +kernel
theorem dX8_feed_16 : decode cX8_feed 16 = .ok (.getfield 12, 3) := by decide +kernel
theorem dX8_feed_19 : decode cX8_feed 19 = .ok (.getfield 57, 3) := by decide +kernel
theorem dX8_feed_22 : decode cX8_feed 22 = .ok (.iload_n 1, 1) := by decide +kernel
theorem dX8_feed_23 : decode cX8_feed 23 = .ok (.iconst 0, 1) := by decide +kernel
theorem dX8_feed_24 : decode cX8_feed 24 = .ok (.iconst 0, 1) := by decide +kernel
theorem dX8_feed_25 : decode cX8_feed 25 = .ok (.invokevirtual 75, 3) := by decide +kernel
theorem dX8_feed_28 : decode cX8_feed 28 = .ok (.ireturn, 1) := by decide +kernel
theorem dX8_parish_0 : decode cX8_parish 0 = .ok (.aload_n 0, 1) := by decide +kernel
theorem dX8_parish_1 : decode cX8_parish 1 = .ok (.getfield 12, 3) := by decide +kernel
theorem dX8_parish_4 : decode cX8_parish 4 = .ok (.getfield 81, 3) := by decide +kernel
theorem dX8_parish_7 : decode cX8_parish 7 = .ok (.iconst 5, 1) := by decide +kernel
theorem dX8_parish_8 : decode cX8_parish 8 = .ok (.if_icmp .lt 6, 3) := by decide +kernel
theorem dX8_parish_11 : decode cX8_parish 11 = .ok (.bipush (-4), 2) := by decide +kernel
theorem dX8_parish_13 : decode cX8_parish 13 = .ok (.ireturn, 1) := by decide +kernel
theorem dX8_parish_14 : decode cX8_parish 14 = .ok (.aload_n 0, 1) := by decide +kernel
theorem dX8_parish_15 : decode cX8_parish 15 = .ok (.getfield 64, 3) := by decide +kernel
theorem dX8_parish_18 : decode cX8_parish 18 = .ok (.invokevirtual 85, 3) := by decide +kernel
theorem dX8_parish_21 : decode cX8_parish 21 = .ok (.istore_n 1, 1) := by decide +kernel
theorem dX8_parish_22 : decode cX8_parish 22 = .ok (.aload_n 0, 1) := by decide +kernel
theorem dX8_parish_23 : decode cX8_parish 23 = .ok (.getfield 12, 3) := by decide +kernel
theorem dX8_parish_26 : decode cX8_parish 26 = .ok (.getfield 57, 3) := by decide +kernel
theorem dX8_parish_29 : decode cX8_parish 29 = .ok (.invokevirtual 89, 3) := by decide +kernel
theorem dX8_parish_32 : decode cX8_parish 32 = .ok (.pop, 1) := by decide +kernel
theorem dX8_parish_33 : decode cX8_parish 33 = .ok (.iload_n 1, 1) := by decide +kernel
theorem dX8_parish_34 : decode cX8_parish 34 = .ok (.ifCond .lt 8, 3) := by decide +kernel
theorem dX8_parish_37 : decode cX8_parish 37 = .ok (.bipush (-10), 2) := by decide +kernel
theorem dX8_parish_39 : decode cX8_parish 39 = .ok (.iload_n 1, 1) := by decide +kernel
theorem dX8_parish_40 : decode cX8_parish 40 = .ok (.isub, 1) := by decide +kernel
theorem dX8_parish_41 : decode cX8_parish 41 = .ok (.ireturn, 1) := by decide +kernel
theorem dX8_parish_42 : decode cX8_parish 42 = .ok (.aload_n 0, 1) := by decide +kernel
theorem dX8_parish_43 : decode cX8_parish 43 = .ok (.getfield 12, 3) := by decide +kernel
theorem dX8_parish_46 : decode cX8_parish 46 = .ok (.getfield 28, 3) := by decide +kernel
theorem dX8_parish_49 : decode cX8_parish 49 = .ok (.aload_n 0, 1) := by decide +kernel
theorem dX8_parish_50 : decode cX8_parish 50 = .ok (.getfield 64, 3) := by decide +kernel
theorem dX8_parish_53 : decode cX8_parish 53 = .ok (.getfield 92, 3) := by decide +kernel
theorem dX8_parish_56 : decode cX8_parish 56 = .ok (.invokevirtual 95, 3) := by decide +kernel
theorem dX8_parish_59 : decode cX8_parish 59 = .ok (.aload_n 0, 1) := by decide +kernel
theorem dX8_parish_60 : decode cX8_parish 60 = .ok (.getfield 12, 3) := by decide +kernel
theorem dX8_parish_63 : decode cX8_parish 63 = .ok (.dup, 1) := by decide +kernel
theorem dX8_parish_64 : decode cX8_parish 64 = .ok (.getfield 81, 3) := by decide +kernel
theorem dX8_parish_67 : decode cX8_parish 67 = .ok (.iconst 1, 1) := by decide +kernel
theorem dX8_parish_68 : decode cX8_parish 68 = .ok (.iadd, 1) := by decide +kernel
theorem dX8_parish_69 : decode cX8_parish 69 = .ok (.putfield 81, 3) := by decide +kernel
theorem dX8_parish_72 : decode cX8_parish 72 = .ok (.aload_n 0, 1) := by decide +kernel
theorem dX8_parish_73 : decode cX8_parish 73 = .ok (.getfield 12, 3) := by decide +kernel
theorem dX8_parish_76 : decode cX8_parish 76 = .ok (.getfield 81, 3) := by decide +kernel
theorem dX8_parish_79 : decode cX8_parish 79 = .ok (.iconst 1, 1) := by decide +kernel
theorem dX8_parish_80 : decode cX8_parish 80 = .ok (.isub, 1) := by decide +kernel
theorem dX8_parish_81 : decode cX8_parish 81 = .ok (.ireturn, 1) := by decide +kernel
theorem dX8_man_0 : decode cX8_man 0 = .ok (.iload_n 1, 1) := by decide +kernel
theorem dX8_man_1 : decode cX8_man 1 = .ok (.invokestatic 101, 3) := by decide +kernel
theorem dX8_man_4 : decode cX8_man 4 = .ok (.ifCond .eq 10, 3) := by decide +kernel
theorem dX8_man_7 : decode cX8_man 7 = .ok (.iload_n 3, 1) := by decide +kernel
theorem dX8_man_8 : decode cX8_man 8 = .ok (.invokestatic 105, 3) := by decide +kernel
theorem dX8_man_11 : decode cX8_man 11 = .ok (.ifCond .ne 5, 3) := by decide +kernel
theorem dX8_man_14 : decode cX8_man 14 = .ok (.iconst (-1), 1) := by decide +kernel
theorem dX8_man_15 : decode cX8_man 15 = .ok (.ireturn, 1) := by decide +kernel
theorem dX8_man_16 : decode cX8_man 16 = .ok (.iload_n 2, 1) := by decide +kernel
theorem dX8_man_17 : decode cX8_man 17 = .ok (.invokestatic 108, 3) := by decide +kernel
theorem dX8_man_20 : decode cX8_man 20 = .ok (.ifCond .eq 16, 3) := by decide +kernel
theorem dX8_man_23 : decode cX8_man 23 = .ok (.aload_n 0, 1) := by decide +kernel
theorem dX8_man_24 : decode cX8_man 24 = .ok (.getfield 25, 3) := by decide +kernel
theorem dX8_man_27 : decode cX8_man 27 = .ok (.iload_n 1, 1) := by decide +kernel
theorem dX8_man_28 : decode cX8_man 28 = .ok (.iload_n 2, 1) := by decide +kernel
theorem dX8_man_29 : decode cX8_man 29 = .ok (.iload_n 3, 1) := by decide +kernel
theorem dX8_man_30 : decode cX8_man 30 = .ok (.invokevirtual 111, 3) := by decide +kernel
theorem dX8_man_33 : decode cX8_man 33 = .ok (.goto 5, 3) := by decide +kernel
theorem dX8_man_36 : decode cX8_man 36 = .ok (.bipush (-2), 2) := by decide +kernel
theorem dX8_man_38 : decode cX8_man 38 = .ok (.ireturn, 1) := by decide +kernel
theorem dX8_of_0 : decode cX8_of 0 = .ok (.aload_n 0, 1) := by decide +kernel
theorem dX8_of_1 : decode cX8_of 1 = .ok (.getfield 25, 3) := by decide +kernel
theorem dX8_of_4 : decode cX8_of 4 = .ok (.iload_n 1, 1) := by decide +kernel
theorem dX8_of_5 : decode cX8_of 5 = .ok (.invokevirtual 112, 3) := by decide +kernel
theorem dX8_of_8 : decode cX8_of 8 = .ok (.ifCond .ne 6, 3) := by decide +kernel
theorem dX8_of_11 : decode cX8_of 11 = .ok (.ldc 115, 2) := by decide +kernel
theorem dX8_of_13 : decode cX8_of 13 = .ok (.ireturn, 1) := by decide +kernel
theorem dX8_of_14 : decode cX8_of 14 = .ok (.iload_n 2, 1) := by decide +kernel
theorem dX8_of_15 : decode cX8_of 15 = .ok (.tableswitch 114 0 6 #[41, 51, 61, 71, 83, 93, 105], 41) := by decide +kernel
theorem dX8_of_56 : decode cX8_of 56 = .ok (.aload_n 0, 1) := by decide +kernel
theorem dX8_of_57 : decode cX8_of 57 = .ok (.getfield 25, 3) := by decide +kernel
theorem dX8_of_60 : decode cX8_of 60 = .ok (.getfield 116, 3) := by decide +kernel
theorem dX8_of_63 : decode cX8_of 63 = .ok (.iload_n 1, 1) := by decide +kernel
theorem dX8_of_64 : decode cX8_of 64 = .ok (.iaload, 1) := by decide +kernel
theorem dX8_of_65 : decode cX8_of 65 = .ok (.ireturn, 1) := by decide +kernel
theorem dX8_of_66 : decode cX8_of 66 = .ok (.aload_n 0, 1) := by decide +kernel
theorem dX8_of_67 : decode cX8_of 67 = .ok (.getfield 25, 3) := by decide +kernel
theorem dX8_of_70 : decode cX8_of 70 = .ok (.getfield 120, 3) := by decide +kernel
theorem dX8_of_73 : decode cX8_of 73 = .ok (.iload_n 1, 1) := by decide +kernel
theorem dX8_of_74 : decode cX8_of 74 = .ok (.iaload, 1) := by decide +kernel
theorem dX8_of_75 : decode cX8_of 75 = .ok (.ireturn, 1) := by decide +kernel
theorem dX8_of_76 : decode cX8_of 76 = .ok (.aload_n 0, 1) := by decide +kernel
theorem dX8_of_77 : decode cX8_of 77 = .ok (.getfield 25, 3) := by decide +kernel
theorem dX8_of_80 : decode cX8_of 80 = .ok (.getfield 123, 3) := by decide +kernel
theorem dX8_of_83 : decode cX8_of 83 = .ok (.iload_n 1, 1) := by decide +kernel
theorem dX8_of_84 : decode cX8_of 84 = .ok (.iaload, 1) := by decide +kernel
theorem dX8_of_85 : decode cX8_of 85 = .ok (.ireturn, 1) := by decide +kernel
theorem dX8_of_86 : decode cX8_of 86 = .ok (.aload_n 0, 1) := by decide +kernel
theorem dX8_of_87 : decode cX8_of 87 = .ok (.getfield 25, 3) := by decide +kernel
theorem dX8_of_90 : decode cX8_of 90 = .ok (.getfield 126, 3) := by decide +kernel
theorem dX8_of_93 : decode cX8_of 93 = .ok (.iload_n 1, 1) := by decide +kernel
theorem dX8_of_94 : decode cX8_of 94 = .ok (.invokestatic 129, 3) := by decide +kernel
theorem dX8_of_97 : decode cX8_of 97 = .ok (.ireturn, 1) := by decide +kernel
theorem dX8_of_98 : decode cX8_of 98 = .ok (.aload_n 0, 1) := by decide +kernel
theorem dX8_of_99 : decode cX8_of 99 = .ok (.getfield 25, 3) := by decide +kernel
theorem dX8_of_102 : decode cX8_of 102 = .ok (.getfield 133, 3) := by decide +kernel
theorem dX8_of_105 : decode cX8_of 105 = .ok (.iload_n 1, 1) := by decide +kernel
theorem dX8_of_106 : decode cX8_of 106 = .ok (.iaload, 1) := by decide +kernel
theorem dX8_of_107 : decode cX8_of 107 = .ok (.ireturn, 1) := by decide +kernel
theorem dX8_of_108 : decode cX8_of 108 = .ok (.aload_n 0, 1) := by decide +kernel
theorem dX8_of_109 : decode cX8_of 109 = .ok (.getfield 25, 3) := by decide +kernel
theorem dX8_of_112 : decode cX8_of 112 = .ok (.getfield 136, 3) := by decide +kernel
theorem dX8_of_115 : decode cX8_of 115 = .ok (.iload_n 1, 1) := by decide +kernel
theorem dX8_of_116 : decode cX8_of 116 = .ok (.invokestatic 129, 3) := by decide +kernel
theorem dX8_of_119 : decode cX8_of 119 = .ok (.ireturn, 1) := by decide +kernel
theorem dX8_of_120 : decode cX8_of 120 = .ok (.aload_n 0, 1) := by decide +kernel
theorem dX8_of_121 : decode cX8_of 121 = .ok (.getfield 35, 3) := by decide +kernel
theorem dX8_of_124 : decode cX8_of 124 = .ok (.iload_n 1, 1) := by decide +kernel
theorem dX8_of_125 : decode cX8_of 125 = .ok (.invokevirtual 139, 3) := by decide +kernel
theorem dX8_of_128 : decode cX8_of 128 = .ok (.ireturn, 1) := by decide +kernel
theorem dX8_of_129 : decode cX8_of 129 = .ok (.ldc 115, 2) := by decide +kernel
theorem dX8_of_131 : decode cX8_of 131 = .ok (.ireturn, 1) := by decide +kernel
theorem dX8_row_0 : decode cX8_row 0 = .ok (.aload_n 0, 1) := by decide +kernel
theorem dX8_row_1 : decode cX8_row 1 = .ok (.getfield 25, 3) := by decide +kernel
theorem dX8_row_4 : decode cX8_row 4 = .ok (.iload_n 1, 1) := by decide +kernel
theorem dX8_row_5 : decode cX8_row 5 = .ok (.invokevirtual 112, 3) := by decide +kernel
theorem dX8_row_8 : decode cX8_row 8 = .ok (.ifCond .eq 12, 3) := by decide +kernel
theorem dX8_row_11 : decode cX8_row 11 = .ok (.iload_n 2, 1) := by decide +kernel
theorem dX8_row_12 : decode cX8_row 12 = .ok (.ifCond .lt 8, 3) := by decide +kernel
theorem dX8_row_15 : decode cX8_row 15 = .ok (.iload_n 2, 1) := by decide +kernel
theorem dX8_row_16 : decode cX8_row 16 = .ok (.iconst 4, 1) := by decide +kernel
theorem dX8_row_17 : decode cX8_row 17 = .ok (.if_icmp .lt 5, 3) := by decide +kernel
theorem dX8_row_20 : decode cX8_row 20 = .ok (.iconst (-1), 1) := by decide +kernel
theorem dX8_row_21 : decode cX8_row 21 = .ok (.ireturn, 1) := by decide +kernel
theorem dX8_row_22 : decode cX8_row 22 = .ok (.iload_n 3, 1) := by decide +kernel
theorem dX8_row_23 : decode cX8_row 23 = .ok (.invokestatic 108, 3) := by decide +kernel
theorem dX8_row_26 : decode cX8_row 26 = .ok (.ifCond .ne 6, 3) := by decide +kernel
theorem dX8_row_29 : decode cX8_row 29 = .ok (.bipush (-2), 2) := by decide +kernel
theorem dX8_row_31 : decode cX8_row 31 = .ok (.ireturn, 1) := by decide +kernel
theorem dX8_row_32 : decode cX8_row 32 = .ok (.aload_n 0, 1) := by decide +kernel
theorem dX8_row_33 : decode cX8_row 33 = .ok (.getfield 25, 3) := by decide +kernel
theorem dX8_row_36 : decode cX8_row 36 = .ok (.getfield 116, 3) := by decide +kernel
theorem dX8_row_39 : decode cX8_row 39 = .ok (.iload_n 1, 1) := by decide +kernel
theorem dX8_row_40 : decode cX8_row 40 = .ok (.iaload, 1) := by decide +kernel
theorem dX8_row_41 : decode cX8_row 41 = .ok (.bipush 6, 2) := by decide +kernel
theorem dX8_row_43 : decode cX8_row 43 = .ok (.if_icmp .eq 6, 3) := by decide +kernel
theorem dX8_row_46 : decode cX8_row 46 = .ok (.bipush (-3), 2) := by decide +kernel
theorem dX8_row_48 : decode cX8_row 48 = .ok (.ireturn, 1) := by decide +kernel
theorem dX8_row_49 : decode cX8_row 49 = .ok (.aload_n 0, 1) := by decide +kernel
theorem dX8_row_50 : decode cX8_row 50 = .ok (.getfield 25, 3) := by decide +kernel
theorem dX8_row_53 : decode cX8_row 53 = .ok (.getfield 143, 3) := by decide +kernel
theorem dX8_row_56 : decode cX8_row 56 = .ok (.iload_n 1, 1) := by decide +kernel
theorem dX8_row_57 : decode cX8_row 57 = .ok (.iconst 4, 1) := by decide +kernel
theorem dX8_row_58 : decode cX8_row 58 = .ok (.imul, 1) := by decide +kernel
theorem dX8_row_59 : decode cX8_row 59 = .ok (.iload_n 2, 1) := by decide +kernel
theorem dX8_row_60 : decode cX8_row 60 = .ok (.iadd, 1) := by decide +kernel
theorem dX8_row_61 : decode cX8_row 61 = .ok (.iaload, 1) := by decide +kernel
theorem dX8_row_62 : decode cX8_row 62 = .ok (.istore 4, 2) := by decide +kernel
theorem dX8_row_64 : decode cX8_row 64 = .ok (.aload_n 0, 1) := by decide +kernel
theorem dX8_row_65 : decode cX8_row 65 = .ok (.getfield 25, 3) := by decide +kernel
theorem dX8_row_68 : decode cX8_row 68 = .ok (.getfield 143, 3) := by decide +kernel
theorem dX8_row_71 : decode cX8_row 71 = .ok (.iload_n 1, 1) := by decide +kernel
theorem dX8_row_72 : decode cX8_row 72 = .ok (.iconst 4, 1) := by decide +kernel
theorem dX8_row_73 : decode cX8_row 73 = .ok (.imul, 1) := by decide +kernel
theorem dX8_row_74 : decode cX8_row 74 = .ok (.iload_n 2, 1) := by decide +kernel
theorem dX8_row_75 : decode cX8_row 75 = .ok (.iadd, 1) := by decide +kernel
theorem dX8_row_76 : decode cX8_row 76 = .ok (.iload_n 3, 1) := by decide +kernel
theorem dX8_row_77 : decode cX8_row 77 = .ok (.iastore, 1) := by decide +kernel
theorem dX8_row_78 : decode cX8_row 78 = .ok (.iload 4, 2) := by decide +kernel
theorem dX8_row_80 : decode cX8_row 80 = .ok (.ireturn, 1) := by decide +kernel
theorem dX8_peg_0 : decode cX8_peg 0 = .ok (.aload_n 0, 1) := by decide +kernel
theorem dX8_peg_1 : decode cX8_peg 1 = .ok (.getfield 25, 3) := by decide +kernel
theorem dX8_peg_4 : decode cX8_peg 4 = .ok (.iload_n 1, 1) := by decide +kernel
theorem dX8_peg_5 : decode cX8_peg 5 = .ok (.invokevirtual 112, 3) := by decide +kernel
theorem dX8_peg_8 : decode cX8_peg 8 = .ok (.ifCond .eq 10, 3) := by decide +kernel
theorem dX8_peg_11 : decode cX8_peg 11 = .ok (.iload_n 2, 1) := by decide +kernel
theorem dX8_peg_12 : decode cX8_peg 12 = .ok (.invokestatic 105, 3) := by decide +kernel
theorem dX8_peg_15 : decode cX8_peg 15 = .ok (.ifCond .ne 5, 3) := by decide +kernel
theorem dX8_peg_18 : decode cX8_peg 18 = .ok (.iconst (-1), 1) := by decide +kernel
theorem dX8_peg_19 : decode cX8_peg 19 = .ok (.ireturn, 1) := by decide +kernel
theorem dX8_peg_20 : decode cX8_peg 20 = .ok (.aload_n 0, 1) := by decide +kernel
theorem dX8_peg_21 : decode cX8_peg 21 = .ok (.getfield 25, 3) := by decide +kernel
theorem dX8_peg_24 : decode cX8_peg 24 = .ok (.getfield 123, 3) := by decide +kernel
theorem dX8_peg_27 : decode cX8_peg 27 = .ok (.iload_n 1, 1) := by decide +kernel
theorem dX8_peg_28 : decode cX8_peg 28 = .ok (.iaload, 1) := by decide +kernel
theorem dX8_peg_29 : decode cX8_peg 29 = .ok (.istore_n 3, 1) := by decide +kernel
theorem dX8_peg_30 : decode cX8_peg 30 = .ok (.aload_n 0, 1) := by decide +kernel
theorem dX8_peg_31 : decode cX8_peg 31 = .ok (.getfield 25, 3) := by decide +kernel
theorem dX8_peg_34 : decode cX8_peg 34 = .ok (.getfield 123, 3) := by decide +kernel
theorem dX8_peg_37 : decode cX8_peg 37 = .ok (.iload_n 1, 1) := by decide +kernel
theorem dX8_peg_38 : decode cX8_peg 38 = .ok (.iload_n 2, 1) := by decide +kernel
theorem dX8_peg_39 : decode cX8_peg 39 = .ok (.iastore, 1) := by decide +kernel
theorem dX8_peg_40 : decode cX8_peg 40 = .ok (.iload_n 3, 1) := by decide +kernel
theorem dX8_peg_41 : decode cX8_peg 41 = .ok (.ireturn, 1) := by decide +kernel
theorem dX8_away_0 : decode cX8_away 0 = .ok (.aload_n 0, 1) := by decide +kernel
theorem dX8_away_1 : decode cX8_away 1 = .ok (.getfield 25, 3) := by decide +kernel
theorem dX8_away_4 : decode cX8_away 4 = .ok (.iload_n 1, 1) := by decide +kernel
theorem dX8_away_5 : decode cX8_away 5 = .ok (.invokevirtual 112, 3) := by decide +kernel
theorem dX8_away_8 : decode cX8_away 8 = .ok (.ifCond .ne 5, 3) := by decide +kernel
theorem dX8_away_11 : decode cX8_away 11 = .ok (.iconst (-1), 1) := by decide +kernel
theorem dX8_away_12 : decode cX8_away 12 = .ok (.ireturn, 1) := by decide +kernel
theorem dX8_away_13 : decode cX8_away 13 = .ok (.aload_n 0, 1) := by decide +kernel
theorem dX8_away_14 : decode cX8_away 14 = .ok (.getfield 25, 3) := by decide +kernel
theorem dX8_away_17 : decode cX8_away 17 = .ok (.getfield 126, 3) := by decide +kernel
theorem dX8_away_20 : decode cX8_away 20 = .ok (.iload_n 1, 1) := by decide +kernel
theorem dX8_away_21 : decode cX8_away 21 = .ok (.invokestatic 129, 3) := by decide +kernel
theorem dX8_away_24 : decode cX8_away 24 = .ok (.istore_n 3, 1) := by decide +kernel
theorem dX8_away_25 : decode cX8_away 25 = .ok (.aload_n 0, 1) := by decide +kernel
theorem dX8_away_26 : decode cX8_away 26 = .ok (.getfield 25, 3) := by decide +kernel
theorem dX8_away_29 : decode cX8_away 29 = .ok (.iload_n 1, 1) := by decide +kernel
theorem dX8_away_30 : decode cX8_away 30 = .ok (.iload_n 2, 1) := by decide +kernel
theorem dX8_away_31 : decode cX8_away 31 = .ok (.invokevirtual 146, 3) := by decide +kernel
theorem dX8_away_34 : decode cX8_away 34 = .ok (.iload_n 3, 1) := by decide +kernel
theorem dX8_away_35 : decode cX8_away 35 = .ok (.ireturn, 1) := by decide +kernel
theorem dX8_lay_0 : decode cX8_lay 0 = .ok (.iload_n 1, 1) := by decide +kernel
theorem dX8_lay_1 : decode cX8_lay 1 = .ok (.invokestatic 150, 3) := by decide +kernel
theorem dX8_lay_4 : decode cX8_lay 4 = .ok (.ifCond .ne 5, 3) := by decide +kernel
theorem dX8_lay_7 : decode cX8_lay 7 = .ok (.iconst (-1), 1) := by decide +kernel
theorem dX8_lay_8 : decode cX8_lay 8 = .ok (.ireturn, 1) := by decide +kernel
theorem dX8_lay_9 : decode cX8_lay 9 = .ok (.iload_n 2, 1) := by decide +kernel
theorem dX8_lay_10 : decode cX8_lay 10 = .ok (.invokestatic 108, 3) := by decide +kernel
theorem dX8_lay_13 : decode cX8_lay 13 = .ok (.ifCond .ne 6, 3) := by decide +kernel
theorem dX8_lay_16 : decode cX8_lay 16 = .ok (.bipush (-2), 2) := by decide +kernel
theorem dX8_lay_18 : decode cX8_lay 18 = .ok (.ireturn, 1) := by decide +kernel
theorem dX8_lay_19 : decode cX8_lay 19 = .ok (.aload_n 0, 1) := by decide +kernel
theorem dX8_lay_20 : decode cX8_lay 20 = .ok (.getfield 25, 3) := by decide +kernel
theorem dX8_lay_23 : decode cX8_lay 23 = .ok (.getfield 153, 3) := by decide +kernel
theorem dX8_lay_26 : decode cX8_lay 26 = .ok (.iload_n 1, 1) := by decide +kernel
theorem dX8_lay_27 : decode cX8_lay 27 = .ok (.iaload, 1) := by decide +kernel
theorem dX8_lay_28 : decode cX8_lay 28 = .ok (.istore_n 3, 1) := by decide +kernel
theorem dX8_lay_29 : decode cX8_lay 29 = .ok (.aload_n 0, 1) := by decide +kernel
theorem dX8_lay_30 : decode cX8_lay 30 = .ok (.getfield 25, 3) := by decide +kernel
theorem dX8_lay_33 : decode cX8_lay 33 = .ok (.getfield 153, 3) := by decide +kernel
theorem dX8_lay_36 : decode cX8_lay 36 = .ok (.iload_n 1, 1) := by decide +kernel
theorem dX8_lay_37 : decode cX8_lay 37 = .ok (.iload_n 2, 1) := by decide +kernel
theorem dX8_lay_38 : decode cX8_lay 38 = .ok (.iastore, 1) := by decide +kernel
theorem dX8_lay_39 : decode cX8_lay 39 = .ok (.iload_n 3, 1) := by decide +kernel
theorem dX8_lay_40 : decode cX8_lay 40 = .ok (.ireturn, 1) := by decide +kernel
theorem dX8_plead_0 : decode cX8_plead 0 = .ok (.aload_n 0, 1) := by decide +kernel
theorem dX8_plead_1 : decode cX8_plead 1 = .ok (.getfield 25, 3) := by decide +kernel
theorem dX8_plead_4 : decode cX8_plead 4 = .ok (.iload_n 1, 1) := by decide +kernel
theorem dX8_plead_5 : decode cX8_plead 5 = .ok (.invokevirtual 112, 3) := by decide +kernel
theorem dX8_plead_8 : decode cX8_plead 8 = .ok (.ifCond .eq 14, 3) := by decide +kernel
theorem dX8_plead_11 : decode cX8_plead 11 = .ok (.aload_n 0, 1) := by decide +kernel
theorem dX8_plead_12 : decode cX8_plead 12 = .ok (.getfield 25, 3) := by decide +kernel
theorem dX8_plead_15 : decode cX8_plead 15 = .ok (.iload_n 2, 1) := by decide +kernel
theorem dX8_plead_16 : decode cX8_plead 16 = .ok (.invokevirtual 112, 3) := by decide +kernel
theorem dX8_plead_19 : decode cX8_plead 19 = .ok (.ifCond .ne 5, 3) := by decide +kernel
theorem dX8_plead_22 : decode cX8_plead 22 = .ok (.iconst (-1), 1) := by decide +kernel
theorem dX8_plead_23 : decode cX8_plead 23 = .ok (.ireturn, 1) := by decide +kernel
theorem dX8_plead_24 : decode cX8_plead 24 = .ok (.iload_n 1, 1) := by decide +kernel
theorem dX8_plead_25 : decode cX8_plead 25 = .ok (.iload_n 2, 1) := by decide +kernel
theorem dX8_plead_26 : decode cX8_plead 26 = .ok (.if_icmp .ne 6, 3) := by decide +kernel
theorem dX8_plead_29 : decode cX8_plead 29 = .ok (.bipush (-2), 2) := by decide +kernel
theorem dX8_plead_31 : decode cX8_plead 31 = .ok (.ireturn, 1) := by decide +kernel
theorem dX8_plead_32 : decode cX8_plead 32 = .ok (.aload_n 0, 1) := by decide +kernel
theorem dX8_plead_33 : decode cX8_plead 33 = .ok (.getfield 12, 3) := by decide +kernel
theorem dX8_plead_36 : decode cX8_plead 36 = .ok (.getfield 156, 3) := by decide +kernel
theorem dX8_plead_39 : decode cX8_plead 39 = .ok (.iload_n 1, 1) := by decide +kernel
theorem dX8_plead_40 : decode cX8_plead 40 = .ok (.iload_n 2, 1) := by decide +kernel
theorem dX8_plead_41 : decode cX8_plead 41 = .ok (.iconst 0, 1) := by decide +kernel
theorem dX8_plead_42 : decode cX8_plead 42 = .ok (.invokevirtual 75, 3) := by decide +kernel
theorem dX8_plead_45 : decode cX8_plead 45 = .ok (.istore_n 3, 1) := by decide +kernel
theorem dX8_plead_46 : decode cX8_plead 46 = .ok (.iload_n 3, 1) := by decide +kernel
theorem dX8_plead_47 : decode cX8_plead 47 = .ok (.ifCond .ge 7, 3) := by decide +kernel
theorem dX8_plead_50 : decode cX8_plead 50 = .ok (.iload_n 3, 1) := by decide +kernel
theorem dX8_plead_51 : decode cX8_plead 51 = .ok (.goto 6, 3) := by decide +kernel
theorem dX8_plead_54 : decode cX8_plead 54 = .ok (.iload_n 3, 1) := by decide +kernel
theorem dX8_plead_55 : decode cX8_plead 55 = .ok (.iconst 1, 1) := by decide +kernel
theorem dX8_plead_56 : decode cX8_plead 56 = .ok (.isub, 1) := by decide +kernel
theorem dX8_plead_57 : decode cX8_plead 57 = .ok (.ireturn, 1) := by decide +kernel
theorem dX8_told_0 : decode cX8_told 0 = .ok (.iload_n 1, 1) := by decide +kernel
theorem dX8_told_1 : decode cX8_told 1 = .ok (.bipush 10, 2) := by decide +kernel
theorem dX8_told_3 : decode cX8_told 3 = .ok (.if_icmp .lt 22, 3) := by decide +kernel
theorem dX8_told_6 : decode cX8_told 6 = .ok (.iload_n 1, 1) := by decide +kernel
theorem dX8_told_7 : decode cX8_told 7 = .ok (.bipush 22, 2) := by decide +kernel
theorem dX8_told_9 : decode cX8_told 9 = .ok (.if_icmp .ge 16, 3) := by decide +kernel
theorem dX8_told_12 : decode cX8_told 12 = .ok (.aload_n 0, 1) := by decide +kernel
theorem dX8_told_13 : decode cX8_told 13 = .ok (.getfield 25, 3) := by decide +kernel
theorem dX8_told_16 : decode cX8_told 16 = .ok (.getfield 153, 3) := by decide +kernel
theorem dX8_told_19 : decode cX8_told 19 = .ok (.iload_n 1, 1) := by decide +kernel
theorem dX8_told_20 : decode cX8_told 20 = .ok (.bipush 10, 2) := by decide +kernel
theorem dX8_told_22 : decode cX8_told 22 = .ok (.isub, 1) := by decide +kernel
theorem dX8_told_23 : decode cX8_told 23 = .ok (.iaload, 1) := by decide +kernel
theorem dX8_told_24 : decode cX8_told 24 = .ok (.ireturn, 1) := by decide +kernel
theorem dX8_told_25 : decode cX8_told 25 = .ok (.iload_n 1, 1) := by decide +kernel
theorem dX8_told_26 : decode cX8_told 26 = .ok (.bipush 30, 2) := by decide +kernel
theorem dX8_told_28 : decode cX8_told 28 = .ok (.if_icmp .lt 36, 3) := by decide +kernel
theorem dX8_told_31 : decode cX8_told 31 = .ok (.iload_n 1, 1) := by decide +kernel
theorem dX8_told_32 : decode cX8_told 32 = .ok (.bipush 30, 2) := by decide +kernel
theorem dX8_told_34 : decode cX8_told 34 = .ok (.aload_n 0, 1) := by decide +kernel
theorem dX8_told_35 : decode cX8_told 35 = .ok (.getfield 12, 3) := by decide +kernel
theorem dX8_told_38 : decode cX8_told 38 = .ok (.getfield 156, 3) := by decide +kernel
theorem dX8_told_41 : decode cX8_told 41 = .ok (.getfield 159, 3) := by decide +kernel
theorem dX8_told_44 : decode cX8_told 44 = .ok (.iadd, 1) := by decide +kernel
theorem dX8_told_45 : decode cX8_told 45 = .ok (.if_icmp .ge 19, 3) := by decide +kernel
theorem dX8_told_48 : decode cX8_told 48 = .ok (.aload_n 0, 1) := by decide +kernel
theorem dX8_told_49 : decode cX8_told 49 = .ok (.iload_n 1, 1) := by decide +kernel
theorem dX8_told_50 : decode cX8_told 50 = .ok (.bipush 30, 2) := by decide +kernel
theorem dX8_told_52 : decode cX8_told 52 = .ok (.isub, 1) := by decide +kernel
theorem dX8_told_53 : decode cX8_told 53 = .ok (.aload_n 0, 1) := by decide +kernel
theorem dX8_told_54 : decode cX8_told 54 = .ok (.getfield 25, 3) := by decide +kernel
theorem dX8_told_57 : decode cX8_told 57 = .ok (.getfield 136, 3) := by decide +kernel
theorem dX8_told_60 : decode cX8_told 60 = .ok (.invokevirtual 162, 3) := by decide +kernel
theorem dX8_told_63 : decode cX8_told 63 = .ok (.ireturn, 1) := by decide +kernel
theorem dX8_told_64 : decode cX8_told 64 = .ok (.iload_n 1, 1) := by decide +kernel
theorem dX8_told_65 : decode cX8_told 65 = .ok (.tableswitch 75 0 4 #[35, 43, 54, 62, 70], 35) := by decide +kernel
theorem dX8_told_100 : decode cX8_told 100 = .ok (.aload_n 0, 1) := by decide +kernel
theorem dX8_told_101 : decode cX8_told 101 = .ok (.getfield 25, 3) := by decide +kernel
theorem dX8_told_104 : decode cX8_told 104 = .ok (.getfield 165, 3) := by decide +kernel
theorem dX8_told_107 : decode cX8_told 107 = .ok (.ireturn, 1) := by decide +kernel
theorem dX8_told_108 : decode cX8_told 108 = .ok (.aload_n 0, 1) := by decide +kernel
theorem dX8_told_109 : decode cX8_told 109 = .ok (.getfield 12, 3) := by decide +kernel
theorem dX8_told_112 : decode cX8_told 112 = .ok (.getfield 28, 3) := by decide +kernel
theorem dX8_told_115 : decode cX8_told 115 = .ok (.getfield 168, 3) := by decide +kernel
theorem dX8_told_118 : decode cX8_told 118 = .ok (.ireturn, 1) := by decide +kernel
theorem dX8_told_119 : decode cX8_told 119 = .ok (.aload_n 0, 1) := by decide +kernel
theorem dX8_told_120 : decode cX8_told 120 = .ok (.getfield 25, 3) := by decide +kernel
theorem dX8_told_123 : decode cX8_told 123 = .ok (.getfield 136, 3) := by decide +kernel
theorem dX8_told_126 : decode cX8_told 126 = .ok (.ireturn, 1) := by decide +kernel
theorem dX8_told_127 : decode cX8_told 127 = .ok (.aload_n 0, 1) := by decide +kernel
theorem dX8_told_128 : decode cX8_told 128 = .ok (.getfield 25, 3) := by decide +kernel
theorem dX8_told_131 : decode cX8_told 131 = .ok (.getfield 126, 3) := by decide +kernel
theorem dX8_told_134 : decode cX8_told 134 = .ok (.ireturn, 1) := by decide +kernel
theorem dX8_told_135 : decode cX8_told 135 = .ok (.aload_n 0, 1) := by decide +kernel
theorem dX8_told_136 : decode cX8_told 136 = .ok (.invokevirtual 171, 3) := by decide +kernel
theorem dX8_told_139 : decode cX8_told 139 = .ok (.ireturn, 1) := by decide +kernel
theorem dX8_told_140 : decode cX8_told 140 = .ok (.ldc 115, 2) := by decide +kernel
theorem dX8_told_142 : decode cX8_told 142 = .ok (.ireturn, 1) := by decide +kernel
theorem dX8_pass_0 : decode cX8_pass 0 = .ok (.iload_n 1, 1) := by decide +kernel
theorem dX8_pass_1 : decode cX8_pass 1 = .ok (.ifCond .lt 9, 3) := by decide +kernel
theorem dX8_pass_4 : decode cX8_pass 4 = .ok (.iload_n 1, 1) := by decide +kernel
theorem dX8_pass_5 : decode cX8_pass 5 = .ok (.bipush 60, 2) := by decide +kernel
theorem dX8_pass_7 : decode cX8_pass 7 = .ok (.if_icmp .le 6, 3) := by decide +kernel
theorem dX8_pass_10 : decode cX8_pass 10 = .ok (.bipush (-2), 2) := by decide +kernel
theorem dX8_pass_12 : decode cX8_pass 12 = .ok (.ireturn, 1) := by decide +kernel
theorem dX8_pass_13 : decode cX8_pass 13 = .ok (.aload_n 0, 1) := by decide +kernel
theorem dX8_pass_14 : decode cX8_pass 14 = .ok (.getfield 25, 3) := by decide +kernel
theorem dX8_pass_17 : decode cX8_pass 17 = .ok (.getfield 165, 3) := by decide +kernel
theorem dX8_pass_20 : decode cX8_pass 20 = .ok (.iload_n 1, 1) := by decide +kernel
theorem dX8_pass_21 : decode cX8_pass 21 = .ok (.iadd, 1) := by decide +kernel
theorem dX8_pass_22 : decode cX8_pass 22 = .ok (.sipush 9999, 3) := by decide +kernel
theorem dX8_pass_25 : decode cX8_pass 25 = .ok (.if_icmp .le 6, 3) := by decide +kernel
theorem dX8_pass_28 : decode cX8_pass 28 = .ok (.bipush (-3), 2) := by decide +kernel
theorem dX8_pass_30 : decode cX8_pass 30 = .ok (.ireturn, 1) := by decide +kernel
theorem dX8_pass_31 : decode cX8_pass 31 = .ok (.aload_n 0, 1) := by decide +kernel
theorem dX8_pass_32 : decode cX8_pass 32 = .ok (.getfield 35, 3) := by decide +kernel
theorem dX8_pass_35 : decode cX8_pass 35 = .ok (.iload_n 1, 1) := by decide +kernel
theorem dX8_pass_36 : decode cX8_pass 36 = .ok (.sipush 9999, 3) := by decide +kernel
theorem dX8_pass_39 : decode cX8_pass 39 = .ok (.invokevirtual 174, 3) := by decide +kernel
theorem dX8_pass_42 : decode cX8_pass 42 = .ok (.aload_n 0, 1) := by decide +kernel
theorem dX8_pass_43 : decode cX8_pass 43 = .ok (.getfield 25, 3) := by decide +kernel
theorem dX8_pass_46 : decode cX8_pass 46 = .ok (.getfield 165, 3) := by decide +kernel
theorem dX8_pass_49 : decode cX8_pass 49 = .ok (.ireturn, 1) := by decide +kernel
theorem dX8_line_0 : decode cX8_line 0 = .ok (.iload_n 3, 1) := by decide +kernel
theorem dX8_line_1 : decode cX8_line 1 = .ok (.bipush 10, 2) := by decide +kernel
theorem dX8_line_3 : decode cX8_line 3 = .ok (.if_icmp .lt 13, 3) := by decide +kernel
theorem dX8_line_6 : decode cX8_line 6 = .ok (.iload_n 3, 1) := by decide +kernel
theorem dX8_line_7 : decode cX8_line 7 = .ok (.bipush 22, 2) := by decide +kernel
theorem dX8_line_9 : decode cX8_line 9 = .ok (.if_icmp .gt 7, 3) := by decide +kernel
theorem dX8_line_12 : decode cX8_line 12 = .ok (.iconst 1, 1) := by decide +kernel
theorem dX8_line_13 : decode cX8_line 13 = .ok (.goto 4, 3) := by decide +kernel
theorem dX8_line_16 : decode cX8_line 16 = .ok (.iconst 0, 1) := by decide +kernel
theorem dX8_line_17 : decode cX8_line 17 = .ok (.istore 4, 2) := by decide +kernel
theorem dX8_line_19 : decode cX8_line 19 = .ok (.aload_n 0, 1) := by decide +kernel
theorem dX8_line_20 : decode cX8_line 20 = .ok (.getfield 25, 3) := by decide +kernel
theorem dX8_line_23 : decode cX8_line 23 = .ok (.iload_n 1, 1) := by decide +kernel
theorem dX8_line_24 : decode cX8_line 24 = .ok (.invokevirtual 112, 3) := by decide +kernel
theorem dX8_line_27 : decode cX8_line 27 = .ok (.ifCond .eq 24, 3) := by decide +kernel
theorem dX8_line_30 : decode cX8_line 30 = .ok (.iload_n 2, 1) := by decide +kernel
theorem dX8_line_31 : decode cX8_line 31 = .ok (.invokestatic 105, 3) := by decide +kernel
theorem dX8_line_34 : decode cX8_line 34 = .ok (.ifCond .eq 17, 3) := by decide +kernel
theorem dX8_line_37 : decode cX8_line 37 = .ok (.iload 4, 2) := by decide +kernel
theorem dX8_line_39 : decode cX8_line 39 = .ok (.ifCond .ne 15, 3) := by decide +kernel
theorem dX8_line_42 : decode cX8_line 42 = .ok (.iload_n 3, 1) := by decide +kernel
theorem dX8_line_43 : decode cX8_line 43 = .ok (.ifCond .lt 8, 3) := by decide +kernel
theorem dX8_line_46 : decode cX8_line 46 = .ok (.iload_n 3, 1) := by decide +kernel
theorem dX8_line_47 : decode cX8_line 47 = .ok (.iconst 3, 1) := by decide +kernel
theorem dX8_line_48 : decode cX8_line 48 = .ok (.if_icmp .le 6, 3) := by decide +kernel
theorem dX8_line_51 : decode cX8_line 51 = .ok (.ldc 115, 2) := by decide +kernel
theorem dX8_line_53 : decode cX8_line 53 = .ok (.ireturn, 1) := by decide +kernel
theorem dX8_line_54 : decode cX8_line 54 = .ok (.aload_n 0, 1) := by decide +kernel
theorem dX8_line_55 : decode cX8_line 55 = .ok (.getfield 35, 3) := by decide +kernel
theorem dX8_line_58 : decode cX8_line 58 = .ok (.iload_n 1, 1) := by decide +kernel
theorem dX8_line_59 : decode cX8_line 59 = .ok (.iload_n 2, 1) := by decide +kernel
theorem dX8_line_60 : decode cX8_line 60 = .ok (.invokevirtual 178, 3) := by decide +kernel
theorem dX8_line_63 : decode cX8_line 63 = .ok (.pop, 1) := by decide +kernel
theorem dX8_line_64 : decode cX8_line 64 = .ok (.iload 4, 2) := by decide +kernel
theorem dX8_line_66 : decode cX8_line 66 = .ok (.ifCond .eq 16, 3) := by decide +kernel
theorem dX8_line_69 : decode cX8_line 69 = .ok (.aload_n 0, 1) := by decide +kernel
theorem dX8_line_70 : decode cX8_line 70 = .ok (.getfield 35, 3) := by decide +kernel
theorem dX8_line_73 : decode cX8_line 73 = .ok (.getfield 181, 3) := by decide +kernel
theorem dX8_line_76 : decode cX8_line 76 = .ok (.iload_n 3, 1) := by decide +kernel
theorem dX8_line_77 : decode cX8_line 77 = .ok (.bipush 10, 2) := by decide +kernel
theorem dX8_line_79 : decode cX8_line 79 = .ok (.isub, 1) := by decide +kernel
theorem dX8_line_80 : decode cX8_line 80 = .ok (.iaload, 1) := by decide +kernel
theorem dX8_line_81 : decode cX8_line 81 = .ok (.ireturn, 1) := by decide +kernel
theorem dX8_line_82 : decode cX8_line 82 = .ok (.iload_n 3, 1) := by decide +kernel
theorem dX8_line_83 : decode cX8_line 83 = .ok (.tableswitch 49 0 2 #[25, 33, 41], 25) := by decide +kernel
theorem dX8_line_108 : decode cX8_line 108 = .ok (.aload_n 0, 1) := by decide +kernel
theorem dX8_line_109 : decode cX8_line 109 = .ok (.getfield 35, 3) := by decide +kernel
theorem dX8_line_112 : decode cX8_line 112 = .ok (.getfield 184, 3) := by decide +kernel
theorem dX8_line_115 : decode cX8_line 115 = .ok (.ireturn, 1) := by decide +kernel
theorem dX8_line_116 : decode cX8_line 116 = .ok (.aload_n 0, 1) := by decide +kernel
theorem dX8_line_117 : decode cX8_line 117 = .ok (.getfield 35, 3) := by decide +kernel
theorem dX8_line_120 : decode cX8_line 120 = .ok (.getfield 187, 3) := by decide +kernel
theorem dX8_line_123 : decode cX8_line 123 = .ok (.ireturn, 1) := by decide +kernel
theorem dX8_line_124 : decode cX8_line 124 = .ok (.aload_n 0, 1) := by decide +kernel
theorem dX8_line_125 : decode cX8_line 125 = .ok (.getfield 35, 3) := by decide +kernel
theorem dX8_line_128 : decode cX8_line 128 = .ok (.invokevirtual 190, 3) := by decide +kernel
theorem dX8_line_131 : decode cX8_line 131 = .ok (.ireturn, 1) := by decide +kernel
theorem dX8_line_132 : decode cX8_line 132 = .ok (.aload_n 0, 1) := by decide +kernel
theorem dX8_line_133 : decode cX8_line 133 = .ok (.getfield 35, 3) := by decide +kernel
theorem dX8_line_136 : decode cX8_line 136 = .ok (.invokevirtual 193, 3) := by decide +kernel
theorem dX8_line_139 : decode cX8_line 139 = .ok (.ireturn, 1) := by decide +kernel
theorem dX8_strays_0 : decode cX8_strays 0 = .ok (.aload_n 0, 1) := by decide +kernel
theorem dX8_strays_1 : decode cX8_strays 1 = .ok (.getfield 25, 3) := by decide +kernel
theorem dX8_strays_4 : decode cX8_strays 4 = .ok (.iload_n 1, 1) := by decide +kernel
theorem dX8_strays_5 : decode cX8_strays 5 = .ok (.invokevirtual 112, 3) := by decide +kernel
theorem dX8_strays_8 : decode cX8_strays 8 = .ok (.ifCond .eq 21, 3) := by decide +kernel
theorem dX8_strays_11 : decode cX8_strays 11 = .ok (.iload_n 2, 1) := by decide +kernel
theorem dX8_strays_12 : decode cX8_strays 12 = .ok (.invokestatic 150, 3) := by decide +kernel
theorem dX8_strays_15 : decode cX8_strays 15 = .ok (.ifCond .eq 14, 3) := by decide +kernel
theorem dX8_strays_18 : decode cX8_strays 18 = .ok (.iload_n 3, 1) := by decide +kernel
theorem dX8_strays_19 : decode cX8_strays 19 = .ok (.invokestatic 105, 3) := by decide +kernel
theorem dX8_strays_22 : decode cX8_strays 22 = .ok (.ifCond .eq 7, 3) := by decide +kernel
theorem dX8_strays_25 : decode cX8_strays 25 = .ok (.iconst 1, 1) := by decide +kernel
theorem dX8_strays_26 : decode cX8_strays 26 = .ok (.goto 4, 3) := by decide +kernel
theorem dX8_strays_29 : decode cX8_strays 29 = .ok (.iconst 0, 1) := by decide +kernel
theorem dX8_strays_30 : decode cX8_strays 30 = .ok (.istore 4, 2) := by decide +kernel
theorem dX8_strays_32 : decode cX8_strays 32 = .ok (.iload 4, 2) := by decide +kernel
theorem dX8_strays_34 : decode cX8_strays 34 = .ok (.ifCond .eq 16, 3) := by decide +kernel
theorem dX8_strays_37 : decode cX8_strays 37 = .ok (.aload_n 0, 1) := by decide +kernel
theorem dX8_strays_38 : decode cX8_strays 38 = .ok (.getfield 35, 3) := by decide +kernel
theorem dX8_strays_41 : decode cX8_strays 41 = .ok (.iload_n 1, 1) := by decide +kernel
theorem dX8_strays_42 : decode cX8_strays 42 = .ok (.iload_n 2, 1) := by decide +kernel
theorem dX8_strays_43 : decode cX8_strays 43 = .ok (.iload_n 3, 1) := by decide +kernel
theorem dX8_strays_44 : decode cX8_strays 44 = .ok (.invokevirtual 196, 3) := by decide +kernel
theorem dX8_strays_47 : decode cX8_strays 47 = .ok (.goto 5, 3) := by decide +kernel
theorem dX8_strays_50 : decode cX8_strays 50 = .ok (.ldc 115, 2) := by decide +kernel
theorem dX8_strays_52 : decode cX8_strays 52 = .ok (.ireturn, 1) := by decide +kernel
theorem dX8_on_0 : decode cX8_on 0 = .ok (.iload_n 2, 1) := by decide +kernel
theorem dX8_on_1 : decode cX8_on 1 = .ok (.bipush 10, 2) := by decide +kernel
theorem dX8_on_3 : decode cX8_on 3 = .ok (.if_icmp .lt 21, 3) := by decide +kernel
theorem dX8_on_6 : decode cX8_on 6 = .ok (.iload_n 2, 1) := by decide +kernel
theorem dX8_on_7 : decode cX8_on 7 = .ok (.bipush 10, 2) := by decide +kernel
theorem dX8_on_9 : decode cX8_on 9 = .ok (.aload_n 0, 1) := by decide +kernel
theorem dX8_on_10 : decode cX8_on 10 = .ok (.getfield 25, 3) := by decide +kernel
theorem dX8_on_13 : decode cX8_on 13 = .ok (.getfield 199, 3) := by decide +kernel
theorem dX8_on_16 : decode cX8_on 16 = .ok (.iadd, 1) := by decide +kernel
theorem dX8_on_17 : decode cX8_on 17 = .ok (.if_icmp .ge 7, 3) := by decide +kernel
theorem dX8_on_20 : decode cX8_on 20 = .ok (.iconst 1, 1) := by decide +kernel
theorem dX8_on_21 : decode cX8_on 21 = .ok (.goto 4, 3) := by decide +kernel
theorem dX8_on_24 : decode cX8_on 24 = .ok (.iconst 0, 1) := by decide +kernel
theorem dX8_on_25 : decode cX8_on 25 = .ok (.istore_n 3, 1) := by decide +kernel
theorem dX8_on_26 : decode cX8_on 26 = .ok (.iload_n 2, 1) := by decide +kernel
theorem dX8_on_27 : decode cX8_on 27 = .ok (.bipush 20, 2) := by decide +kernel
theorem dX8_on_29 : decode cX8_on 29 = .ok (.if_icmp .lt 24, 3) := by decide +kernel
theorem dX8_on_32 : decode cX8_on 32 = .ok (.iload_n 2, 1) := by decide +kernel
theorem dX8_on_33 : decode cX8_on 33 = .ok (.bipush 20, 2) := by decide +kernel
theorem dX8_on_35 : decode cX8_on 35 = .ok (.aload_n 0, 1) := by decide +kernel
theorem dX8_on_36 : decode cX8_on 36 = .ok (.getfield 12, 3) := by decide +kernel
theorem dX8_on_39 : decode cX8_on 39 = .ok (.getfield 156, 3) := by decide +kernel
theorem dX8_on_42 : decode cX8_on 42 = .ok (.getfield 159, 3) := by decide +kernel
theorem dX8_on_45 : decode cX8_on 45 = .ok (.iadd, 1) := by decide +kernel
theorem dX8_on_46 : decode cX8_on 46 = .ok (.if_icmp .ge 7, 3) := by decide +kernel
theorem dX8_on_49 : decode cX8_on 49 = .ok (.iconst 1, 1) := by decide +kernel
theorem dX8_on_50 : decode cX8_on 50 = .ok (.goto 4, 3) := by decide +kernel
theorem dX8_on_53 : decode cX8_on 53 = .ok (.iconst 0, 1) := by decide +kernel
theorem dX8_on_54 : decode cX8_on 54 = .ok (.istore 4, 2) := by decide +kernel
theorem dX8_on_56 : decode cX8_on 56 = .ok (.iload_n 2, 1) := by decide +kernel
theorem dX8_on_57 : decode cX8_on 57 = .ok (.ifCond .eq 14, 3) := by decide +kernel
theorem dX8_on_60 : decode cX8_on 60 = .ok (.iload_n 3, 1) := by decide +kernel
theorem dX8_on_61 : decode cX8_on 61 = .ok (.ifCond .ne 10, 3) := by decide +kernel
theorem dX8_on_64 : decode cX8_on 64 = .ok (.iload 4, 2) := by decide +kernel
theorem dX8_on_66 : decode cX8_on 66 = .ok (.ifCond .ne 5, 3) := by decide +kernel
theorem dX8_on_69 : decode cX8_on 69 = .ok (.iconst (-1), 1) := by decide +kernel
theorem dX8_on_70 : decode cX8_on 70 = .ok (.ireturn, 1) := by decide +kernel
theorem dX8_on_71 : decode cX8_on 71 = .ok (.iload_n 1, 1) := by decide +kernel
theorem dX8_on_72 : decode cX8_on 72 = .ok (.ifCond .lt 9, 3) := by decide +kernel
theorem dX8_on_75 : decode cX8_on 75 = .ok (.iload_n 1, 1) := by decide +kernel
theorem dX8_on_76 : decode cX8_on 76 = .ok (.bipush 60, 2) := by decide +kernel
theorem dX8_on_78 : decode cX8_on 78 = .ok (.if_icmp .le 6, 3) := by decide +kernel
theorem dX8_on_81 : decode cX8_on 81 = .ok (.bipush (-2), 2) := by decide +kernel
theorem dX8_on_83 : decode cX8_on 83 = .ok (.ireturn, 1) := by decide +kernel
theorem dX8_on_84 : decode cX8_on 84 = .ok (.aload_n 0, 1) := by decide +kernel
theorem dX8_on_85 : decode cX8_on 85 = .ok (.getfield 42, 3) := by decide +kernel
theorem dX8_on_88 : decode cX8_on 88 = .ok (.aload_n 0, 1) := by decide +kernel
theorem dX8_on_89 : decode cX8_on 89 = .ok (.getfield 25, 3) := by decide +kernel
theorem dX8_on_92 : decode cX8_on 92 = .ok (.invokevirtual 202, 3) := by decide +kernel
theorem dX8_on_95 : decode cX8_on 95 = .ok (.aload_n 0, 1) := by decide +kernel
theorem dX8_on_96 : decode cX8_on 96 = .ok (.getfield 45, 3) := by decide +kernel
theorem dX8_on_99 : decode cX8_on 99 = .ok (.iload_n 1, 1) := by decide +kernel
theorem dX8_on_100 : decode cX8_on 100 = .ok (.ldc 205, 2) := by decide +kernel
theorem dX8_on_102 : decode cX8_on 102 = .ok (.invokevirtual 174, 3) := by decide +kernel
theorem dX8_on_105 : decode cX8_on 105 = .ok (.iload_n 3, 1) := by decide +kernel
theorem dX8_on_106 : decode cX8_on 106 = .ok (.ifCond .eq 16, 3) := by decide +kernel
theorem dX8_on_109 : decode cX8_on 109 = .ok (.aload_n 0, 1) := by decide +kernel
theorem dX8_on_110 : decode cX8_on 110 = .ok (.getfield 42, 3) := by decide +kernel
theorem dX8_on_113 : decode cX8_on 113 = .ok (.getfield 133, 3) := by decide +kernel
theorem dX8_on_116 : decode cX8_on 116 = .ok (.iload_n 2, 1) := by decide +kernel
theorem dX8_on_117 : decode cX8_on 117 = .ok (.bipush 10, 2) := by decide +kernel
theorem dX8_on_119 : decode cX8_on 119 = .ok (.isub, 1) := by decide +kernel
theorem dX8_on_120 : decode cX8_on 120 = .ok (.iaload, 1) := by decide +kernel
theorem dX8_on_121 : decode cX8_on 121 = .ok (.ireturn, 1) := by decide +kernel
theorem dX8_on_122 : decode cX8_on 122 = .ok (.iload 4, 2) := by decide +kernel
theorem dX8_on_124 : decode cX8_on 124 = .ok (.ifCond .eq 21, 3) := by decide +kernel
theorem dX8_on_127 : decode cX8_on 127 = .ok (.aload_n 0, 1) := by decide +kernel
theorem dX8_on_128 : decode cX8_on 128 = .ok (.iload_n 2, 1) := by decide +kernel
theorem dX8_on_129 : decode cX8_on 129 = .ok (.bipush 20, 2) := by decide +kernel
theorem dX8_on_131 : decode cX8_on 131 = .ok (.isub, 1) := by decide +kernel
theorem dX8_on_132 : decode cX8_on 132 = .ok (.aload_n 0, 1) := by decide +kernel
theorem dX8_on_133 : decode cX8_on 133 = .ok (.getfield 42, 3) := by decide +kernel
theorem dX8_on_136 : decode cX8_on 136 = .ok (.getfield 136, 3) := by decide +kernel
theorem dX8_on_139 : decode cX8_on 139 = .ok (.invokevirtual 162, 3) := by decide +kernel
theorem dX8_on_142 : decode cX8_on 142 = .ok (.goto 10, 3) := by decide +kernel
theorem dX8_on_145 : decode cX8_on 145 = .ok (.aload_n 0, 1) := by decide +kernel
theorem dX8_on_146 : decode cX8_on 146 = .ok (.getfield 42, 3) := by decide +kernel
theorem dX8_on_149 : decode cX8_on 149 = .ok (.getfield 136, 3) := by decide +kernel
theorem dX8_on_152 : decode cX8_on 152 = .ok (.ireturn, 1) := by decide +kernel
theorem dX8_when_0 : decode cX8_when 0 = .ok (.iload_n 1, 1) := by decide +kernel
theorem dX8_when_1 : decode cX8_when 1 = .ok (.ifCond .lt 17, 3) := by decide +kernel
theorem dX8_when_4 : decode cX8_when 4 = .ok (.iload_n 1, 1) := by decide +kernel
theorem dX8_when_5 : decode cX8_when 5 = .ok (.aload_n 0, 1) := by decide +kernel
theorem dX8_when_6 : decode cX8_when 6 = .ok (.getfield 12, 3) := by decide +kernel
theorem dX8_when_9 : decode cX8_when 9 = .ok (.getfield 156, 3) := by decide +kernel
theorem dX8_when_12 : decode cX8_when 12 = .ok (.getfield 159, 3) := by decide +kernel
theorem dX8_when_15 : decode cX8_when 15 = .ok (.if_icmp .lt 5, 3) := by decide +kernel
theorem dX8_when_18 : decode cX8_when 18 = .ok (.iconst (-1), 1) := by decide +kernel
theorem dX8_when_19 : decode cX8_when 19 = .ok (.ireturn, 1) := by decide +kernel
theorem dX8_when_20 : decode cX8_when 20 = .ok (.aload_n 0, 1) := by decide +kernel
theorem dX8_when_21 : decode cX8_when 21 = .ok (.getfield 12, 3) := by decide +kernel
theorem dX8_when_24 : decode cX8_when 24 = .ok (.getfield 156, 3) := by decide +kernel
theorem dX8_when_27 : decode cX8_when 27 = .ok (.iload_n 1, 1) := by decide +kernel
theorem dX8_when_28 : decode cX8_when 28 = .ok (.iconst 0, 1) := by decide +kernel
theorem dX8_when_29 : decode cX8_when 29 = .ok (.invokevirtual 206, 3) := by decide +kernel
theorem dX8_when_32 : decode cX8_when 32 = .ok (.istore_n 2, 1) := by decide +kernel
theorem dX8_when_33 : decode cX8_when 33 = .ok (.aload_n 0, 1) := by decide +kernel
theorem dX8_when_34 : decode cX8_when 34 = .ok (.getfield 42, 3) := by decide +kernel
theorem dX8_when_37 : decode cX8_when 37 = .ok (.aload_n 0, 1) := by decide +kernel
theorem dX8_when_38 : decode cX8_when 38 = .ok (.getfield 25, 3) := by decide +kernel
theorem dX8_when_41 : decode cX8_when 41 = .ok (.invokevirtual 202, 3) := by decide +kernel
theorem dX8_when_44 : decode cX8_when 44 = .ok (.iconst 0, 1) := by decide +kernel
theorem dX8_when_45 : decode cX8_when 45 = .ok (.istore_n 3, 1) := by decide +kernel
theorem dX8_when_46 : decode cX8_when 46 = .ok (.iload_n 3, 1) := by decide +kernel
theorem dX8_when_47 : decode cX8_when 47 = .ok (.bipush 10, 2) := by decide +kernel
theorem dX8_when_49 : decode cX8_when 49 = .ok (.if_icmp .gt 37, 3) := by decide +kernel
theorem dX8_when_52 : decode cX8_when 52 = .ok (.aload_n 0, 1) := by decide +kernel
theorem dX8_when_53 : decode cX8_when 53 = .ok (.iload_n 1, 1) := by decide +kernel
theorem dX8_when_54 : decode cX8_when 54 = .ok (.aload_n 0, 1) := by decide +kernel
theorem dX8_when_55 : decode cX8_when 55 = .ok (.getfield 42, 3) := by decide +kernel
theorem dX8_when_58 : decode cX8_when 58 = .ok (.getfield 136, 3) := by decide +kernel
theorem dX8_when_61 : decode cX8_when 61 = .ok (.invokevirtual 162, 3) := by decide +kernel
theorem dX8_when_64 : decode cX8_when 64 = .ok (.iload_n 2, 1) := by decide +kernel
theorem dX8_when_65 : decode cX8_when 65 = .ok (.if_icmp .ne 5, 3) := by decide +kernel
theorem dX8_when_68 : decode cX8_when 68 = .ok (.iload_n 3, 1) := by decide +kernel
theorem dX8_when_69 : decode cX8_when 69 = .ok (.ireturn, 1) := by decide +kernel
theorem dX8_when_70 : decode cX8_when 70 = .ok (.aload_n 0, 1) := by decide +kernel
theorem dX8_when_71 : decode cX8_when 71 = .ok (.getfield 45, 3) := by decide +kernel
theorem dX8_when_74 : decode cX8_when 74 = .ok (.iconst 1, 1) := by decide +kernel
theorem dX8_when_75 : decode cX8_when 75 = .ok (.ldc 205, 2) := by decide +kernel
theorem dX8_when_77 : decode cX8_when 77 = .ok (.invokevirtual 174, 3) := by decide +kernel
theorem dX8_when_80 : decode cX8_when 80 = .ok (.iinc 3 1, 3) := by decide +kernel
theorem dX8_when_83 : decode cX8_when 83 = .ok (.goto (-37), 3) := by decide +kernel
theorem dX8_when_86 : decode cX8_when 86 = .ok (.bipush (-5), 2) := by decide +kernel
theorem dX8_when_88 : decode cX8_when 88 = .ok (.ireturn, 1) := by decide +kernel
theorem dX8_start_0 : decode cX8_start 0 = .ok (.aload_n 0, 1) := by decide +kernel
theorem dX8_start_1 : decode cX8_start 1 = .ok (.getfield 25, 3) := by decide +kernel
theorem dX8_start_4 : decode cX8_start 4 = .ok (.iload_n 1, 1) := by decide +kernel
theorem dX8_start_5 : decode cX8_start 5 = .ok (.invokevirtual 112, 3) := by decide +kernel
theorem dX8_start_8 : decode cX8_start 8 = .ok (.ifCond .ne 5, 3) := by decide +kernel
theorem dX8_start_11 : decode cX8_start 11 = .ok (.iconst (-1), 1) := by decide +kernel
theorem dX8_start_12 : decode cX8_start 12 = .ok (.ireturn, 1) := by decide +kernel
theorem dX8_start_13 : decode cX8_start 13 = .ok (.iconst 0, 1) := by decide +kernel
theorem dX8_start_14 : decode cX8_start 14 = .ok (.istore_n 2, 1) := by decide +kernel
theorem dX8_start_15 : decode cX8_start 15 = .ok (.aload_n 0, 1) := by decide +kernel
theorem dX8_start_16 : decode cX8_start 16 = .ok (.getfield 35, 3) := by decide +kernel
theorem dX8_start_19 : decode cX8_start 19 = .ok (.iload_n 1, 1) := by decide +kernel
theorem dX8_start_20 : decode cX8_start 20 = .ok (.iconst 0, 1) := by decide +kernel
theorem dX8_start_21 : decode cX8_start 21 = .ok (.invokevirtual 178, 3) := by decide +kernel
theorem dX8_start_24 : decode cX8_start 24 = .ok (.istore_n 3, 1) := by decide +kernel
theorem dX8_start_25 : decode cX8_start 25 = .ok (.iconst 1, 1) := by decide +kernel
theorem dX8_start_26 : decode cX8_start 26 = .ok (.istore 4, 2) := by decide +kernel
theorem dX8_start_28 : decode cX8_start 28 = .ok (.iload 4, 2) := by decide +kernel
theorem dX8_start_30 : decode cX8_start 30 = .ok (.bipush 9, 2) := by decide +kernel
theorem dX8_start_32 : decode cX8_start 32 = .ok (.if_icmp .ge 33, 3) := by decide +kernel
theorem dX8_start_35 : decode cX8_start 35 = .ok (.aload_n 0, 1) := by decide +kernel
theorem dX8_start_36 : decode cX8_start 36 = .ok (.getfield 35, 3) := by decide +kernel
theorem dX8_start_39 : decode cX8_start 39 = .ok (.iload_n 1, 1) := by decide +kernel
theorem dX8_start_40 : decode cX8_start 40 = .ok (.iload 4, 2) := by decide +kernel
theorem dX8_start_42 : decode cX8_start 42 = .ok (.invokevirtual 178, 3) := by decide +kernel
theorem dX8_start_45 : decode cX8_start 45 = .ok (.istore 5, 2) := by decide +kernel
theorem dX8_start_47 : decode cX8_start 47 = .ok (.iload 5, 2) := by decide +kernel
theorem dX8_start_49 : decode cX8_start 49 = .ok (.iload_n 3, 1) := by decide +kernel
theorem dX8_start_50 : decode cX8_start 50 = .ok (.if_icmp .le 9, 3) := by decide +kernel
theorem dX8_start_53 : decode cX8_start 53 = .ok (.iload 5, 2) := by decide +kernel
theorem dX8_start_55 : decode cX8_start 55 = .ok (.istore_n 3, 1) := by decide +kernel
theorem dX8_start_56 : decode cX8_start 56 = .ok (.iload 4, 2) := by decide +kernel
theorem dX8_start_58 : decode cX8_start 58 = .ok (.istore_n 2, 1) := by decide +kernel
theorem dX8_start_59 : decode cX8_start 59 = .ok (.iinc 4 1, 3) := by decide +kernel
theorem dX8_start_62 : decode cX8_start 62 = .ok (.goto (-34), 3) := by decide +kernel
theorem dX8_start_65 : decode cX8_start 65 = .ok (.iload_n 2, 1) := by decide +kernel
theorem dX8_start_66 : decode cX8_start 66 = .ok (.ireturn, 1) := by decide +kernel
theorem dX8_waver_0 : decode cX8_waver 0 = .ok (.aload_n 0, 1) := by decide +kernel
theorem dX8_waver_1 : decode cX8_waver 1 = .ok (.getfield 25, 3) := by decide +kernel
theorem dX8_waver_4 : decode cX8_waver 4 = .ok (.iload_n 1, 1) := by decide +kernel
theorem dX8_waver_5 : decode cX8_waver 5 = .ok (.invokevirtual 112, 3) := by decide +kernel
theorem dX8_waver_8 : decode cX8_waver 8 = .ok (.ifCond .ne 5, 3) := by decide +kernel
theorem dX8_waver_11 : decode cX8_waver 11 = .ok (.iconst (-1), 1) := by decide +kernel
theorem dX8_waver_12 : decode cX8_waver 12 = .ok (.ireturn, 1) := by decide +kernel
theorem dX8_waver_13 : decode cX8_waver 13 = .ok (.iload_n 2, 1) := by decide +kernel
theorem dX8_waver_14 : decode cX8_waver 14 = .ok (.invokestatic 209, 3) := by decide +kernel
theorem dX8_waver_17 : decode cX8_waver 17 = .ok (.ifCond .ne 6, 3) := by decide +kernel
theorem dX8_waver_20 : decode cX8_waver 20 = .ok (.bipush (-2), 2) := by decide +kernel
theorem dX8_waver_22 : decode cX8_waver 22 = .ok (.ireturn, 1) := by decide +kernel
theorem dX8_waver_23 : decode cX8_waver 23 = .ok (.aload_n 0, 1) := by decide +kernel
theorem dX8_waver_24 : decode cX8_waver 24 = .ok (.getfield 35, 3) := by decide +kernel
theorem dX8_waver_27 : decode cX8_waver 27 = .ok (.iload_n 1, 1) := by decide +kernel
theorem dX8_waver_28 : decode cX8_waver 28 = .ok (.invokevirtual 139, 3) := by decide +kernel
theorem dX8_waver_31 : decode cX8_waver 31 = .ok (.istore_n 3, 1) := by decide +kernel
theorem dX8_waver_32 : decode cX8_waver 32 = .ok (.bipush (-5), 2) := by decide +kernel
theorem dX8_waver_34 : decode cX8_waver 34 = .ok (.istore 4, 2) := by decide +kernel
theorem dX8_waver_36 : decode cX8_waver 36 = .ok (.iconst 0, 1) := by decide +kernel
theorem dX8_waver_37 : decode cX8_waver 37 = .ok (.istore 5, 2) := by decide +kernel
theorem dX8_waver_39 : decode cX8_waver 39 = .ok (.iload 5, 2) := by decide +kernel
theorem dX8_waver_41 : decode cX8_waver 41 = .ok (.bipush 12, 2) := by decide +kernel
theorem dX8_waver_43 : decode cX8_waver 43 = .ok (.if_icmp .ge 32, 3) := by decide +kernel
theorem dX8_waver_46 : decode cX8_waver 46 = .ok (.aload_n 0, 1) := by decide +kernel
theorem dX8_waver_47 : decode cX8_waver 47 = .ok (.iload_n 1, 1) := by decide +kernel
theorem dX8_waver_48 : decode cX8_waver 48 = .ok (.iload 5, 2) := by decide +kernel
theorem dX8_waver_50 : decode cX8_waver 50 = .ok (.iload_n 2, 1) := by decide +kernel
theorem dX8_waver_51 : decode cX8_waver 51 = .ok (.invokevirtual 212, 3) := by decide +kernel
theorem dX8_waver_54 : decode cX8_waver 54 = .ok (.istore 6, 2) := by decide +kernel
theorem dX8_waver_56 : decode cX8_waver 56 = .ok (.iload 6, 2) := by decide +kernel
theorem dX8_waver_58 : decode cX8_waver 58 = .ok (.iload_n 3, 1) := by decide +kernel
theorem dX8_waver_59 : decode cX8_waver 59 = .ok (.if_icmp .ge 10, 3) := by decide +kernel
theorem dX8_waver_62 : decode cX8_waver 62 = .ok (.iload 6, 2) := by decide +kernel
theorem dX8_waver_64 : decode cX8_waver 64 = .ok (.istore_n 3, 1) := by decide +kernel
theorem dX8_waver_65 : decode cX8_waver 65 = .ok (.iload 5, 2) := by decide +kernel
theorem dX8_waver_67 : decode cX8_waver 67 = .ok (.istore 4, 2) := by decide +kernel
theorem dX8_waver_69 : decode cX8_waver 69 = .ok (.iinc 5 1, 3) := by decide +kernel
theorem dX8_waver_72 : decode cX8_waver 72 = .ok (.goto (-33), 3) := by decide +kernel
theorem dX8_waver_75 : decode cX8_waver 75 = .ok (.iload 4, 2) := by decide +kernel
theorem dX8_waver_77 : decode cX8_waver 77 = .ok (.ireturn, 1) := by decide +kernel
theorem dX8_clear_0 : decode cX8_clear 0 = .ok (.aload_n 0, 1) := by decide +kernel
theorem dX8_clear_1 : decode cX8_clear 1 = .ok (.getfield 25, 3) := by decide +kernel
theorem dX8_clear_4 : decode cX8_clear 4 = .ok (.iload_n 1, 1) := by decide +kernel
theorem dX8_clear_5 : decode cX8_clear 5 = .ok (.invokevirtual 112, 3) := by decide +kernel
theorem dX8_clear_8 : decode cX8_clear 8 = .ok (.ifCond .ne 5, 3) := by decide +kernel
theorem dX8_clear_11 : decode cX8_clear 11 = .ok (.iconst (-1), 1) := by decide +kernel
theorem dX8_clear_12 : decode cX8_clear 12 = .ok (.ireturn, 1) := by decide +kernel
theorem dX8_clear_13 : decode cX8_clear 13 = .ok (.aload_n 0, 1) := by decide +kernel
theorem dX8_clear_14 : decode cX8_clear 14 = .ok (.getfield 42, 3) := by decide +kernel
theorem dX8_clear_17 : decode cX8_clear 17 = .ok (.aload_n 0, 1) := by decide +kernel
theorem dX8_clear_18 : decode cX8_clear 18 = .ok (.getfield 25, 3) := by decide +kernel
theorem dX8_clear_21 : decode cX8_clear 21 = .ok (.invokevirtual 202, 3) := by decide +kernel
theorem dX8_clear_24 : decode cX8_clear 24 = .ok (.aload_n 0, 1) := by decide +kernel
theorem dX8_clear_25 : decode cX8_clear 25 = .ok (.getfield 42, 3) := by decide +kernel
theorem dX8_clear_28 : decode cX8_clear 28 = .ok (.getfield 153, 3) := by decide +kernel
theorem dX8_clear_31 : decode cX8_clear 31 = .ok (.iconst 0, 1) := by decide +kernel
theorem dX8_clear_32 : decode cX8_clear 32 = .ok (.invokestatic 215, 3) := by decide +kernel
theorem dX8_clear_35 : decode cX8_clear 35 = .ok (.aload_n 0, 1) := by decide +kernel
theorem dX8_clear_36 : decode cX8_clear 36 = .ok (.getfield 51, 3) := by decide +kernel
theorem dX8_clear_39 : decode cX8_clear 39 = .ok (.aload_n 0, 1) := by decide +kernel
theorem dX8_clear_40 : decode cX8_clear 40 = .ok (.getfield 35, 3) := by decide +kernel
theorem dX8_clear_43 : decode cX8_clear 43 = .ok (.aload_n 0, 1) := by decide +kernel
theorem dX8_clear_44 : decode cX8_clear 44 = .ok (.getfield 45, 3) := by decide +kernel
theorem dX8_clear_47 : decode cX8_clear 47 = .ok (.iload_n 1, 1) := by decide +kernel
theorem dX8_clear_48 : decode cX8_clear 48 = .ok (.invokevirtual 221, 3) := by decide +kernel
theorem dX8_clear_51 : decode cX8_clear 51 = .ok (.ireturn, 1) := by decide +kernel
theorem dX8_bar_0 : decode cX8_bar 0 = .ok (.iload_n 1, 1) := by decide +kernel
theorem dX8_bar_1 : decode cX8_bar 1 = .ok (.ifCond .lt 9, 3) := by decide +kernel
theorem dX8_bar_4 : decode cX8_bar 4 = .ok (.iload_n 1, 1) := by decide +kernel
theorem dX8_bar_5 : decode cX8_bar 5 = .ok (.bipush 6, 2) := by decide +kernel
theorem dX8_bar_7 : decode cX8_bar 7 = .ok (.if_icmp .le 6, 3) := by decide +kernel
theorem dX8_bar_10 : decode cX8_bar 10 = .ok (.bipush (-2), 2) := by decide +kernel
theorem dX8_bar_12 : decode cX8_bar 12 = .ok (.ireturn, 1) := by decide +kernel
theorem dX8_bar_13 : decode cX8_bar 13 = .ok (.aload_n 0, 1) := by decide +kernel
theorem dX8_bar_14 : decode cX8_bar 14 = .ok (.getfield 35, 3) := by decide +kernel
theorem dX8_bar_17 : decode cX8_bar 17 = .ok (.invokevirtual 225, 3) := by decide +kernel
theorem dX8_bar_20 : decode cX8_bar 20 = .ok (.iconst 0, 1) := by decide +kernel
theorem dX8_bar_21 : decode cX8_bar 21 = .ok (.istore_n 2, 1) := by decide +kernel
theorem dX8_bar_22 : decode cX8_bar 22 = .ok (.iload_n 2, 1) := by decide +kernel
theorem dX8_bar_23 : decode cX8_bar 23 = .ok (.bipush 60, 2) := by decide +kernel
theorem dX8_bar_25 : decode cX8_bar 25 = .ok (.if_icmp .gt 26, 3) := by decide +kernel
theorem dX8_bar_28 : decode cX8_bar 28 = .ok (.aload_n 0, 1) := by decide +kernel
theorem dX8_bar_29 : decode cX8_bar 29 = .ok (.getfield 35, 3) := by decide +kernel
theorem dX8_bar_32 : decode cX8_bar 32 = .ok (.iload_n 2, 1) := by decide +kernel
theorem dX8_bar_33 : decode cX8_bar 33 = .ok (.invokevirtual 228, 3) := by decide +kernel
theorem dX8_bar_36 : decode cX8_bar 36 = .ok (.invokestatic 231, 3) := by decide +kernel
theorem dX8_bar_39 : decode cX8_bar 39 = .ok (.iload_n 1, 1) := by decide +kernel
theorem dX8_bar_40 : decode cX8_bar 40 = .ok (.if_icmp .gt 5, 3) := by decide +kernel
theorem dX8_bar_43 : decode cX8_bar 43 = .ok (.iload_n 2, 1) := by decide +kernel
theorem dX8_bar_44 : decode cX8_bar 44 = .ok (.ireturn, 1) := by decide +kernel
theorem dX8_bar_45 : decode cX8_bar 45 = .ok (.iinc 2 1, 3) := by decide +kernel
theorem dX8_bar_48 : decode cX8_bar 48 = .ok (.goto (-26), 3) := by decide +kernel
theorem dX8_bar_51 : decode cX8_bar 51 = .ok (.bipush (-5), 2) := by decide +kernel
theorem dX8_bar_53 : decode cX8_bar 53 = .ok (.ireturn, 1) := by decide +kernel
theorem dX8_see_0 : decode cX8_see 0 = .ok (.iload_n 1, 1) := by decide +kernel
theorem dX8_see_1 : decode cX8_see 1 = .ok (.iconst (-1), 1) := by decide +kernel
theorem dX8_see_2 : decode cX8_see 2 = .ok (.if_icmp .ne 14, 3) := by decide +kernel
theorem dX8_see_5 : decode cX8_see 5 = .ok (.aload_n 0, 1) := by decide +kernel
theorem dX8_see_6 : decode cX8_see 6 = .ok (.getfield 12, 3) := by decide +kernel
theorem dX8_see_9 : decode cX8_see 9 = .ok (.getfield 236, 3) := by decide +kernel
theorem dX8_see_12 : decode cX8_see 12 = .ok (.invokevirtual 89, 3) := by decide +kernel
theorem dX8_see_15 : decode cX8_see 15 = .ok (.ireturn, 1) := by decide +kernel
theorem dX8_see_16 : decode cX8_see 16 = .ok (.iload_n 2, 1) := by decide +kernel
theorem dX8_see_17 : decode cX8_see 17 = .ok (.ifCond .lt 20, 3) := by decide +kernel
theorem dX8_see_20 : decode cX8_see 20 = .ok (.iload_n 2, 1) := by decide +kernel
theorem dX8_see_21 : decode cX8_see 21 = .ok (.bipush 12, 2) := by decide +kernel
theorem dX8_see_23 : decode cX8_see 23 = .ok (.if_icmp .gt 14, 3) := by decide +kernel
theorem dX8_see_26 : decode cX8_see 26 = .ok (.iload_n 3, 1) := by decide +kernel
theorem dX8_see_27 : decode cX8_see 27 = .ok (.invokestatic 105, 3) := by decide +kernel
theorem dX8_see_30 : decode cX8_see 30 = .ok (.ifCond .eq 7, 3) := by decide +kernel
theorem dX8_see_33 : decode cX8_see 33 = .ok (.iconst 1, 1) := by decide +kernel
theorem dX8_see_34 : decode cX8_see 34 = .ok (.goto 4, 3) := by decide +kernel
theorem dX8_see_37 : decode cX8_see 37 = .ok (.iconst 0, 1) := by decide +kernel
theorem dX8_see_38 : decode cX8_see 38 = .ok (.istore 4, 2) := by decide +kernel
theorem dX8_see_40 : decode cX8_see 40 = .ok (.aload_n 0, 1) := by decide +kernel
theorem dX8_see_41 : decode cX8_see 41 = .ok (.getfield 25, 3) := by decide +kernel
theorem dX8_see_44 : decode cX8_see 44 = .ok (.iload_n 1, 1) := by decide +kernel
theorem dX8_see_45 : decode cX8_see 45 = .ok (.invokevirtual 112, 3) := by decide +kernel
theorem dX8_see_48 : decode cX8_see 48 = .ok (.ifCond .eq 24, 3) := by decide +kernel
theorem dX8_see_51 : decode cX8_see 51 = .ok (.iload 4, 2) := by decide +kernel
theorem dX8_see_53 : decode cX8_see 53 = .ok (.ifCond .eq 19, 3) := by decide +kernel
theorem dX8_see_56 : decode cX8_see 56 = .ok (.aload_n 0, 1) := by decide +kernel
theorem dX8_see_57 : decode cX8_see 57 = .ok (.getfield 12, 3) := by decide +kernel
theorem dX8_see_60 : decode cX8_see 60 = .ok (.getfield 236, 3) := by decide +kernel
theorem dX8_see_63 : decode cX8_see 63 = .ok (.iload_n 1, 1) := by decide +kernel
theorem dX8_see_64 : decode cX8_see 64 = .ok (.iload_n 2, 1) := by decide +kernel
theorem dX8_see_65 : decode cX8_see 65 = .ok (.iload_n 3, 1) := by decide +kernel
theorem dX8_see_66 : decode cX8_see 66 = .ok (.invokevirtual 75, 3) := by decide +kernel
theorem dX8_see_69 : decode cX8_see 69 = .ok (.goto 4, 3) := by decide +kernel
theorem dX8_see_72 : decode cX8_see 72 = .ok (.iconst (-1), 1) := by decide +kernel
theorem dX8_see_73 : decode cX8_see 73 = .ok (.ireturn, 1) := by decide +kernel
theorem dX8_from_0 : decode cX8_from 0 = .ok (.aload_n 0, 1) := by decide +kernel
theorem dX8_from_1 : decode cX8_from 1 = .ok (.getfield 25, 3) := by decide +kernel
theorem dX8_from_4 : decode cX8_from 4 = .ok (.iload_n 1, 1) := by decide +kernel
theorem dX8_from_5 : decode cX8_from 5 = .ok (.invokevirtual 112, 3) := by decide +kernel
theorem dX8_from_8 : decode cX8_from 8 = .ok (.ifCond .ne 5, 3) := by decide +kernel
theorem dX8_from_11 : decode cX8_from 11 = .ok (.iconst (-1), 1) := by decide +kernel
theorem dX8_from_12 : decode cX8_from 12 = .ok (.ireturn, 1) := by decide +kernel
theorem dX8_from_13 : decode cX8_from 13 = .ok (.iconst 0, 1) := by decide +kernel
theorem dX8_from_14 : decode cX8_from 14 = .ok (.istore_n 2, 1) := by decide +kernel
theorem dX8_from_15 : decode cX8_from 15 = .ok (.iconst 0, 1) := by decide +kernel
theorem dX8_from_16 : decode cX8_from 16 = .ok (.istore_n 3, 1) := by decide +kernel
theorem dX8_from_17 : decode cX8_from 17 = .ok (.iload_n 3, 1) := by decide +kernel
theorem dX8_from_18 : decode cX8_from 18 = .ok (.bipush 9, 2) := by decide +kernel
theorem dX8_from_20 : decode cX8_from 20 = .ok (.if_icmp .ge 37, 3) := by decide +kernel
theorem dX8_from_23 : decode cX8_from 23 = .ok (.aload_n 0, 1) := by decide +kernel
theorem dX8_from_24 : decode cX8_from 24 = .ok (.getfield 35, 3) := by decide +kernel
theorem dX8_from_27 : decode cX8_from 27 = .ok (.iload_n 1, 1) := by decide +kernel
theorem dX8_from_28 : decode cX8_from 28 = .ok (.iload_n 3, 1) := by decide +kernel
theorem dX8_from_29 : decode cX8_from 29 = .ok (.invokevirtual 178, 3) := by decide +kernel
theorem dX8_from_32 : decode cX8_from 32 = .ok (.pop, 1) := by decide +kernel
theorem dX8_from_33 : decode cX8_from 33 = .ok (.aload_n 0, 1) := by decide +kernel
theorem dX8_from_34 : decode cX8_from 34 = .ok (.aload_n 0, 1) := by decide +kernel
theorem dX8_from_35 : decode cX8_from 35 = .ok (.getfield 35, 3) := by decide +kernel
theorem dX8_from_38 : decode cX8_from 38 = .ok (.iload_n 1, 1) := by decide +kernel
theorem dX8_from_39 : decode cX8_from 39 = .ok (.invokevirtual 239, 3) := by decide +kernel
theorem dX8_from_42 : decode cX8_from 42 = .ok (.ifCond .eq 9, 3) := by decide +kernel
theorem dX8_from_45 : decode cX8_from 45 = .ok (.iload_n 2, 1) := by decide +kernel
theorem dX8_from_46 : decode cX8_from 46 = .ok (.iconst 1, 1) := by decide +kernel
theorem dX8_from_47 : decode cX8_from 47 = .ok (.iload_n 3, 1) := by decide +kernel
theorem dX8_from_48 : decode cX8_from 48 = .ok (.ishl, 1) := by decide +kernel
theorem dX8_from_49 : decode cX8_from 49 = .ok (.ior, 1) := by decide +kernel
theorem dX8_from_50 : decode cX8_from 50 = .ok (.istore_n 2, 1) := by decide +kernel
theorem dX8_from_51 : decode cX8_from 51 = .ok (.iinc 3 1, 3) := by decide +kernel
theorem dX8_from_54 : decode cX8_from 54 = .ok (.goto (-37), 3) := by decide +kernel
theorem dX8_from_57 : decode cX8_from 57 = .ok (.iload_n 2, 1) := by decide +kernel
theorem dX8_from_58 : decode cX8_from 58 = .ok (.ireturn, 1) := by decide +kernel
theorem dX8_firm_0 : decode cX8_firm 0 = .ok (.aload_n 0, 1) := by decide +kernel
theorem dX8_firm_1 : decode cX8_firm 1 = .ok (.getfield 25, 3) := by decide +kernel
theorem dX8_firm_4 : decode cX8_firm 4 = .ok (.iload_n 1, 1) := by decide +kernel
theorem dX8_firm_5 : decode cX8_firm 5 = .ok (.invokevirtual 112, 3) := by decide +kernel
theorem dX8_firm_8 : decode cX8_firm 8 = .ok (.ifCond .eq 12, 3) := by decide +kernel
theorem dX8_firm_11 : decode cX8_firm 11 = .ok (.iload_n 2, 1) := by decide +kernel
theorem dX8_firm_12 : decode cX8_firm 12 = .ok (.ifCond .lt 8, 3) := by decide +kernel
theorem dX8_firm_15 : decode cX8_firm 15 = .ok (.iload_n 2, 1) := by decide +kernel
theorem dX8_firm_16 : decode cX8_firm 16 = .ok (.iconst 1, 1) := by decide +kernel
theorem dX8_firm_17 : decode cX8_firm 17 = .ok (.if_icmp .le 5, 3) := by decide +kernel
theorem dX8_firm_20 : decode cX8_firm 20 = .ok (.iconst (-1), 1) := by decide +kernel
theorem dX8_firm_21 : decode cX8_firm 21 = .ok (.ireturn, 1) := by decide +kernel
theorem dX8_firm_22 : decode cX8_firm 22 = .ok (.iconst 0, 1) := by decide +kernel
theorem dX8_firm_23 : decode cX8_firm 23 = .ok (.istore_n 3, 1) := by decide +kernel
theorem dX8_firm_24 : decode cX8_firm 24 = .ok (.bipush (-5), 2) := by decide +kernel
theorem dX8_firm_26 : decode cX8_firm 26 = .ok (.istore 4, 2) := by decide +kernel
theorem dX8_firm_28 : decode cX8_firm 28 = .ok (.aload_n 0, 1) := by decide +kernel
theorem dX8_firm_29 : decode cX8_firm 29 = .ok (.getfield 42, 3) := by decide +kernel
theorem dX8_firm_32 : decode cX8_firm 32 = .ok (.aload_n 0, 1) := by decide +kernel
theorem dX8_firm_33 : decode cX8_firm 33 = .ok (.getfield 25, 3) := by decide +kernel
theorem dX8_firm_36 : decode cX8_firm 36 = .ok (.invokevirtual 202, 3) := by decide +kernel
theorem dX8_firm_39 : decode cX8_firm 39 = .ok (.bipush 9, 2) := by decide +kernel
theorem dX8_firm_41 : decode cX8_firm 41 = .ok (.istore 5, 2) := by decide +kernel
theorem dX8_firm_43 : decode cX8_firm 43 = .ok (.iload 5, 2) := by decide +kernel
theorem dX8_firm_45 : decode cX8_firm 45 = .ok (.ifCond .lt 57, 3) := by decide +kernel
theorem dX8_firm_48 : decode cX8_firm 48 = .ok (.aload_n 0, 1) := by decide +kernel
theorem dX8_firm_49 : decode cX8_firm 49 = .ok (.getfield 42, 3) := by decide +kernel
theorem dX8_firm_52 : decode cX8_firm 52 = .ok (.getfield 120, 3) := by decide +kernel
theorem dX8_firm_55 : decode cX8_firm 55 = .ok (.iload_n 1, 1) := by decide +kernel
theorem dX8_firm_56 : decode cX8_firm 56 = .ok (.iload 5, 2) := by decide +kernel
theorem dX8_firm_58 : decode cX8_firm 58 = .ok (.iastore, 1) := by decide +kernel
theorem dX8_firm_59 : decode cX8_firm 59 = .ok (.aload_n 0, 1) := by decide +kernel
theorem dX8_firm_60 : decode cX8_firm 60 = .ok (.getfield 45, 3) := by decide +kernel
theorem dX8_firm_63 : decode cX8_firm 63 = .ok (.iload_n 1, 1) := by decide +kernel
theorem dX8_firm_64 : decode cX8_firm 64 = .ok (.aload_n 0, 1) := by decide +kernel
theorem dX8_firm_65 : decode cX8_firm 65 = .ok (.getfield 42, 3) := by decide +kernel
theorem dX8_firm_68 : decode cX8_firm 68 = .ok (.getfield 123, 3) := by decide +kernel
theorem dX8_firm_71 : decode cX8_firm 71 = .ok (.iload_n 1, 1) := by decide +kernel
theorem dX8_firm_72 : decode cX8_firm 72 = .ok (.iaload, 1) := by decide +kernel
theorem dX8_firm_73 : decode cX8_firm 73 = .ok (.invokevirtual 178, 3) := by decide +kernel
theorem dX8_firm_76 : decode cX8_firm 76 = .ok (.pop, 1) := by decide +kernel
theorem dX8_firm_77 : decode cX8_firm 77 = .ok (.aload_n 0, 1) := by decide +kernel
theorem dX8_firm_78 : decode cX8_firm 78 = .ok (.aload_n 0, 1) := by decide +kernel
theorem dX8_firm_79 : decode cX8_firm 79 = .ok (.getfield 45, 3) := by decide +kernel
theorem dX8_firm_82 : decode cX8_firm 82 = .ok (.iload_n 1, 1) := by decide +kernel
theorem dX8_firm_83 : decode cX8_firm 83 = .ok (.invokevirtual 239, 3) := by decide +kernel
theorem dX8_firm_86 : decode cX8_firm 86 = .ok (.ifCond .eq 10, 3) := by decide +kernel
theorem dX8_firm_89 : decode cX8_firm 89 = .ok (.iinc 3 1, 3) := by decide +kernel
theorem dX8_firm_92 : decode cX8_firm 92 = .ok (.iload 5, 2) := by decide +kernel
theorem dX8_firm_94 : decode cX8_firm 94 = .ok (.istore 4, 2) := by decide +kernel
theorem dX8_firm_96 : decode cX8_firm 96 = .ok (.iinc 5 (-1), 3) := by decide +kernel
theorem dX8_firm_99 : decode cX8_firm 99 = .ok (.goto (-56), 3) := by decide +kernel
theorem dX8_firm_102 : decode cX8_firm 102 = .ok (.iload_n 2, 1) := by decide +kernel
theorem dX8_firm_103 : decode cX8_firm 103 = .ok (.ifCond .ne 7, 3) := by decide +kernel
theorem dX8_firm_106 : decode cX8_firm 106 = .ok (.iload_n 3, 1) := by decide +kernel
theorem dX8_firm_107 : decode cX8_firm 107 = .ok (.goto 5, 3) := by decide +kernel
theorem dX8_firm_110 : decode cX8_firm 110 = .ok (.iload 4, 2) := by decide +kernel
theorem dX8_firm_112 : decode cX8_firm 112 = .ok (.ireturn, 1) := by decide +kernel
theorem dX8_odds_0 : decode cX8_odds 0 = .ok (.aload_n 0, 1) := by decide +kernel
theorem dX8_odds_1 : decode cX8_odds 1 = .ok (.getfield 25, 3) := by decide +kernel
theorem dX8_odds_4 : decode cX8_odds 4 = .ok (.iload_n 1, 1) := by decide +kernel
theorem dX8_odds_5 : decode cX8_odds 5 = .ok (.invokevirtual 112, 3) := by decide +kernel
theorem dX8_odds_8 : decode cX8_odds 8 = .ok (.ifCond .eq 17, 3) := by decide +kernel
theorem dX8_odds_11 : decode cX8_odds 11 = .ok (.iload_n 2, 1) := by decide +kernel
theorem dX8_odds_12 : decode cX8_odds 12 = .ok (.invokestatic 209, 3) := by decide +kernel
theorem dX8_odds_15 : decode cX8_odds 15 = .ok (.ifCond .eq 10, 3) := by decide +kernel
theorem dX8_odds_18 : decode cX8_odds 18 = .ok (.iload_n 3, 1) := by decide +kernel
theorem dX8_odds_19 : decode cX8_odds 19 = .ok (.invokestatic 243, 3) := by decide +kernel
theorem dX8_odds_22 : decode cX8_odds 22 = .ok (.ifCond .ne 7, 3) := by decide +kernel
theorem dX8_odds_25 : decode cX8_odds 25 = .ok (.ldc2_w 246, 3) := by decide +kernel
theorem dX8_odds_28 : decode cX8_odds 28 = .ok (.lreturn, 1) := by decide +kernel
theorem dX8_odds_29 : decode cX8_odds 29 = .ok (.iconst 0, 1) := by decide +kernel
theorem dX8_odds_30 : decode cX8_odds 30 = .ok (.istore 4, 2) := by decide +kernel
theorem dX8_odds_32 : decode cX8_odds 32 = .ok (.iconst 0, 1) := by decide +kernel
theorem dX8_odds_33 : decode cX8_odds 33 = .ok (.istore 5, 2) := by decide +kernel
theorem dX8_odds_35 : decode cX8_odds 35 = .ok (.iload 5, 2) := by decide +kernel
theorem dX8_odds_37 : decode cX8_odds 37 = .ok (.bipush 12, 2) := by decide +kernel
theorem dX8_odds_39 : decode cX8_odds 39 = .ok (.if_icmp .ge 33, 3) := by decide +kernel
theorem dX8_odds_42 : decode cX8_odds 42 = .ok (.aload_n 0, 1) := by decide +kernel
theorem dX8_odds_43 : decode cX8_odds 43 = .ok (.iload_n 1, 1) := by decide +kernel
theorem dX8_odds_44 : decode cX8_odds 44 = .ok (.iload 5, 2) := by decide +kernel
theorem dX8_odds_46 : decode cX8_odds 46 = .ok (.iload_n 2, 1) := by decide +kernel
theorem dX8_odds_47 : decode cX8_odds 47 = .ok (.invokevirtual 212, 3) := by decide +kernel
theorem dX8_odds_50 : decode cX8_odds 50 = .ok (.aload_n 0, 1) := by decide +kernel
theorem dX8_odds_51 : decode cX8_odds 51 = .ok (.getfield 12, 3) := by decide +kernel
theorem dX8_odds_54 : decode cX8_odds 54 = .ok (.getfield 28, 3) := by decide +kernel
theorem dX8_odds_57 : decode cX8_odds 57 = .ok (.getfield 168, 3) := by decide +kernel
theorem dX8_odds_60 : decode cX8_odds 60 = .ok (.if_icmp .lt 6, 3) := by decide +kernel
theorem dX8_odds_63 : decode cX8_odds 63 = .ok (.iinc 4 1, 3) := by decide +kernel
theorem dX8_odds_66 : decode cX8_odds 66 = .ok (.iinc 5 1, 3) := by decide +kernel
theorem dX8_odds_69 : decode cX8_odds 69 = .ok (.goto (-34), 3) := by decide +kernel
theorem dX8_odds_72 : decode cX8_odds 72 = .ok (.iload 4, 2) := by decide +kernel
theorem dX8_odds_74 : decode cX8_odds 74 = .ok (.bipush 12, 2) := by decide +kernel
theorem dX8_odds_76 : decode cX8_odds 76 = .ok (.iload_n 3, 1) := by decide +kernel
theorem dX8_odds_77 : decode cX8_odds 77 = .ok (.invokestatic 248, 3) := by decide +kernel
theorem dX8_odds_80 : decode cX8_odds 80 = .ok (.lreturn, 1) := by decide +kernel
theorem dX8_mean_0 : decode cX8_mean 0 = .ok (.iload_n 1, 1) := by decide +kernel
theorem dX8_mean_1 : decode cX8_mean 1 = .ok (.invokestatic 243, 3) := by decide +kernel
theorem dX8_mean_4 : decode cX8_mean 4 = .ok (.ifCond .ne 7, 3) := by decide +kernel
theorem dX8_mean_7 : decode cX8_mean 7 = .ok (.ldc2_w 246, 3) := by decide +kernel
theorem dX8_mean_10 : decode cX8_mean 10 = .ok (.lreturn, 1) := by decide +kernel
theorem dX8_mean_11 : decode cX8_mean 11 = .ok (.iconst 0, 1) := by decide +kernel
theorem dX8_mean_12 : decode cX8_mean 12 = .ok (.istore_n 2, 1) := by decide +kernel
theorem dX8_mean_13 : decode cX8_mean 13 = .ok (.iconst 0, 1) := by decide +kernel
theorem dX8_mean_14 : decode cX8_mean 14 = .ok (.istore_n 3, 1) := by decide +kernel
theorem dX8_mean_15 : decode cX8_mean 15 = .ok (.iconst 0, 1) := by decide +kernel
theorem dX8_mean_16 : decode cX8_mean 16 = .ok (.istore 4, 2) := by decide +kernel
theorem dX8_mean_18 : decode cX8_mean 18 = .ok (.iload 4, 2) := by decide +kernel
theorem dX8_mean_20 : decode cX8_mean 20 = .ok (.aload_n 0, 1) := by decide +kernel
theorem dX8_mean_21 : decode cX8_mean 21 = .ok (.getfield 25, 3) := by decide +kernel
theorem dX8_mean_24 : decode cX8_mean 24 = .ok (.getfield 199, 3) := by decide +kernel
theorem dX8_mean_27 : decode cX8_mean 27 = .ok (.if_icmp .ge 39, 3) := by decide +kernel
theorem dX8_mean_30 : decode cX8_mean 30 = .ok (.aload_n 0, 1) := by decide +kernel
theorem dX8_mean_31 : decode cX8_mean 31 = .ok (.getfield 25, 3) := by decide +kernel
theorem dX8_mean_34 : decode cX8_mean 34 = .ok (.getfield 126, 3) := by decide +kernel
theorem dX8_mean_37 : decode cX8_mean 37 = .ok (.iload 4, 2) := by decide +kernel
theorem dX8_mean_39 : decode cX8_mean 39 = .ok (.invokestatic 129, 3) := by decide +kernel
theorem dX8_mean_42 : decode cX8_mean 42 = .ok (.ifCond .ne 18, 3) := by decide +kernel
theorem dX8_mean_45 : decode cX8_mean 45 = .ok (.iinc 2 1, 3) := by decide +kernel
theorem dX8_mean_48 : decode cX8_mean 48 = .ok (.iload_n 3, 1) := by decide +kernel
theorem dX8_mean_49 : decode cX8_mean 49 = .ok (.aload_n 0, 1) := by decide +kernel
theorem dX8_mean_50 : decode cX8_mean 50 = .ok (.getfield 35, 3) := by decide +kernel
theorem dX8_mean_53 : decode cX8_mean 53 = .ok (.iload 4, 2) := by decide +kernel
theorem dX8_mean_55 : decode cX8_mean 55 = .ok (.invokevirtual 139, 3) := by decide +kernel
theorem dX8_mean_58 : decode cX8_mean 58 = .ok (.iadd, 1) := by decide +kernel
theorem dX8_mean_59 : decode cX8_mean 59 = .ok (.istore_n 3, 1) := by decide +kernel
theorem dX8_mean_60 : decode cX8_mean 60 = .ok (.iinc 4 1, 3) := by decide +kernel
theorem dX8_mean_63 : decode cX8_mean 63 = .ok (.goto (-45), 3) := by decide +kernel
theorem dX8_mean_66 : decode cX8_mean 66 = .ok (.iload_n 2, 1) := by decide +kernel
theorem dX8_mean_67 : decode cX8_mean 67 = .ok (.ifCond .ne 9, 3) := by decide +kernel
theorem dX8_mean_70 : decode cX8_mean 70 = .ok (.ldc2_w 246, 3) := by decide +kernel
theorem dX8_mean_73 : decode cX8_mean 73 = .ok (.goto 9, 3) := by decide +kernel
theorem dX8_mean_76 : decode cX8_mean 76 = .ok (.iload_n 3, 1) := by decide +kernel
theorem dX8_mean_77 : decode cX8_mean 77 = .ok (.iload_n 2, 1) := by decide +kernel
theorem dX8_mean_78 : decode cX8_mean 78 = .ok (.iload_n 1, 1) := by decide +kernel
theorem dX8_mean_79 : decode cX8_mean 79 = .ok (.invokestatic 248, 3) := by decide +kernel
theorem dX8_mean_82 : decode cX8_mean 82 = .ok (.lreturn, 1) := by decide +kernel
theorem dX8_plan_0 : decode cX8_plan 0 = .ok (.iload_n 1, 1) := by decide +kernel
theorem dX8_plan_1 : decode cX8_plan 1 = .ok (.iconst (-1), 1) := by decide +kernel
theorem dX8_plan_2 : decode cX8_plan 2 = .ok (.if_icmp .ne 14, 3) := by decide +kernel
theorem dX8_plan_5 : decode cX8_plan 5 = .ok (.aload_n 0, 1) := by decide +kernel
theorem dX8_plan_6 : decode cX8_plan 6 = .ok (.getfield 12, 3) := by decide +kernel
theorem dX8_plan_9 : decode cX8_plan 9 = .ok (.getfield 252, 3) := by decide +kernel
theorem dX8_plan_12 : decode cX8_plan 12 = .ok (.invokevirtual 89, 3) := by decide +kernel
theorem dX8_plan_15 : decode cX8_plan 15 = .ok (.ireturn, 1) := by decide +kernel
theorem dX8_plan_16 : decode cX8_plan 16 = .ok (.iload_n 1, 1) := by decide +kernel
theorem dX8_plan_17 : decode cX8_plan 17 = .ok (.ifCond .eq 36, 3) := by decide +kernel
theorem dX8_plan_20 : decode cX8_plan 20 = .ok (.iload_n 1, 1) := by decide +kernel
theorem dX8_plan_21 : decode cX8_plan 21 = .ok (.iconst 1, 1) := by decide +kernel
theorem dX8_plan_22 : decode cX8_plan 22 = .ok (.if_icmp .eq 8, 3) := by decide +kernel
theorem dX8_plan_25 : decode cX8_plan 25 = .ok (.iload_n 1, 1) := by decide +kernel
theorem dX8_plan_26 : decode cX8_plan 26 = .ok (.iconst 2, 1) := by decide +kernel
theorem dX8_plan_27 : decode cX8_plan 27 = .ok (.if_icmp .ne 14, 3) := by decide +kernel
theorem dX8_plan_30 : decode cX8_plan 30 = .ok (.aload_n 0, 1) := by decide +kernel
theorem dX8_plan_31 : decode cX8_plan 31 = .ok (.getfield 25, 3) := by decide +kernel
theorem dX8_plan_34 : decode cX8_plan 34 = .ok (.iload_n 2, 1) := by decide +kernel
theorem dX8_plan_35 : decode cX8_plan 35 = .ok (.invokevirtual 112, 3) := by decide +kernel
theorem dX8_plan_38 : decode cX8_plan 38 = .ok (.ifCond .ne 15, 3) := by decide +kernel
theorem dX8_plan_41 : decode cX8_plan 41 = .ok (.iload_n 1, 1) := by decide +kernel
theorem dX8_plan_42 : decode cX8_plan 42 = .ok (.iconst 3, 1) := by decide +kernel
theorem dX8_plan_43 : decode cX8_plan 43 = .ok (.if_icmp .ne 14, 3) := by decide +kernel
theorem dX8_plan_46 : decode cX8_plan 46 = .ok (.iload_n 2, 1) := by decide +kernel
theorem dX8_plan_47 : decode cX8_plan 47 = .ok (.invokestatic 150, 3) := by decide +kernel
theorem dX8_plan_50 : decode cX8_plan 50 = .ok (.ifCond .eq 7, 3) := by decide +kernel
theorem dX8_plan_53 : decode cX8_plan 53 = .ok (.iconst 1, 1) := by decide +kernel
theorem dX8_plan_54 : decode cX8_plan 54 = .ok (.goto 4, 3) := by decide +kernel
theorem dX8_plan_57 : decode cX8_plan 57 = .ok (.iconst 0, 1) := by decide +kernel
theorem dX8_plan_58 : decode cX8_plan 58 = .ok (.istore_n 3, 1) := by decide +kernel
theorem dX8_plan_59 : decode cX8_plan 59 = .ok (.iload_n 3, 1) := by decide +kernel
theorem dX8_plan_60 : decode cX8_plan 60 = .ok (.ifCond .eq 19, 3) := by decide +kernel
theorem dX8_plan_63 : decode cX8_plan 63 = .ok (.aload_n 0, 1) := by decide +kernel
theorem dX8_plan_64 : decode cX8_plan 64 = .ok (.getfield 12, 3) := by decide +kernel
theorem dX8_plan_67 : decode cX8_plan 67 = .ok (.getfield 252, 3) := by decide +kernel
theorem dX8_plan_70 : decode cX8_plan 70 = .ok (.iload_n 1, 1) := by decide +kernel
theorem dX8_plan_71 : decode cX8_plan 71 = .ok (.iload_n 2, 1) := by decide +kernel
theorem dX8_plan_72 : decode cX8_plan 72 = .ok (.iconst 0, 1) := by decide +kernel
theorem dX8_plan_73 : decode cX8_plan 73 = .ok (.invokevirtual 75, 3) := by decide +kernel
theorem dX8_plan_76 : decode cX8_plan 76 = .ok (.goto 4, 3) := by decide +kernel
theorem dX8_plan_79 : decode cX8_plan 79 = .ok (.iconst (-1), 1) := by decide +kernel
theorem dX8_plan_80 : decode cX8_plan 80 = .ok (.ireturn, 1) := by decide +kernel
theorem dX8_done_0 : decode cX8_done 0 = .ok (.iload_n 1, 1) := by decide +kernel
theorem dX8_done_1 : decode cX8_done 1 = .ok (.ifCond .lt 8, 3) := by decide +kernel
theorem dX8_done_4 : decode cX8_done 4 = .ok (.iload_n 1, 1) := by decide +kernel
theorem dX8_done_5 : decode cX8_done 5 = .ok (.iconst 1, 1) := by decide +kernel
theorem dX8_done_6 : decode cX8_done 6 = .ok (.if_icmp .le 5, 3) := by decide +kernel
theorem dX8_done_9 : decode cX8_done 9 = .ok (.iconst (-1), 1) := by decide +kernel
theorem dX8_done_10 : decode cX8_done 10 = .ok (.ireturn, 1) := by decide +kernel
theorem dX8_done_11 : decode cX8_done 11 = .ok (.aload_n 0, 1) := by decide +kernel
theorem dX8_done_12 : decode cX8_done 12 = .ok (.getfield 42, 3) := by decide +kernel
theorem dX8_done_15 : decode cX8_done 15 = .ok (.aload_n 0, 1) := by decide +kernel
theorem dX8_done_16 : decode cX8_done 16 = .ok (.getfield 25, 3) := by decide +kernel
theorem dX8_done_19 : decode cX8_done 19 = .ok (.invokevirtual 202, 3) := by decide +kernel
theorem dX8_done_22 : decode cX8_done 22 = .ok (.iconst 0, 1) := by decide +kernel
theorem dX8_done_23 : decode cX8_done 23 = .ok (.istore_n 2, 1) := by decide +kernel
theorem dX8_done_24 : decode cX8_done 24 = .ok (.iload_n 2, 1) := by decide +kernel
theorem dX8_done_25 : decode cX8_done 25 = .ok (.aload_n 0, 1) := by decide +kernel
theorem dX8_done_26 : decode cX8_done 26 = .ok (.getfield 12, 3) := by decide +kernel
theorem dX8_done_29 : decode cX8_done 29 = .ok (.getfield 252, 3) := by decide +kernel
theorem dX8_done_32 : decode cX8_done 32 = .ok (.getfield 159, 3) := by decide +kernel
theorem dX8_done_35 : decode cX8_done 35 = .ok (.if_icmp .ge 99, 3) := by decide +kernel
theorem dX8_done_38 : decode cX8_done 38 = .ok (.aload_n 0, 1) := by decide +kernel
theorem dX8_done_39 : decode cX8_done 39 = .ok (.getfield 12, 3) := by decide +kernel
theorem dX8_done_42 : decode cX8_done 42 = .ok (.getfield 252, 3) := by decide +kernel
theorem dX8_done_45 : decode cX8_done 45 = .ok (.iload_n 2, 1) := by decide +kernel
theorem dX8_done_46 : decode cX8_done 46 = .ok (.iconst 0, 1) := by decide +kernel
theorem dX8_done_47 : decode cX8_done 47 = .ok (.invokevirtual 206, 3) := by decide +kernel
theorem dX8_done_50 : decode cX8_done 50 = .ok (.istore_n 3, 1) := by decide +kernel
theorem dX8_done_51 : decode cX8_done 51 = .ok (.aload_n 0, 1) := by decide +kernel
theorem dX8_done_52 : decode cX8_done 52 = .ok (.getfield 12, 3) := by decide +kernel
theorem dX8_done_55 : decode cX8_done 55 = .ok (.getfield 252, 3) := by decide +kernel
theorem dX8_done_58 : decode cX8_done 58 = .ok (.iload_n 2, 1) := by decide +kernel
theorem dX8_done_59 : decode cX8_done 59 = .ok (.iconst 1, 1) := by decide +kernel
theorem dX8_done_60 : decode cX8_done 60 = .ok (.invokevirtual 206, 3) := by decide +kernel
theorem dX8_done_63 : decode cX8_done 63 = .ok (.istore 4, 2) := by decide +kernel
theorem dX8_done_65 : decode cX8_done 65 = .ok (.iload_n 3, 1) := by decide +kernel
theorem dX8_done_66 : decode cX8_done 66 = .ok (.ifCond .ne 16, 3) := by decide +kernel
theorem dX8_done_69 : decode cX8_done 69 = .ok (.aload_n 0, 1) := by decide +kernel
theorem dX8_done_70 : decode cX8_done 70 = .ok (.getfield 45, 3) := by decide +kernel
theorem dX8_done_73 : decode cX8_done 73 = .ok (.iconst 1, 1) := by decide +kernel
theorem dX8_done_74 : decode cX8_done 74 = .ok (.ldc 205, 2) := by decide +kernel
theorem dX8_done_76 : decode cX8_done 76 = .ok (.invokevirtual 174, 3) := by decide +kernel
theorem dX8_done_79 : decode cX8_done 79 = .ok (.goto 49, 3) := by decide +kernel
theorem dX8_done_82 : decode cX8_done 82 = .ok (.iload_n 3, 1) := by decide +kernel
theorem dX8_done_83 : decode cX8_done 83 = .ok (.iconst 3, 1) := by decide +kernel
theorem dX8_done_84 : decode cX8_done 84 = .ok (.if_icmp .ne 25, 3) := by decide +kernel
theorem dX8_done_87 : decode cX8_done 87 = .ok (.iload 4, 2) := by decide +kernel
theorem dX8_done_89 : decode cX8_done 89 = .ok (.invokestatic 150, 3) := by decide +kernel
theorem dX8_done_92 : decode cX8_done 92 = .ok (.ifCond .eq 17, 3) := by decide +kernel
theorem dX8_done_95 : decode cX8_done 95 = .ok (.aload_n 0, 1) := by decide +kernel
theorem dX8_done_96 : decode cX8_done 96 = .ok (.getfield 42, 3) := by decide +kernel
theorem dX8_done_99 : decode cX8_done 99 = .ok (.getfield 153, 3) := by decide +kernel
theorem dX8_done_102 : decode cX8_done 102 = .ok (.iload 4, 2) := by decide +kernel
theorem dX8_done_104 : decode cX8_done 104 = .ok (.iconst 0, 1) := by decide +kernel
theorem dX8_done_105 : decode cX8_done 105 = .ok (.iastore, 1) := by decide +kernel
theorem dX8_done_106 : decode cX8_done 106 = .ok (.goto 22, 3) := by decide +kernel
theorem dX8_done_109 : decode cX8_done 109 = .ok (.aload_n 0, 1) := by decide +kernel
theorem dX8_done_110 : decode cX8_done 110 = .ok (.getfield 42, 3) := by decide +kernel
theorem dX8_done_113 : decode cX8_done 113 = .ok (.iload 4, 2) := by decide +kernel
theorem dX8_done_115 : decode cX8_done 115 = .ok (.iload_n 3, 1) := by decide +kernel
theorem dX8_done_116 : decode cX8_done 116 = .ok (.iconst 1, 1) := by decide +kernel
theorem dX8_done_117 : decode cX8_done 117 = .ok (.if_icmp .ne 7, 3) := by decide +kernel
theorem dX8_done_120 : decode cX8_done 120 = .ok (.iconst 1, 1) := by decide +kernel
theorem dX8_done_121 : decode cX8_done 121 = .ok (.goto 4, 3) := by decide +kernel
theorem dX8_done_124 : decode cX8_done 124 = .ok (.iconst 0, 1) := by decide +kernel
theorem dX8_done_125 : decode cX8_done 125 = .ok (.invokevirtual 146, 3) := by decide +kernel
theorem dX8_done_128 : decode cX8_done 128 = .ok (.iinc 2 1, 3) := by decide +kernel
theorem dX8_done_131 : decode cX8_done 131 = .ok (.goto (-107), 3) := by decide +kernel
theorem dX8_done_134 : decode cX8_done 134 = .ok (.iload_n 1, 1) := by decide +kernel
theorem dX8_done_135 : decode cX8_done 135 = .ok (.ifCond .ne 13, 3) := by decide +kernel
theorem dX8_done_138 : decode cX8_done 138 = .ok (.aload_n 0, 1) := by decide +kernel
theorem dX8_done_139 : decode cX8_done 139 = .ok (.getfield 42, 3) := by decide +kernel
theorem dX8_done_142 : decode cX8_done 142 = .ok (.getfield 136, 3) := by decide +kernel
theorem dX8_done_145 : decode cX8_done 145 = .ok (.goto 10, 3) := by decide +kernel
theorem dX8_done_148 : decode cX8_done 148 = .ok (.aload_n 0, 1) := by decide +kernel
theorem dX8_done_149 : decode cX8_done 149 = .ok (.getfield 42, 3) := by decide +kernel
theorem dX8_done_152 : decode cX8_done 152 = .ok (.invokevirtual 255, 3) := by decide +kernel
theorem dX8_done_155 : decode cX8_done 155 = .ok (.ireturn, 1) := by decide +kernel
theorem dX8_book_0 : decode cX8_book 0 = .ok (.iload_n 1, 1) := by decide +kernel
theorem dX8_book_1 : decode cX8_book 1 = .ok (.iconst (-1), 1) := by decide +kernel
theorem dX8_book_2 : decode cX8_book 2 = .ok (.if_icmp .ne 14, 3) := by decide +kernel
theorem dX8_book_5 : decode cX8_book 5 = .ok (.aload_n 0, 1) := by decide +kernel
theorem dX8_book_6 : decode cX8_book 6 = .ok (.getfield 12, 3) := by decide +kernel
theorem dX8_book_9 : decode cX8_book 9 = .ok (.getfield 258, 3) := by decide +kernel
theorem dX8_book_12 : decode cX8_book 12 = .ok (.invokevirtual 89, 3) := by decide +kernel
theorem dX8_book_15 : decode cX8_book 15 = .ok (.ireturn, 1) := by decide +kernel
theorem dX8_book_16 : decode cX8_book 16 = .ok (.aload_n 0, 1) := by decide +kernel
theorem dX8_book_17 : decode cX8_book 17 = .ok (.getfield 25, 3) := by decide +kernel
theorem dX8_book_20 : decode cX8_book 20 = .ok (.iload_n 1, 1) := by decide +kernel
theorem dX8_book_21 : decode cX8_book 21 = .ok (.invokevirtual 112, 3) := by decide +kernel
theorem dX8_book_24 : decode cX8_book 24 = .ok (.ifCond .eq 26, 3) := by decide +kernel
theorem dX8_book_27 : decode cX8_book 27 = .ok (.iload_n 2, 1) := by decide +kernel
theorem dX8_book_28 : decode cX8_book 28 = .ok (.invokestatic 105, 3) := by decide +kernel
theorem dX8_book_31 : decode cX8_book 31 = .ok (.ifCond .eq 19, 3) := by decide +kernel
theorem dX8_book_34 : decode cX8_book 34 = .ok (.aload_n 0, 1) := by decide +kernel
theorem dX8_book_35 : decode cX8_book 35 = .ok (.getfield 12, 3) := by decide +kernel
theorem dX8_book_38 : decode cX8_book 38 = .ok (.getfield 258, 3) := by decide +kernel
theorem dX8_book_41 : decode cX8_book 41 = .ok (.iload_n 1, 1) := by decide +kernel
theorem dX8_book_42 : decode cX8_book 42 = .ok (.iload_n 2, 1) := by decide +kernel
theorem dX8_book_43 : decode cX8_book 43 = .ok (.iconst 0, 1) := by decide +kernel
theorem dX8_book_44 : decode cX8_book 44 = .ok (.invokevirtual 75, 3) := by decide +kernel
theorem dX8_book_47 : decode cX8_book 47 = .ok (.goto 4, 3) := by decide +kernel
theorem dX8_book_50 : decode cX8_book 50 = .ok (.iconst (-1), 1) := by decide +kernel
theorem dX8_book_51 : decode cX8_book 51 = .ok (.ireturn, 1) := by decide +kernel
theorem dX8_looked_0 : decode cX8_looked 0 = .ok (.iconst 0, 1) := by decide +kernel
theorem dX8_looked_1 : decode cX8_looked 1 = .ok (.istore_n 1, 1) := by decide +kernel
theorem dX8_looked_2 : decode cX8_looked 2 = .ok (.iload_n 1, 1) := by decide +kernel
theorem dX8_looked_3 : decode cX8_looked 3 = .ok (.aload_n 0, 1) := by decide +kernel
theorem dX8_looked_4 : decode cX8_looked 4 = .ok (.getfield 12, 3) := by decide +kernel
theorem dX8_looked_7 : decode cX8_looked 7 = .ok (.getfield 258, 3) := by decide +kernel
theorem dX8_looked_10 : decode cX8_looked 10 = .ok (.getfield 159, 3) := by decide +kernel
theorem dX8_looked_13 : decode cX8_looked 13 = .ok (.if_icmp .ge 59, 3) := by decide +kernel
theorem dX8_looked_16 : decode cX8_looked 16 = .ok (.aload_n 0, 1) := by decide +kernel
theorem dX8_looked_17 : decode cX8_looked 17 = .ok (.getfield 12, 3) := by decide +kernel
theorem dX8_looked_20 : decode cX8_looked 20 = .ok (.getfield 258, 3) := by decide +kernel
theorem dX8_looked_23 : decode cX8_looked 23 = .ok (.iload_n 1, 1) := by decide +kernel
theorem dX8_looked_24 : decode cX8_looked 24 = .ok (.iconst 0, 1) := by decide +kernel
theorem dX8_looked_25 : decode cX8_looked 25 = .ok (.invokevirtual 206, 3) := by decide +kernel
theorem dX8_looked_28 : decode cX8_looked 28 = .ok (.istore_n 2, 1) := by decide +kernel
theorem dX8_looked_29 : decode cX8_looked 29 = .ok (.aload_n 0, 1) := by decide +kernel
theorem dX8_looked_30 : decode cX8_looked 30 = .ok (.getfield 25, 3) := by decide +kernel
theorem dX8_looked_33 : decode cX8_looked 33 = .ok (.iload_n 2, 1) := by decide +kernel
theorem dX8_looked_34 : decode cX8_looked 34 = .ok (.invokevirtual 112, 3) := by decide +kernel
theorem dX8_looked_37 : decode cX8_looked 37 = .ok (.ifCond .eq 29, 3) := by decide +kernel
theorem dX8_looked_40 : decode cX8_looked 40 = .ok (.aload_n 0, 1) := by decide +kernel
theorem dX8_looked_41 : decode cX8_looked 41 = .ok (.getfield 25, 3) := by decide +kernel
theorem dX8_looked_44 : decode cX8_looked 44 = .ok (.getfield 123, 3) := by decide +kernel
theorem dX8_looked_47 : decode cX8_looked 47 = .ok (.iload_n 2, 1) := by decide +kernel
theorem dX8_looked_48 : decode cX8_looked 48 = .ok (.iaload, 1) := by decide +kernel
theorem dX8_looked_49 : decode cX8_looked 49 = .ok (.aload_n 0, 1) := by decide +kernel
theorem dX8_looked_50 : decode cX8_looked 50 = .ok (.getfield 12, 3) := by decide +kernel
theorem dX8_looked_53 : decode cX8_looked 53 = .ok (.getfield 258, 3) := by decide +kernel
theorem dX8_looked_56 : decode cX8_looked 56 = .ok (.iload_n 1, 1) := by decide +kernel
theorem dX8_looked_57 : decode cX8_looked 57 = .ok (.iconst 1, 1) := by decide +kernel
theorem dX8_looked_58 : decode cX8_looked 58 = .ok (.invokevirtual 206, 3) := by decide +kernel
theorem dX8_looked_61 : decode cX8_looked 61 = .ok (.if_icmp .eq 5, 3) := by decide +kernel
theorem dX8_looked_64 : decode cX8_looked 64 = .ok (.iload_n 1, 1) := by decide +kernel
theorem dX8_looked_65 : decode cX8_looked 65 = .ok (.ireturn, 1) := by decide +kernel
theorem dX8_looked_66 : decode cX8_looked 66 = .ok (.iinc 1 1, 3) := by decide +kernel
theorem dX8_looked_69 : decode cX8_looked 69 = .ok (.goto (-67), 3) := by decide +kernel
theorem dX8_looked_72 : decode cX8_looked 72 = .ok (.bipush (-5), 2) := by decide +kernel
theorem dX8_looked_74 : decode cX8_looked 74 = .ok (.ireturn, 1) := by decide +kernel
theorem dX8_act_0 : decode cX8_act 0 = .ok (.aload_n 0, 1) := by decide +kernel
theorem dX8_act_1 : decode cX8_act 1 = .ok (.getfield 25, 3) := by decide +kernel
theorem dX8_act_4 : decode cX8_act 4 = .ok (.iload_n 1, 1) := by decide +kernel
theorem dX8_act_5 : decode cX8_act 5 = .ok (.invokevirtual 112, 3) := by decide +kernel
theorem dX8_act_8 : decode cX8_act 8 = .ok (.ifCond .ne 12, 3) := by decide +kernel
theorem dX8_act_11 : decode cX8_act 11 = .ok (.aload_n 0, 1) := by decide +kernel
theorem dX8_act_12 : decode cX8_act 12 = .ok (.getfield 71, 3) := by decide +kernel
theorem dX8_act_15 : decode cX8_act 15 = .ok (.invokevirtual 261, 3) := by decide +kernel
theorem dX8_act_18 : decode cX8_act 18 = .ok (.iconst 0, 1) := by decide +kernel
theorem dX8_act_19 : decode cX8_act 19 = .ok (.ireturn, 1) := by decide +kernel
theorem dX8_act_20 : decode cX8_act 20 = .ok (.aload_n 0, 1) := by decide +kernel
theorem dX8_act_21 : decode cX8_act 21 = .ok (.getfield 71, 3) := by decide +kernel
theorem dX8_act_24 : decode cX8_act 24 = .ok (.aload_n 0, 1) := by decide +kernel
theorem dX8_act_25 : decode cX8_act 25 = .ok (.getfield 25, 3) := by decide +kernel
theorem dX8_act_28 : decode cX8_act 28 = .ok (.iload_n 1, 1) := by decide +kernel
theorem dX8_act_29 : decode cX8_act 29 = .ok (.iload_n 2, 1) := by decide +kernel
theorem dX8_act_30 : decode cX8_act 30 = .ok (.iload_n 3, 1) := by decide +kernel
theorem dX8_act_31 : decode cX8_act 31 = .ok (.invokevirtual 264, 3) := by decide +kernel
theorem dX8_act_34 : decode cX8_act 34 = .ok (.ireturn, 1) := by decide +kernel
theorem dX8_trace_0 : decode cX8_trace 0 = .ok (.aload_n 0, 1) := by decide +kernel
theorem dX8_trace_1 : decode cX8_trace 1 = .ok (.getfield 71, 3) := by decide +kernel
theorem dX8_trace_4 : decode cX8_trace 4 = .ok (.iload_n 1, 1) := by decide +kernel
theorem dX8_trace_5 : decode cX8_trace 5 = .ok (.invokevirtual 268, 3) := by decide +kernel
theorem dX8_trace_8 : decode cX8_trace 8 = .ok (.ireturn, 1) := by decide +kernel
theorem dX8_as_0 : decode cX8_as 0 = .ok (.aload_n 0, 1) := by decide +kernel
theorem dX8_as_1 : decode cX8_as 1 = .ok (.getfield 25, 3) := by decide +kernel
theorem dX8_as_4 : decode cX8_as 4 = .ok (.iload_n 1, 1) := by decide +kernel
theorem dX8_as_5 : decode cX8_as 5 = .ok (.invokevirtual 112, 3) := by decide +kernel
theorem dX8_as_8 : decode cX8_as 8 = .ok (.ifCond .eq 10, 3) := by decide +kernel
theorem dX8_as_11 : decode cX8_as 11 = .ok (.iload_n 2, 1) := by decide +kernel
theorem dX8_as_12 : decode cX8_as 12 = .ok (.invokestatic 101, 3) := by decide +kernel
theorem dX8_as_15 : decode cX8_as 15 = .ok (.ifCond .ne 5, 3) := by decide +kernel
theorem dX8_as_18 : decode cX8_as 18 = .ok (.iconst (-1), 1) := by decide +kernel
theorem dX8_as_19 : decode cX8_as 19 = .ok (.ireturn, 1) := by decide +kernel
theorem dX8_as_20 : decode cX8_as 20 = .ok (.aload_n 0, 1) := by decide +kernel
theorem dX8_as_21 : decode cX8_as 21 = .ok (.getfield 25, 3) := by decide +kernel
theorem dX8_as_24 : decode cX8_as 24 = .ok (.getfield 116, 3) := by decide +kernel
theorem dX8_as_27 : decode cX8_as 27 = .ok (.iload_n 1, 1) := by decide +kernel
theorem dX8_as_28 : decode cX8_as 28 = .ok (.iaload, 1) := by decide +kernel
theorem dX8_as_29 : decode cX8_as 29 = .ok (.iload_n 2, 1) := by decide +kernel
theorem dX8_as_30 : decode cX8_as 30 = .ok (.invokestatic 271, 3) := by decide +kernel
theorem dX8_as_33 : decode cX8_as 33 = .ok (.ifCond .eq 15, 3) := by decide +kernel
theorem dX8_as_36 : decode cX8_as 36 = .ok (.aload_n 0, 1) := by decide +kernel
theorem dX8_as_37 : decode cX8_as 37 = .ok (.getfield 25, 3) := by decide +kernel
theorem dX8_as_40 : decode cX8_as 40 = .ok (.getfield 120, 3) := by decide +kernel
theorem dX8_as_43 : decode cX8_as 43 = .ok (.iload_n 1, 1) := by decide +kernel
theorem dX8_as_44 : decode cX8_as 44 = .ok (.iaload, 1) := by decide +kernel
theorem dX8_as_45 : decode cX8_as 45 = .ok (.goto 5, 3) := by decide +kernel
theorem dX8_as_48 : decode cX8_as 48 = .ok (.bipush (-6), 2) := by decide +kernel
theorem dX8_as_50 : decode cX8_as 50 = .ok (.ireturn, 1) := by decide +kernel
theorem dX8_image_0 : decode cX8_image 0 = .ok (.aload_n 0, 1) := by decide +kernel
theorem dX8_image_1 : decode cX8_image 1 = .ok (.getfield 18, 3) := by decide +kernel
theorem dX8_image_4 : decode cX8_image 4 = .ok (.aload_n 0, 1) := by decide +kernel
theorem dX8_image_5 : decode cX8_image 5 = .ok (.getfield 12, 3) := by decide +kernel
theorem dX8_image_8 : decode cX8_image 8 = .ok (.invokevirtual 275, 3) := by decide +kernel
theorem dX8_image_11 : decode cX8_image 11 = .ok (.aload_n 0, 1) := by decide +kernel
theorem dX8_image_12 : decode cX8_image 12 = .ok (.iconst 1, 1) := by decide +kernel
theorem dX8_image_13 : decode cX8_image 13 = .ok (.putfield 278, 3) := by decide +kernel
theorem dX8_image_16 : decode cX8_image 16 = .ok (.aload_n 0, 1) := by decide +kernel
theorem dX8_image_17 : decode cX8_image 17 = .ok (.getfield 25, 3) := by decide +kernel
theorem dX8_image_20 : decode cX8_image 20 = .ok (.getfield 199, 3) := by decide +kernel
theorem dX8_image_23 : decode cX8_image 23 = .ok (.ireturn, 1) := by decide +kernel
theorem dX8_undo_0 : decode cX8_undo 0 = .ok (.aload_n 0, 1) := by decide +kernel
theorem dX8_undo_1 : decode cX8_undo 1 = .ok (.getfield 278, 3) := by decide +kernel
theorem dX8_undo_4 : decode cX8_undo 4 = .ok (.ifCond .ne 6, 3) := by decide +kernel
theorem dX8_undo_7 : decode cX8_undo 7 = .ok (.bipush (-3), 2) := by decide +kernel
theorem dX8_undo_9 : decode cX8_undo 9 = .ok (.ireturn, 1) := by decide +kernel
theorem dX8_undo_10 : decode cX8_undo 10 = .ok (.aload_n 0, 1) := by decide +kernel
theorem dX8_undo_11 : decode cX8_undo 11 = .ok (.getfield 12, 3) := by decide +kernel
theorem dX8_undo_14 : decode cX8_undo 14 = .ok (.aload_n 0, 1) := by decide +kernel
theorem dX8_undo_15 : decode cX8_undo 15 = .ok (.getfield 18, 3) := by decide +kernel
theorem dX8_undo_18 : decode cX8_undo 18 = .ok (.invokevirtual 275, 3) := by decide +kernel
theorem dX8_undo_21 : decode cX8_undo 21 = .ok (.aload_n 0, 1) := by decide +kernel
theorem dX8_undo_22 : decode cX8_undo 22 = .ok (.getfield 25, 3) := by decide +kernel
theorem dX8_undo_25 : decode cX8_undo 25 = .ok (.getfield 199, 3) := by decide +kernel
theorem dX8_undo_28 : decode cX8_undo 28 = .ok (.ireturn, 1) := by decide +kernel
theorem dX8_count_0 : decode cX8_count 0 = .ok (.iload_n 1, 1) := by decide +kernel
theorem dX8_count_1 : decode cX8_count 1 = .ok (.tableswitch 126 0 7 #[47, 55, 63, 74, 85, 96, 107, 118], 47) := by decide +kernel
theorem dX8_count_48 : decode cX8_count 48 = .ok (.aload_n 0, 1) := by decide +kernel
theorem dX8_count_49 : decode cX8_count 49 = .ok (.getfield 25, 3) := by decide +kernel
theorem dX8_count_52 : decode cX8_count 52 = .ok (.getfield 199, 3) := by decide +kernel
theorem dX8_count_55 : decode cX8_count 55 = .ok (.ireturn, 1) := by decide +kernel
theorem dX8_count_56 : decode cX8_count 56 = .ok (.aload_n 0, 1) := by decide +kernel
theorem dX8_count_57 : decode cX8_count 57 = .ok (.getfield 12, 3) := by decide +kernel
theorem dX8_count_60 : decode cX8_count 60 = .ok (.getfield 81, 3) := by decide +kernel
theorem dX8_count_63 : decode cX8_count 63 = .ok (.ireturn, 1) := by decide +kernel
theorem dX8_count_64 : decode cX8_count 64 = .ok (.aload_n 0, 1) := by decide +kernel
theorem dX8_count_65 : decode cX8_count 65 = .ok (.getfield 12, 3) := by decide +kernel
theorem dX8_count_68 : decode cX8_count 68 = .ok (.getfield 156, 3) := by decide +kernel
theorem dX8_count_71 : decode cX8_count 71 = .ok (.getfield 159, 3) := by decide +kernel
theorem dX8_count_74 : decode cX8_count 74 = .ok (.ireturn, 1) := by decide +kernel
theorem dX8_count_75 : decode cX8_count 75 = .ok (.aload_n 0, 1) := by decide +kernel
theorem dX8_count_76 : decode cX8_count 76 = .ok (.getfield 12, 3) := by decide +kernel
theorem dX8_count_79 : decode cX8_count 79 = .ok (.getfield 236, 3) := by decide +kernel
theorem dX8_count_82 : decode cX8_count 82 = .ok (.getfield 159, 3) := by decide +kernel
theorem dX8_count_85 : decode cX8_count 85 = .ok (.ireturn, 1) := by decide +kernel
theorem dX8_count_86 : decode cX8_count 86 = .ok (.aload_n 0, 1) := by decide +kernel
theorem dX8_count_87 : decode cX8_count 87 = .ok (.getfield 12, 3) := by decide +kernel
theorem dX8_count_90 : decode cX8_count 90 = .ok (.getfield 252, 3) := by decide +kernel
theorem dX8_count_93 : decode cX8_count 93 = .ok (.getfield 159, 3) := by decide +kernel
theorem dX8_count_96 : decode cX8_count 96 = .ok (.ireturn, 1) := by decide +kernel
theorem dX8_count_97 : decode cX8_count 97 = .ok (.aload_n 0, 1) := by decide +kernel
theorem dX8_count_98 : decode cX8_count 98 = .ok (.getfield 12, 3) := by decide +kernel
theorem dX8_count_101 : decode cX8_count 101 = .ok (.getfield 258, 3) := by decide +kernel
theorem dX8_count_104 : decode cX8_count 104 = .ok (.getfield 159, 3) := by decide +kernel
theorem dX8_count_107 : decode cX8_count 107 = .ok (.ireturn, 1) := by decide +kernel
theorem dX8_count_108 : decode cX8_count 108 = .ok (.aload_n 0, 1) := by decide +kernel
theorem dX8_count_109 : decode cX8_count 109 = .ok (.getfield 12, 3) := by decide +kernel
theorem dX8_count_112 : decode cX8_count 112 = .ok (.getfield 57, 3) := by decide +kernel
theorem dX8_count_115 : decode cX8_count 115 = .ok (.getfield 159, 3) := by decide +kernel
theorem dX8_count_118 : decode cX8_count 118 = .ok (.ireturn, 1) := by decide +kernel
theorem dX8_count_119 : decode cX8_count 119 = .ok (.aload_n 0, 1) := by decide +kernel
theorem dX8_count_120 : decode cX8_count 120 = .ok (.getfield 71, 3) := by decide +kernel
theorem dX8_count_123 : decode cX8_count 123 = .ok (.getfield 282, 3) := by decide +kernel
theorem dX8_count_126 : decode cX8_count 126 = .ok (.ireturn, 1) := by decide +kernel
theorem dX8_count_127 : decode cX8_count 127 = .ok (.iconst (-1), 1) := by decide +kernel
theorem dX8_count_128 : decode cX8_count 128 = .ok (.ireturn, 1) := by decide +kernel
theorem dX8_winner_0 : decode cX8_winner 0 = .ok (.aload_n 0, 1) := by decide +kernel
theorem dX8_winner_1 : decode cX8_winner 1 = .ok (.getfield 35, 3) := by decide +kernel
theorem dX8_winner_4 : decode cX8_winner 4 = .ok (.invokevirtual 225, 3) := by decide +kernel
theorem dX8_winner_7 : decode cX8_winner 7 = .ok (.aload_n 0, 1) := by decide +kernel
theorem dX8_winner_8 : decode cX8_winner 8 = .ok (.getfield 35, 3) := by decide +kernel
theorem dX8_winner_11 : decode cX8_winner 11 = .ok (.invokevirtual 285, 3) := by decide +kernel
theorem dX8_winner_14 : decode cX8_winner 14 = .ok (.ireturn, 1) := by decide +kernel
theorem dX8_decided_0 : decode cX8_decided 0 = .ok (.aload_n 0, 1) := by decide +kernel
theorem dX8_decided_1 : decode cX8_decided 1 = .ok (.getfield 12, 3) := by decide +kernel
theorem dX8_decided_4 : decode cX8_decided 4 = .ok (.getfield 156, 3) := by decide +kernel
theorem dX8_decided_7 : decode cX8_decided 7 = .ok (.iload_n 1, 1) := by decide +kernel
theorem dX8_decided_8 : decode cX8_decided 8 = .ok (.iconst 0, 1) := by decide +kernel
theorem dX8_decided_9 : decode cX8_decided 9 = .ok (.invokevirtual 206, 3) := by decide +kernel
theorem dX8_decided_12 : decode cX8_decided 12 = .ok (.istore_n 3, 1) := by decide +kernel
theorem dX8_decided_13 : decode cX8_decided 13 = .ok (.aload_n 0, 1) := by decide +kernel
theorem dX8_decided_14 : decode cX8_decided 14 = .ok (.getfield 12, 3) := by decide +kernel
theorem dX8_decided_17 : decode cX8_decided 17 = .ok (.getfield 156, 3) := by decide +kernel
theorem dX8_decided_20 : decode cX8_decided 20 = .ok (.iload_n 1, 1) := by decide +kernel
theorem dX8_decided_21 : decode cX8_decided 21 = .ok (.iconst 1, 1) := by decide +kernel
theorem dX8_decided_22 : decode cX8_decided 22 = .ok (.invokevirtual 206, 3) := by decide +kernel
theorem dX8_decided_25 : decode cX8_decided 25 = .ok (.istore 4, 2) := by decide +kernel
theorem dX8_decided_27 : decode cX8_decided 27 = .ok (.iload_n 2, 1) := by decide +kernel
theorem dX8_decided_28 : decode cX8_decided 28 = .ok (.iload_n 3, 1) := by decide +kernel
theorem dX8_decided_29 : decode cX8_decided 29 = .ok (.invokestatic 129, 3) := by decide +kernel
theorem dX8_decided_32 : decode cX8_decided 32 = .ok (.iload_n 2, 1) := by decide +kernel
theorem dX8_decided_33 : decode cX8_decided 33 = .ok (.iload 4, 2) := by decide +kernel
theorem dX8_decided_35 : decode cX8_decided 35 = .ok (.invokestatic 129, 3) := by decide +kernel
theorem dX8_decided_38 : decode cX8_decided 38 = .ok (.if_icmp .ne 6, 3) := by decide +kernel
theorem dX8_decided_41 : decode cX8_decided 41 = .ok (.bipush (-5), 2) := by decide +kernel
theorem dX8_decided_43 : decode cX8_decided 43 = .ok (.ireturn, 1) := by decide +kernel
theorem dX8_decided_44 : decode cX8_decided 44 = .ok (.iload_n 2, 1) := by decide +kernel
theorem dX8_decided_45 : decode cX8_decided 45 = .ok (.iload_n 3, 1) := by decide +kernel
theorem dX8_decided_46 : decode cX8_decided 46 = .ok (.invokestatic 129, 3) := by decide +kernel
theorem dX8_decided_49 : decode cX8_decided 49 = .ok (.iconst 1, 1) := by decide +kernel
theorem dX8_decided_50 : decode cX8_decided 50 = .ok (.if_icmp .ne 7, 3) := by decide +kernel
theorem dX8_decided_53 : decode cX8_decided 53 = .ok (.iload_n 3, 1) := by decide +kernel
theorem dX8_decided_54 : decode cX8_decided 54 = .ok (.goto 5, 3) := by decide +kernel
theorem dX8_decided_57 : decode cX8_decided 57 = .ok (.iload 4, 2) := by decide +kernel
theorem dX8_decided_59 : decode cX8_decided 59 = .ok (.ireturn, 1) := by decide +kernel
theorem dX8_scoreIfLaid_0 : decode cX8_scoreIfLaid 0 = .ok (.aload_n 0, 1) := by decide +kernel
theorem dX8_scoreIfLaid_1 : decode cX8_scoreIfLaid 1 = .ok (.getfield 42, 3) := by decide +kernel
theorem dX8_scoreIfLaid_4 : decode cX8_scoreIfLaid 4 = .ok (.aload_n 0, 1) := by decide +kernel
theorem dX8_scoreIfLaid_5 : decode cX8_scoreIfLaid 5 = .ok (.getfield 25, 3) := by decide +kernel
theorem dX8_scoreIfLaid_8 : decode cX8_scoreIfLaid 8 = .ok (.invokevirtual 202, 3) := by decide +kernel
theorem dX8_scoreIfLaid_11 : decode cX8_scoreIfLaid 11 = .ok (.iload_n 2, 1) := by decide +kernel
theorem dX8_scoreIfLaid_12 : decode cX8_scoreIfLaid 12 = .ok (.invokestatic 150, 3) := by decide +kernel
theorem dX8_scoreIfLaid_15 : decode cX8_scoreIfLaid 15 = .ok (.ifCond .eq 13, 3) := by decide +kernel
theorem dX8_scoreIfLaid_18 : decode cX8_scoreIfLaid 18 = .ok (.aload_n 0, 1) := by decide +kernel
theorem dX8_scoreIfLaid_19 : decode cX8_scoreIfLaid 19 = .ok (.getfield 42, 3) := by decide +kernel
theorem dX8_scoreIfLaid_22 : decode cX8_scoreIfLaid 22 = .ok (.getfield 153, 3) := by decide +kernel
theorem dX8_scoreIfLaid_25 : decode cX8_scoreIfLaid 25 = .ok (.iload_n 2, 1) := by decide +kernel
theorem dX8_scoreIfLaid_26 : decode cX8_scoreIfLaid 26 = .ok (.iload_n 3, 1) := by decide +kernel
theorem dX8_scoreIfLaid_27 : decode cX8_scoreIfLaid 27 = .ok (.iastore, 1) := by decide +kernel
theorem dX8_scoreIfLaid_28 : decode cX8_scoreIfLaid 28 = .ok (.aload_n 0, 1) := by decide +kernel
theorem dX8_scoreIfLaid_29 : decode cX8_scoreIfLaid 29 = .ok (.getfield 45, 3) := by decide +kernel
theorem dX8_scoreIfLaid_32 : decode cX8_scoreIfLaid 32 = .ok (.iload_n 1, 1) := by decide +kernel
theorem dX8_scoreIfLaid_33 : decode cX8_scoreIfLaid 33 = .ok (.invokevirtual 139, 3) := by decide +kernel
theorem dX8_scoreIfLaid_36 : decode cX8_scoreIfLaid 36 = .ok (.ireturn, 1) := by decide +kernel
theorem dX8_isAsSeen_0 : decode cX8_isAsSeen 0 = .ok (.iconst 0, 1) := by decide +kernel
theorem dX8_isAsSeen_1 : decode cX8_isAsSeen 1 = .ok (.istore_n 3, 1) := by decide +kernel
theorem dX8_isAsSeen_2 : decode cX8_isAsSeen 2 = .ok (.iload_n 3, 1) := by decide +kernel
theorem dX8_isAsSeen_3 : decode cX8_isAsSeen 3 = .ok (.aload_n 0, 1) := by decide +kernel
theorem dX8_isAsSeen_4 : decode cX8_isAsSeen 4 = .ok (.getfield 12, 3) := by decide +kernel
theorem dX8_isAsSeen_7 : decode cX8_isAsSeen 7 = .ok (.getfield 236, 3) := by decide +kernel
theorem dX8_isAsSeen_10 : decode cX8_isAsSeen 10 = .ok (.getfield 159, 3) := by decide +kernel
theorem dX8_isAsSeen_13 : decode cX8_isAsSeen 13 = .ok (.if_icmp .ge 62, 3) := by decide +kernel
theorem dX8_isAsSeen_16 : decode cX8_isAsSeen 16 = .ok (.aload_n 0, 1) := by decide +kernel
theorem dX8_isAsSeen_17 : decode cX8_isAsSeen 17 = .ok (.getfield 12, 3) := by decide +kernel
theorem dX8_isAsSeen_20 : decode cX8_isAsSeen 20 = .ok (.getfield 236, 3) := by decide +kernel
theorem dX8_isAsSeen_23 : decode cX8_isAsSeen 23 = .ok (.iload_n 3, 1) := by decide +kernel
theorem dX8_isAsSeen_24 : decode cX8_isAsSeen 24 = .ok (.iconst 1, 1) := by decide +kernel
theorem dX8_isAsSeen_25 : decode cX8_isAsSeen 25 = .ok (.invokevirtual 206, 3) := by decide +kernel
theorem dX8_isAsSeen_28 : decode cX8_isAsSeen 28 = .ok (.istore 4, 2) := by decide +kernel
theorem dX8_isAsSeen_30 : decode cX8_isAsSeen 30 = .ok (.aload_n 0, 1) := by decide +kernel
theorem dX8_isAsSeen_31 : decode cX8_isAsSeen 31 = .ok (.getfield 12, 3) := by decide +kernel
theorem dX8_isAsSeen_34 : decode cX8_isAsSeen 34 = .ok (.getfield 236, 3) := by decide +kernel
theorem dX8_isAsSeen_37 : decode cX8_isAsSeen 37 = .ok (.iload_n 3, 1) := by decide +kernel
theorem dX8_isAsSeen_38 : decode cX8_isAsSeen 38 = .ok (.iconst 0, 1) := by decide +kernel
theorem dX8_isAsSeen_39 : decode cX8_isAsSeen 39 = .ok (.invokevirtual 206, 3) := by decide +kernel
theorem dX8_isAsSeen_42 : decode cX8_isAsSeen 42 = .ok (.iload_n 2, 1) := by decide +kernel
theorem dX8_isAsSeen_43 : decode cX8_isAsSeen 43 = .ok (.if_icmp .ne 26, 3) := by decide +kernel
theorem dX8_isAsSeen_46 : decode cX8_isAsSeen 46 = .ok (.aload_n 1, 1) := by decide +kernel
theorem dX8_isAsSeen_47 : decode cX8_isAsSeen 47 = .ok (.iload 4, 2) := by decide +kernel
theorem dX8_isAsSeen_49 : decode cX8_isAsSeen 49 = .ok (.invokevirtual 288, 3) := by decide +kernel
theorem dX8_isAsSeen_52 : decode cX8_isAsSeen 52 = .ok (.aload_n 0, 1) := by decide +kernel
theorem dX8_isAsSeen_53 : decode cX8_isAsSeen 53 = .ok (.getfield 12, 3) := by decide +kernel
theorem dX8_isAsSeen_56 : decode cX8_isAsSeen 56 = .ok (.getfield 236, 3) := by decide +kernel
theorem dX8_isAsSeen_59 : decode cX8_isAsSeen 59 = .ok (.iload_n 3, 1) := by decide +kernel
theorem dX8_isAsSeen_60 : decode cX8_isAsSeen 60 = .ok (.iconst 2, 1) := by decide +kernel
theorem dX8_isAsSeen_61 : decode cX8_isAsSeen 61 = .ok (.invokevirtual 206, 3) := by decide +kernel
theorem dX8_isAsSeen_64 : decode cX8_isAsSeen 64 = .ok (.if_icmp .eq 5, 3) := by decide +kernel
theorem dX8_isAsSeen_67 : decode cX8_isAsSeen 67 = .ok (.iconst 0, 1) := by decide +kernel
theorem dX8_isAsSeen_68 : decode cX8_isAsSeen 68 = .ok (.ireturn, 1) := by decide +kernel
theorem dX8_isAsSeen_69 : decode cX8_isAsSeen 69 = .ok (.iinc 3 1, 3) := by decide +kernel
theorem dX8_isAsSeen_72 : decode cX8_isAsSeen 72 = .ok (.goto (-70), 3) := by decide +kernel
theorem dX8_isAsSeen_75 : decode cX8_isAsSeen 75 = .ok (.iconst 1, 1) := by decide +kernel
theorem dX8_isAsSeen_76 : decode cX8_isAsSeen 76 = .ok (.ireturn, 1) := by decide +kernel
theorem dX8_isKind_0 : decode cX8_isKind 0 = .ok (.iload_n 0, 1) := by decide +kernel
theorem dX8_isKind_1 : decode cX8_isKind 1 = .ok (.ifCond .lt 13, 3) := by decide +kernel
theorem dX8_isKind_4 : decode cX8_isKind 4 = .ok (.iload_n 0, 1) := by decide +kernel
theorem dX8_isKind_5 : decode cX8_isKind 5 = .ok (.bipush 7, 2) := by decide +kernel
theorem dX8_isKind_7 : decode cX8_isKind 7 = .ok (.if_icmp .ge 7, 3) := by decide +kernel
theorem dX8_isKind_10 : decode cX8_isKind 10 = .ok (.iconst 1, 1) := by decide +kernel
theorem dX8_isKind_11 : decode cX8_isKind 11 = .ok (.goto 4, 3) := by decide +kernel
theorem dX8_isKind_14 : decode cX8_isKind 14 = .ok (.iconst 0, 1) := by decide +kernel
theorem dX8_isKind_15 : decode cX8_isKind 15 = .ok (.ireturn, 1) := by decide +kernel
theorem dX8_isStep_0 : decode cX8_isStep 0 = .ok (.iload_n 0, 1) := by decide +kernel
theorem dX8_isStep_1 : decode cX8_isStep 1 = .ok (.ifCond .lt 13, 3) := by decide +kernel
theorem dX8_isStep_4 : decode cX8_isStep 4 = .ok (.iload_n 0, 1) := by decide +kernel
theorem dX8_isStep_5 : decode cX8_isStep 5 = .ok (.bipush 12, 2) := by decide +kernel
theorem dX8_isStep_7 : decode cX8_isStep 7 = .ok (.if_icmp .ge 7, 3) := by decide +kernel
theorem dX8_isStep_10 : decode cX8_isStep 10 = .ok (.iconst 1, 1) := by decide +kernel
theorem dX8_isStep_11 : decode cX8_isStep 11 = .ok (.goto 4, 3) := by decide +kernel
theorem dX8_isStep_14 : decode cX8_isStep 14 = .ok (.iconst 0, 1) := by decide +kernel
theorem dX8_isStep_15 : decode cX8_isStep 15 = .ok (.ireturn, 1) := by decide +kernel
theorem dX8_isLane_0 : decode cX8_isLane 0 = .ok (.iload_n 0, 1) := by decide +kernel
theorem dX8_isLane_1 : decode cX8_isLane 1 = .ok (.ifCond .lt 13, 3) := by decide +kernel
theorem dX8_isLane_4 : decode cX8_isLane 4 = .ok (.iload_n 0, 1) := by decide +kernel
theorem dX8_isLane_5 : decode cX8_isLane 5 = .ok (.bipush 9, 2) := by decide +kernel
theorem dX8_isLane_7 : decode cX8_isLane 7 = .ok (.if_icmp .ge 7, 3) := by decide +kernel
theorem dX8_isLane_10 : decode cX8_isLane 10 = .ok (.iconst 1, 1) := by decide +kernel
theorem dX8_isLane_11 : decode cX8_isLane 11 = .ok (.goto 4, 3) := by decide +kernel
theorem dX8_isLane_14 : decode cX8_isLane 14 = .ok (.iconst 0, 1) := by decide +kernel
theorem dX8_isLane_15 : decode cX8_isLane 15 = .ok (.ireturn, 1) := by decide +kernel
theorem dX8_isDigit_0 : decode cX8_isDigit 0 = .ok (.iload_n 0, 1) := by decide +kernel
theorem dX8_isDigit_1 : decode cX8_isDigit 1 = .ok (.ifCond .lt 13, 3) := by decide +kernel
theorem dX8_isDigit_4 : decode cX8_isDigit 4 = .ok (.iload_n 0, 1) := by decide +kernel
theorem dX8_isDigit_5 : decode cX8_isDigit 5 = .ok (.bipush 9, 2) := by decide +kernel
theorem dX8_isDigit_7 : decode cX8_isDigit 7 = .ok (.if_icmp .gt 7, 3) := by decide +kernel
theorem dX8_isDigit_10 : decode cX8_isDigit 10 = .ok (.iconst 1, 1) := by decide +kernel
theorem dX8_isDigit_11 : decode cX8_isDigit 11 = .ok (.goto 4, 3) := by decide +kernel
theorem dX8_isDigit_14 : decode cX8_isDigit 14 = .ok (.iconst 0, 1) := by decide +kernel
theorem dX8_isDigit_15 : decode cX8_isDigit 15 = .ok (.ireturn, 1) := by decide +kernel
theorem dX8_isFind_0 : decode cX8_isFind 0 = .ok (.iload_n 0, 1) := by decide +kernel
theorem dX8_isFind_1 : decode cX8_isFind 1 = .ok (.iconst 1, 1) := by decide +kernel
theorem dX8_isFind_2 : decode cX8_isFind 2 = .ok (.if_icmp .lt 13, 3) := by decide +kernel
theorem dX8_isFind_5 : decode cX8_isFind 5 = .ok (.iload_n 0, 1) := by decide +kernel
theorem dX8_isFind_6 : decode cX8_isFind 6 = .ok (.bipush 9, 2) := by decide +kernel
theorem dX8_isFind_8 : decode cX8_isFind 8 = .ok (.if_icmp .gt 7, 3) := by decide +kernel
theorem dX8_isFind_11 : decode cX8_isFind 11 = .ok (.iconst 1, 1) := by decide +kernel
theorem dX8_isFind_12 : decode cX8_isFind 12 = .ok (.goto 4, 3) := by decide +kernel
theorem dX8_isFind_15 : decode cX8_isFind 15 = .ok (.iconst 0, 1) := by decide +kernel
theorem dX8_isFind_16 : decode cX8_isFind 16 = .ok (.ireturn, 1) := by decide +kernel
theorem dX8_isPart_0 : decode cX8_isPart 0 = .ok (.iload_n 0, 1) := by decide +kernel
theorem dX8_isPart_1 : decode cX8_isPart 1 = .ok (.ifCond .eq 8, 3) := by decide +kernel
theorem dX8_isPart_4 : decode cX8_isPart 4 = .ok (.iload_n 0, 1) := by decide +kernel
theorem dX8_isPart_5 : decode cX8_isPart 5 = .ok (.iconst 1, 1) := by decide +kernel
theorem dX8_isPart_6 : decode cX8_isPart 6 = .ok (.if_icmp .ne 7, 3) := by decide +kernel
theorem dX8_isPart_9 : decode cX8_isPart 9 = .ok (.iconst 1, 1) := by decide +kernel
theorem dX8_isPart_10 : decode cX8_isPart 10 = .ok (.goto 4, 3) := by decide +kernel
theorem dX8_isPart_13 : decode cX8_isPart 13 = .ok (.iconst 0, 1) := by decide +kernel
theorem dX8_isPart_14 : decode cX8_isPart 14 = .ok (.ireturn, 1) := by decide +kernel
theorem dX8_bit_0 : decode cX8_bit 0 = .ok (.iload_n 0, 1) := by decide +kernel
theorem dX8_bit_1 : decode cX8_bit 1 = .ok (.iload_n 1, 1) := by decide +kernel
theorem dX8_bit_2 : decode cX8_bit 2 = .ok (.ishr, 1) := by decide +kernel
theorem dX8_bit_3 : decode cX8_bit 3 = .ok (.iconst 1, 1) := by decide +kernel
theorem dX8_bit_4 : decode cX8_bit 4 = .ok (.iand, 1) := by decide +kernel
theorem dX8_bit_5 : decode cX8_bit 5 = .ok (.ireturn, 1) := by decide +kernel
theorem dX8_isUnder_0 : decode cX8_isUnder 0 = .ok (.iload_n 0, 1) := by decide +kernel
theorem dX8_isUnder_1 : decode cX8_isUnder 1 = .ok (.istore_n 2, 1) := by decide +kernel
theorem dX8_isUnder_2 : decode cX8_isUnder 2 = .ok (.iconst 0, 1) := by decide +kernel
theorem dX8_isUnder_3 : decode cX8_isUnder 3 = .ok (.istore_n 3, 1) := by decide +kernel
theorem dX8_isUnder_4 : decode cX8_isUnder 4 = .ok (.iload_n 3, 1) := by decide +kernel
theorem dX8_isUnder_5 : decode cX8_isUnder 5 = .ok (.bipush 7, 2) := by decide +kernel
theorem dX8_isUnder_7 : decode cX8_isUnder 7 = .ok (.if_icmp .ge 29, 3) := by decide +kernel
theorem dX8_isUnder_10 : decode cX8_isUnder 10 = .ok (.iload_n 2, 1) := by decide +kernel
theorem dX8_isUnder_11 : decode cX8_isUnder 11 = .ok (.invokestatic 101, 3) := by decide +kernel
theorem dX8_isUnder_14 : decode cX8_isUnder 14 = .ok (.ifCond .eq 22, 3) := by decide +kernel
theorem dX8_isUnder_17 : decode cX8_isUnder 17 = .ok (.iload_n 2, 1) := by decide +kernel
theorem dX8_isUnder_18 : decode cX8_isUnder 18 = .ok (.iload_n 1, 1) := by decide +kernel
theorem dX8_isUnder_19 : decode cX8_isUnder 19 = .ok (.if_icmp .ne 5, 3) := by decide +kernel
theorem dX8_isUnder_22 : decode cX8_isUnder 22 = .ok (.iconst 1, 1) := by decide +kernel
theorem dX8_isUnder_23 : decode cX8_isUnder 23 = .ok (.ireturn, 1) := by decide +kernel
theorem dX8_isUnder_24 : decode cX8_isUnder 24 = .ok (.getstatic 291, 3) := by decide +kernel
theorem dX8_isUnder_27 : decode cX8_isUnder 27 = .ok (.iload_n 2, 1) := by decide +kernel
theorem dX8_isUnder_28 : decode cX8_isUnder 28 = .ok (.iaload, 1) := by decide +kernel
theorem dX8_isUnder_29 : decode cX8_isUnder 29 = .ok (.istore_n 2, 1) := by decide +kernel
theorem dX8_isUnder_30 : decode cX8_isUnder 30 = .ok (.iinc 3 1, 3) := by decide +kernel
theorem dX8_isUnder_33 : decode cX8_isUnder 33 = .ok (.goto (-29), 3) := by decide +kernel
theorem dX8_isUnder_36 : decode cX8_isUnder 36 = .ok (.iconst 0, 1) := by decide +kernel
theorem dX8_isUnder_37 : decode cX8_isUnder 37 = .ok (.ireturn, 1) := by decide +kernel
theorem dX8_partOf_0 : decode cX8_partOf 0 = .ok (.iload_n 0, 1) := by decide +kernel
theorem dX8_partOf_1 : decode cX8_partOf 1 = .ok (.invokestatic 294, 3) := by decide +kernel
theorem dX8_partOf_4 : decode cX8_partOf 4 = .ok (.iload_n 1, 1) := by decide +kernel
theorem dX8_partOf_5 : decode cX8_partOf 5 = .ok (.invokestatic 299, 3) := by decide +kernel
theorem dX8_partOf_8 : decode cX8_partOf 8 = .ok (.istore_n 3, 1) := by decide +kernel
theorem dX8_partOf_9 : decode cX8_partOf 9 = .ok (.iload_n 3, 1) := by decide +kernel
theorem dX8_partOf_10 : decode cX8_partOf 10 = .ok (.ifCond .ne 7, 3) := by decide +kernel
theorem dX8_partOf_13 : decode cX8_partOf 13 = .ok (.ldc2_w 246, 3) := by decide +kernel
theorem dX8_partOf_16 : decode cX8_partOf 16 = .ok (.lreturn, 1) := by decide +kernel
theorem dX8_partOf_17 : decode cX8_partOf 17 = .ok (.iload_n 2, 1) := by decide +kernel
theorem dX8_partOf_18 : decode cX8_partOf 18 = .ok (.ifCond .ne 10, 3) := by decide +kernel
theorem dX8_partOf_21 : decode cX8_partOf 21 = .ok (.iload_n 0, 1) := by decide +kernel
theorem dX8_partOf_22 : decode cX8_partOf 22 = .ok (.iload_n 3, 1) := by decide +kernel
theorem dX8_partOf_23 : decode cX8_partOf 23 = .ok (.idiv, 1) := by decide +kernel
theorem dX8_partOf_24 : decode cX8_partOf 24 = .ok (.i2l, 1) := by decide +kernel
theorem dX8_partOf_25 : decode cX8_partOf 25 = .ok (.goto 7, 3) := by decide +kernel
theorem dX8_partOf_28 : decode cX8_partOf 28 = .ok (.iload_n 1, 1) := by decide +kernel
theorem dX8_partOf_29 : decode cX8_partOf 29 = .ok (.iload_n 3, 1) := by decide +kernel
theorem dX8_partOf_30 : decode cX8_partOf 30 = .ok (.idiv, 1) := by decide +kernel
theorem dX8_partOf_31 : decode cX8_partOf 31 = .ok (.i2l, 1) := by decide +kernel
theorem dX8_partOf_32 : decode cX8_partOf 32 = .ok (.lreturn, 1) := by decide +kernel
theorem dX8_commonOf_0 : decode cX8_commonOf 0 = .ok (.iload_n 0, 1) := by decide +kernel
theorem dX8_commonOf_1 : decode cX8_commonOf 1 = .ok (.istore_n 2, 1) := by decide +kernel
theorem dX8_commonOf_2 : decode cX8_commonOf 2 = .ok (.iload_n 1, 1) := by decide +kernel
theorem dX8_commonOf_3 : decode cX8_commonOf 3 = .ok (.istore_n 3, 1) := by decide +kernel
theorem dX8_commonOf_4 : decode cX8_commonOf 4 = .ok (.iconst 0, 1) := by decide +kernel
theorem dX8_commonOf_5 : decode cX8_commonOf 5 = .ok (.istore 4, 2) := by decide +kernel
theorem dX8_commonOf_7 : decode cX8_commonOf 7 = .ok (.iload 4, 2) := by decide +kernel
theorem dX8_commonOf_9 : decode cX8_commonOf 9 = .ok (.bipush 64, 2) := by decide +kernel
theorem dX8_commonOf_11 : decode cX8_commonOf 11 = .ok (.if_icmp .ge 23, 3) := by decide +kernel
theorem dX8_commonOf_14 : decode cX8_commonOf 14 = .ok (.iload_n 3, 1) := by decide +kernel
theorem dX8_commonOf_15 : decode cX8_commonOf 15 = .ok (.ifCond .eq 19, 3) := by decide +kernel
theorem dX8_commonOf_18 : decode cX8_commonOf 18 = .ok (.iload_n 2, 1) := by decide +kernel
theorem dX8_commonOf_19 : decode cX8_commonOf 19 = .ok (.iload_n 3, 1) := by decide +kernel
theorem dX8_commonOf_20 : decode cX8_commonOf 20 = .ok (.irem, 1) := by decide +kernel
theorem dX8_commonOf_21 : decode cX8_commonOf 21 = .ok (.istore 5, 2) := by decide +kernel
theorem dX8_commonOf_23 : decode cX8_commonOf 23 = .ok (.iload_n 3, 1) := by decide +kernel
theorem dX8_commonOf_24 : decode cX8_commonOf 24 = .ok (.istore_n 2, 1) := by decide +kernel
theorem dX8_commonOf_25 : decode cX8_commonOf 25 = .ok (.iload 5, 2) := by decide +kernel
theorem dX8_commonOf_27 : decode cX8_commonOf 27 = .ok (.istore_n 3, 1) := by decide +kernel
theorem dX8_commonOf_28 : decode cX8_commonOf 28 = .ok (.iinc 4 1, 3) := by decide +kernel
theorem dX8_commonOf_31 : decode cX8_commonOf 31 = .ok (.goto (-24), 3) := by decide +kernel
theorem dX8_commonOf_34 : decode cX8_commonOf 34 = .ok (.iload_n 2, 1) := by decide +kernel
theorem dX8_commonOf_35 : decode cX8_commonOf 35 = .ok (.ireturn, 1) := by decide +kernel
theorem dX9_init_0 : decode cX9_init 0 = .ok (.aload_n 0, 1) := by decide +kernel
theorem dX9_init_1 : decode cX9_init 1 = .ok (.invokespecial 3, 3) := by decide +kernel
theorem dX9_init_4 : decode cX9_init 4 = .ok (.aload_n 0, 1) := by decide +kernel
theorem dX9_init_5 : decode cX9_init 5 = .ok (.sipush 948, 3) := by decide +kernel
theorem dX9_init_8 : decode cX9_init 8 = .ok (.newarray .int, 2) := by decide +kernel
theorem dX9_init_10 : decode cX9_init 10 = .ok (.putfield 9, 3) := by decide +kernel
theorem dX9_init_13 : decode cX9_init 13 = .ok (.aload_n 0, 1) := by decide +kernel
theorem dX9_init_14 : decode cX9_init 14 = .ok (.sipush 948, 3) := by decide +kernel
theorem dX9_init_17 : decode cX9_init 17 = .ok (.newarray .int, 2) := by decide +kernel
theorem dX9_init_19 : decode cX9_init 19 = .ok (.putfield 15, 3) := by decide +kernel
theorem dX9_init_22 : decode cX9_init 22 = .ok (.aload_n 0, 1) := by decide +kernel
theorem dX9_init_23 : decode cX9_init 23 = .ok (.bipush 31, 2) := by decide +kernel
theorem dX9_init_25 : decode cX9_init 25 = .ok (.newarray .int, 2) := by decide +kernel
theorem dX9_init_27 : decode cX9_init 27 = .ok (.putfield 18, 3) := by decide +kernel
theorem dX9_init_30 : decode cX9_init 30 = .ok (.aload_n 0, 1) := by decide +kernel
theorem dX9_init_31 : decode cX9_init 31 = .ok (.bipush 6, 2) := by decide +kernel
theorem dX9_init_33 : decode cX9_init 33 = .ok (.newarray .int, 2) := by decide +kernel
theorem dX9_init_35 : decode cX9_init 35 = .ok (.putfield 21, 3) := by decide +kernel
theorem dX9_init_38 : decode cX9_init 38 = .ok (.aload_n 0, 1) := by decide +kernel
theorem dX9_init_39 : decode cX9_init 39 = .ok (.bipush 64, 2) := by decide +kernel
theorem dX9_init_41 : decode cX9_init 41 = .ok (.newarray .boolean, 2) := by decide +kernel
theorem dX9_init_43 : decode cX9_init 43 = .ok (.putfield 24, 3) := by decide +kernel
theorem dX9_init_46 : decode cX9_init 46 = .ok (.aload_n 0, 1) := by decide +kernel
theorem dX9_init_47 : decode cX9_init 47 = .ok (.bipush 13, 2) := by decide +kernel
theorem dX9_init_49 : decode cX9_init 49 = .ok (.newarray .int, 2) := by decide +kernel
theorem dX9_init_51 : decode cX9_init 51 = .ok (.putfield 28, 3) := by decide +kernel
theorem dX9_init_54 : decode cX9_init 54 = .ok (.aload_n 0, 1) := by decide +kernel
theorem dX9_init_55 : decode cX9_init 55 = .ok (.bipush 108, 2) := by decide +kernel
theorem dX9_init_57 : decode cX9_init 57 = .ok (.newarray .int, 2) := by decide +kernel
theorem dX9_init_59 : decode cX9_init 59 = .ok (.putfield 31, 3) := by decide +kernel
theorem dX9_init_62 : decode cX9_init 62 = .ok (.aload_n 0, 1) := by decide +kernel
theorem dX9_init_63 : decode cX9_init 63 = .ok (.bipush 108, 2) := by decide +kernel
theorem dX9_init_65 : decode cX9_init 65 = .ok (.newarray .int, 2) := by decide +kernel
theorem dX9_init_67 : decode cX9_init 67 = .ok (.putfield 34, 3) := by decide +kernel
theorem dX9_init_70 : decode cX9_init 70 = .ok (.aload_n 0, 1) := by decide +kernel
theorem dX9_init_71 : decode cX9_init 71 = .ok (.bipush 20, 2) := by decide +kernel
theorem dX9_init_73 : decode cX9_init 73 = .ok (.newarray .int, 2) := by decide +kernel
theorem dX9_init_75 : decode cX9_init 75 = .ok (.putfield 37, 3) := by decide +kernel
theorem dX9_init_78 : decode cX9_init 78 = .ok (.aload_n 0, 1) := by decide +kernel
theorem dX9_init_79 : decode cX9_init 79 = .ok (.getfield 9, 3) := by decide +kernel
theorem dX9_init_82 : decode cX9_init 82 = .ok (.bipush 38, 2) := by decide +kernel
theorem dX9_init_84 : decode cX9_init 84 = .ok (.iconst (-1), 1) := by decide +kernel
theorem dX9_init_85 : decode cX9_init 85 = .ok (.iastore, 1) := by decide +kernel
theorem dX9_init_86 : decode cX9_init 86 = .ok (.return_, 1) := by decide +kernel
theorem dX9_in_0 : decode cX9_in 0 = .ok (.iload_n 0, 1) := by decide +kernel
theorem dX9_in_1 : decode cX9_in 1 = .ok (.iload_n 1, 1) := by decide +kernel
theorem dX9_in_2 : decode cX9_in 2 = .ok (.if_icmp .lt 12, 3) := by decide +kernel
theorem dX9_in_5 : decode cX9_in 5 = .ok (.iload_n 0, 1) := by decide +kernel
theorem dX9_in_6 : decode cX9_in 6 = .ok (.iload_n 2, 1) := by decide +kernel
theorem dX9_in_7 : decode cX9_in 7 = .ok (.if_icmp .gt 7, 3) := by decide +kernel
theorem dX9_in_10 : decode cX9_in 10 = .ok (.iconst 1, 1) := by decide +kernel
theorem dX9_in_11 : decode cX9_in 11 = .ok (.goto 4, 3) := by decide +kernel
theorem dX9_in_14 : decode cX9_in 14 = .ok (.iconst 0, 1) := by decide +kernel
theorem dX9_in_15 : decode cX9_in 15 = .ok (.ireturn, 1) := by decide +kernel
theorem dX9_isLane_0 : decode cX9_isLane 0 = .ok (.iload_n 0, 1) := by decide +kernel
theorem dX9_isLane_1 : decode cX9_isLane 1 = .ok (.iconst 0, 1) := by decide +kernel
theorem dX9_isLane_2 : decode cX9_isLane 2 = .ok (.bipush 8, 2) := by decide +kernel
theorem dX9_isLane_4 : decode cX9_isLane 4 = .ok (.invokestatic 44, 3) := by decide +kernel
theorem dX9_isLane_7 : decode cX9_isLane 7 = .ok (.ireturn, 1) := by decide +kernel
theorem dX9_isStep_0 : decode cX9_isStep 0 = .ok (.iload_n 0, 1) := by decide +kernel
theorem dX9_isStep_1 : decode cX9_isStep 1 = .ok (.iconst 0, 1) := by decide +kernel
theorem dX9_isStep_2 : decode cX9_isStep 2 = .ok (.bipush 11, 2) := by decide +kernel
theorem dX9_isStep_4 : decode cX9_isStep 4 = .ok (.invokestatic 44, 3) := by decide +kernel
theorem dX9_isStep_7 : decode cX9_isStep 7 = .ok (.ireturn, 1) := by decide +kernel
theorem dX9_isMan_0 : decode cX9_isMan 0 = .ok (.iload_n 1, 1) := by decide +kernel
theorem dX9_isMan_1 : decode cX9_isMan 1 = .ok (.iconst 0, 1) := by decide +kernel
theorem dX9_isMan_2 : decode cX9_isMan 2 = .ok (.aload_n 0, 1) := by decide +kernel
theorem dX9_isMan_3 : decode cX9_isMan 3 = .ok (.getfield 9, 3) := by decide +kernel
theorem dX9_isMan_6 : decode cX9_isMan 6 = .ok (.bipush 31, 2) := by decide +kernel
theorem dX9_isMan_8 : decode cX9_isMan 8 = .ok (.iaload, 1) := by decide +kernel
theorem dX9_isMan_9 : decode cX9_isMan 9 = .ok (.iconst 1, 1) := by decide +kernel
theorem dX9_isMan_10 : decode cX9_isMan 10 = .ok (.isub, 1) := by decide +kernel
theorem dX9_isMan_11 : decode cX9_isMan 11 = .ok (.invokestatic 44, 3) := by decide +kernel
theorem dX9_isMan_14 : decode cX9_isMan 14 = .ok (.ireturn, 1) := by decide +kernel
theorem dX9_isCase_0 : decode cX9_isCase 0 = .ok (.iload_n 1, 1) := by decide +kernel
theorem dX9_isCase_1 : decode cX9_isCase 1 = .ok (.iconst 0, 1) := by decide +kernel
theorem dX9_isCase_2 : decode cX9_isCase 2 = .ok (.aload_n 0, 1) := by decide +kernel
theorem dX9_isCase_3 : decode cX9_isCase 3 = .ok (.getfield 9, 3) := by decide +kernel
theorem dX9_isCase_6 : decode cX9_isCase 6 = .ok (.bipush 33, 2) := by decide +kernel
theorem dX9_isCase_8 : decode cX9_isCase 8 = .ok (.iaload, 1) := by decide +kernel
theorem dX9_isCase_9 : decode cX9_isCase 9 = .ok (.iconst 1, 1) := by decide +kernel
theorem dX9_isCase_10 : decode cX9_isCase 10 = .ok (.isub, 1) := by decide +kernel
theorem dX9_isCase_11 : decode cX9_isCase 11 = .ok (.invokestatic 44, 3) := by decide +kernel
theorem dX9_isCase_14 : decode cX9_isCase 14 = .ok (.ireturn, 1) := by decide +kernel
theorem dX9_keeps_0 : decode cX9_keeps 0 = .ok (.iconst 0, 1) := by decide +kernel
theorem dX9_keeps_1 : decode cX9_keeps 1 = .ok (.istore_n 1, 1) := by decide +kernel
theorem dX9_keeps_2 : decode cX9_keeps 2 = .ok (.iload_n 1, 1) := by decide +kernel
theorem dX9_keeps_3 : decode cX9_keeps 3 = .ok (.bipush 31, 2) := by decide +kernel
theorem dX9_keeps_5 : decode cX9_keeps 5 = .ok (.if_icmp .ge 21, 3) := by decide +kernel
theorem dX9_keeps_8 : decode cX9_keeps 8 = .ok (.aload_n 0, 1) := by decide +kernel
theorem dX9_keeps_9 : decode cX9_keeps 9 = .ok (.getfield 18, 3) := by decide +kernel
theorem dX9_keeps_12 : decode cX9_keeps 12 = .ok (.iload_n 1, 1) := by decide +kernel
theorem dX9_keeps_13 : decode cX9_keeps 13 = .ok (.aload_n 0, 1) := by decide +kernel
theorem dX9_keeps_14 : decode cX9_keeps 14 = .ok (.getfield 9, 3) := by decide +kernel
theorem dX9_keeps_17 : decode cX9_keeps 17 = .ok (.iload_n 1, 1) := by decide +kernel
theorem dX9_keeps_18 : decode cX9_keeps 18 = .ok (.iaload, 1) := by decide +kernel
theorem dX9_keeps_19 : decode cX9_keeps 19 = .ok (.iastore, 1) := by decide +kernel
theorem dX9_keeps_20 : decode cX9_keeps 20 = .ok (.iinc 1 1, 3) := by decide +kernel
theorem dX9_keeps_23 : decode cX9_keeps 23 = .ok (.goto (-21), 3) := by decide +kernel
theorem dX9_keeps_26 : decode cX9_keeps 26 = .ok (.return_, 1) := by decide +kernel
theorem dX9_goesBack_0 : decode cX9_goesBack 0 = .ok (.iconst 0, 1) := by decide +kernel
theorem dX9_goesBack_1 : decode cX9_goesBack 1 = .ok (.istore_n 1, 1) := by decide +kernel
theorem dX9_goesBack_2 : decode cX9_goesBack 2 = .ok (.iload_n 1, 1) := by decide +kernel
theorem dX9_goesBack_3 : decode cX9_goesBack 3 = .ok (.bipush 31, 2) := by decide +kernel
theorem dX9_goesBack_5 : decode cX9_goesBack 5 = .ok (.if_icmp .ge 21, 3) := by decide +kernel
theorem dX9_goesBack_8 : decode cX9_goesBack 8 = .ok (.aload_n 0, 1) := by decide +kernel
theorem dX9_goesBack_9 : decode cX9_goesBack 9 = .ok (.getfield 9, 3) := by decide +kernel
theorem dX9_goesBack_12 : decode cX9_goesBack 12 = .ok (.iload_n 1, 1) := by decide +kernel
theorem dX9_goesBack_13 : decode cX9_goesBack 13 = .ok (.aload_n 0, 1) := by decide +kernel
theorem dX9_goesBack_14 : decode cX9_goesBack 14 = .ok (.getfield 18, 3) := by decide +kernel
theorem dX9_goesBack_17 : decode cX9_goesBack 17 = .ok (.iload_n 1, 1) := by decide +kernel
theorem dX9_goesBack_18 : decode cX9_goesBack 18 = .ok (.iaload, 1) := by decide +kernel
theorem dX9_goesBack_19 : decode cX9_goesBack 19 = .ok (.iastore, 1) := by decide +kernel
theorem dX9_goesBack_20 : decode cX9_goesBack 20 = .ok (.iinc 1 1, 3) := by decide +kernel
theorem dX9_goesBack_23 : decode cX9_goesBack 23 = .ok (.goto (-21), 3) := by decide +kernel
theorem dX9_goesBack_26 : decode cX9_goesBack 26 = .ok (.return_, 1) := by decide +kernel
theorem dX9_feed_0 : decode cX9_feed 0 = .ok (.iload_n 1, 1) := by decide +kernel
theorem dX9_feed_1 : decode cX9_feed 1 = .ok (.iconst 0, 1) := by decide +kernel
theorem dX9_feed_2 : decode cX9_feed 2 = .ok (.bipush 127, 2) := by decide +kernel
theorem dX9_feed_4 : decode cX9_feed 4 = .ok (.invokestatic 44, 3) := by decide +kernel
theorem dX9_feed_7 : decode cX9_feed 7 = .ok (.ifCond .ne 6, 3) := by decide +kernel
theorem dX9_feed_10 : decode cX9_feed 10 = .ok (.bipush (-2), 2) := by decide +kernel
theorem dX9_feed_12 : decode cX9_feed 12 = .ok (.ireturn, 1) := by decide +kernel
theorem dX9_feed_13 : decode cX9_feed 13 = .ok (.aload_n 0, 1) := by decide +kernel
theorem dX9_feed_14 : decode cX9_feed 14 = .ok (.getfield 9, 3) := by decide +kernel
theorem dX9_feed_17 : decode cX9_feed 17 = .ok (.bipush 37, 2) := by decide +kernel
theorem dX9_feed_19 : decode cX9_feed 19 = .ok (.iaload, 1) := by decide +kernel
theorem dX9_feed_20 : decode cX9_feed 20 = .ok (.bipush 100, 2) := by decide +kernel
theorem dX9_feed_22 : decode cX9_feed 22 = .ok (.if_icmp .ne 6, 3) := by decide +kernel
theorem dX9_feed_25 : decode cX9_feed 25 = .ok (.bipush (-4), 2) := by decide +kernel
theorem dX9_feed_27 : decode cX9_feed 27 = .ok (.ireturn, 1) := by decide +kernel
theorem dX9_feed_28 : decode cX9_feed 28 = .ok (.aload_n 0, 1) := by decide +kernel
theorem dX9_feed_29 : decode cX9_feed 29 = .ok (.getfield 9, 3) := by decide +kernel
theorem dX9_feed_32 : decode cX9_feed 32 = .ok (.sipush 138, 3) := by decide +kernel
theorem dX9_feed_35 : decode cX9_feed 35 = .ok (.aload_n 0, 1) := by decide +kernel
theorem dX9_feed_36 : decode cX9_feed 36 = .ok (.getfield 9, 3) := by decide +kernel
theorem dX9_feed_39 : decode cX9_feed 39 = .ok (.bipush 37, 2) := by decide +kernel
theorem dX9_feed_41 : decode cX9_feed 41 = .ok (.iaload, 1) := by decide +kernel
theorem dX9_feed_42 : decode cX9_feed 42 = .ok (.iadd, 1) := by decide +kernel
theorem dX9_feed_43 : decode cX9_feed 43 = .ok (.iload_n 1, 1) := by decide +kernel
theorem dX9_feed_44 : decode cX9_feed 44 = .ok (.iastore, 1) := by decide +kernel
theorem dX9_feed_45 : decode cX9_feed 45 = .ok (.aload_n 0, 1) := by decide +kernel
theorem dX9_feed_46 : decode cX9_feed 46 = .ok (.getfield 9, 3) := by decide +kernel
theorem dX9_feed_49 : decode cX9_feed 49 = .ok (.bipush 37, 2) := by decide +kernel
theorem dX9_feed_51 : decode cX9_feed 51 = .ok (.dup2, 1) := by decide +kernel
theorem dX9_feed_52 : decode cX9_feed 52 = .ok (.iaload, 1) := by decide +kernel
theorem dX9_feed_53 : decode cX9_feed 53 = .ok (.iconst 1, 1) := by decide +kernel
theorem dX9_feed_54 : decode cX9_feed 54 = .ok (.iadd, 1) := by decide +kernel
theorem dX9_feed_55 : decode cX9_feed 55 = .ok (.iastore, 1) := by decide +kernel
theorem dX9_feed_56 : decode cX9_feed 56 = .ok (.aload_n 0, 1) := by decide +kernel
theorem dX9_feed_57 : decode cX9_feed 57 = .ok (.getfield 9, 3) := by decide +kernel
theorem dX9_feed_60 : decode cX9_feed 60 = .ok (.bipush 37, 2) := by decide +kernel
theorem dX9_feed_62 : decode cX9_feed 62 = .ok (.iaload, 1) := by decide +kernel
theorem dX9_feed_63 : decode cX9_feed 63 = .ok (.ireturn, 1) := by decide +kernel
theorem dX9_here_0 : decode cX9_here 0 = .ok (.aload_n 0, 1) := by decide +kernel
theorem dX9_here_1 : decode cX9_here 1 = .ok (.getfield 48, 3) := by decide +kernel
theorem dX9_here_4 : decode cX9_here 4 = .ok (.aload_n 0, 1) := by decide +kernel
theorem dX9_here_5 : decode cX9_here 5 = .ok (.getfield 51, 3) := by decide +kernel
theorem dX9_here_8 : decode cX9_here 8 = .ok (.if_icmp .ge 19, 3) := by decide +kernel
theorem dX9_here_11 : decode cX9_here 11 = .ok (.aload_n 0, 1) := by decide +kernel
theorem dX9_here_12 : decode cX9_here 12 = .ok (.getfield 9, 3) := by decide +kernel
theorem dX9_here_15 : decode cX9_here 15 = .ok (.sipush 138, 3) := by decide +kernel
theorem dX9_here_18 : decode cX9_here 18 = .ok (.aload_n 0, 1) := by decide +kernel
theorem dX9_here_19 : decode cX9_here 19 = .ok (.getfield 48, 3) := by decide +kernel
theorem dX9_here_22 : decode cX9_here 22 = .ok (.iadd, 1) := by decide +kernel
theorem dX9_here_23 : decode cX9_here 23 = .ok (.iaload, 1) := by decide +kernel
theorem dX9_here_24 : decode cX9_here 24 = .ok (.goto 4, 3) := by decide +kernel
theorem dX9_here_27 : decode cX9_here 27 = .ok (.iconst (-1), 1) := by decide +kernel
theorem dX9_here_28 : decode cX9_here 28 = .ok (.ireturn, 1) := by decide +kernel
theorem dX9_must_0 : decode cX9_must 0 = .ok (.aload_n 0, 1) := by decide +kernel
theorem dX9_must_1 : decode cX9_must 1 = .ok (.aload_n 0, 1) := by decide +kernel
theorem dX9_must_2 : decode cX9_must 2 = .ok (.getfield 54, 3) := by decide +kernel
theorem dX9_must_5 : decode cX9_must 5 = .ok (.ifCond .ne 11, 3) := by decide +kernel
theorem dX9_must_8 : decode cX9_must 8 = .ok (.aload_n 0, 1) := by decide +kernel
theorem dX9_must_9 : decode cX9_must 9 = .ok (.invokevirtual 58, 3) := by decide +kernel
theorem dX9_must_12 : decode cX9_must 12 = .ok (.iload_n 1, 1) := by decide +kernel
theorem dX9_must_13 : decode cX9_must 13 = .ok (.if_icmp .eq 7, 3) := by decide +kernel
theorem dX9_must_16 : decode cX9_must 16 = .ok (.iconst 1, 1) := by decide +kernel
theorem dX9_must_17 : decode cX9_must 17 = .ok (.goto 4, 3) := by decide +kernel
theorem dX9_must_20 : decode cX9_must 20 = .ok (.iconst 0, 1) := by decide +kernel
theorem dX9_must_21 : decode cX9_must 21 = .ok (.putfield 54, 3) := by decide +kernel
theorem dX9_must_24 : decode cX9_must 24 = .ok (.aload_n 0, 1) := by decide +kernel
theorem dX9_must_25 : decode cX9_must 25 = .ok (.dup, 1) := by decide +kernel
theorem dX9_must_26 : decode cX9_must 26 = .ok (.getfield 48, 3) := by decide +kernel
theorem dX9_must_29 : decode cX9_must 29 = .ok (.aload_n 0, 1) := by decide +kernel
theorem dX9_must_30 : decode cX9_must 30 = .ok (.getfield 54, 3) := by decide +kernel
theorem dX9_must_33 : decode cX9_must 33 = .ok (.ifCond .eq 7, 3) := by decide +kernel
theorem dX9_must_36 : decode cX9_must 36 = .ok (.iconst 0, 1) := by decide +kernel
theorem dX9_must_37 : decode cX9_must 37 = .ok (.goto 4, 3) := by decide +kernel
theorem dX9_must_40 : decode cX9_must 40 = .ok (.iconst 1, 1) := by decide +kernel
theorem dX9_must_41 : decode cX9_must 41 = .ok (.iadd, 1) := by decide +kernel
theorem dX9_must_42 : decode cX9_must 42 = .ok (.putfield 48, 3) := by decide +kernel
theorem dX9_must_45 : decode cX9_must 45 = .ok (.return_, 1) := by decide +kernel
theorem dX9_spells_0 : decode cX9_spells 0 = .ok (.iconst 0, 1) := by decide +kernel
theorem dX9_spells_1 : decode cX9_spells 1 = .ok (.istore_n 2, 1) := by decide +kernel
theorem dX9_spells_2 : decode cX9_spells 2 = .ok (.iload_n 2, 1) := by decide +kernel
theorem dX9_spells_3 : decode cX9_spells 3 = .ok (.aload_n 1, 1) := by decide +kernel
theorem dX9_spells_4 : decode cX9_spells 4 = .ok (.invokevirtual 62, 3) := by decide +kernel
theorem dX9_spells_7 : decode cX9_spells 7 = .ok (.if_icmp .ge 18, 3) := by decide +kernel
theorem dX9_spells_10 : decode cX9_spells 10 = .ok (.aload_n 0, 1) := by decide +kernel
theorem dX9_spells_11 : decode cX9_spells 11 = .ok (.aload_n 1, 1) := by decide +kernel
theorem dX9_spells_12 : decode cX9_spells 12 = .ok (.iload_n 2, 1) := by decide +kernel
theorem dX9_spells_13 : decode cX9_spells 13 = .ok (.invokevirtual 67, 3) := by decide +kernel
theorem dX9_spells_16 : decode cX9_spells 16 = .ok (.invokevirtual 71, 3) := by decide +kernel
theorem dX9_spells_19 : decode cX9_spells 19 = .ok (.iinc 2 1, 3) := by decide +kernel
theorem dX9_spells_22 : decode cX9_spells 22 = .ok (.goto (-20), 3) := by decide +kernel
theorem dX9_spells_25 : decode cX9_spells 25 = .ok (.return_, 1) := by decide +kernel
theorem dX9_figures_0 : decode cX9_figures 0 = .ok (.aload_n 0, 1) := by decide +kernel
theorem dX9_figures_1 : decode cX9_figures 1 = .ok (.aload_n 0, 1) := by decide +kernel
theorem dX9_figures_2 : decode cX9_figures 2 = .ok (.getfield 54, 3) := by decide +kernel
theorem dX9_figures_5 : decode cX9_figures 5 = .ok (.ifCond .ne 17, 3) := by decide +kernel
theorem dX9_figures_8 : decode cX9_figures 8 = .ok (.aload_n 0, 1) := by decide +kernel
theorem dX9_figures_9 : decode cX9_figures 9 = .ok (.invokevirtual 58, 3) := by decide +kernel
theorem dX9_figures_12 : decode cX9_figures 12 = .ok (.bipush 48, 2) := by decide +kernel
theorem dX9_figures_14 : decode cX9_figures 14 = .ok (.bipush 57, 2) := by decide +kernel
theorem dX9_figures_16 : decode cX9_figures 16 = .ok (.invokestatic 44, 3) := by decide +kernel
theorem dX9_figures_19 : decode cX9_figures 19 = .ok (.ifCond .ne 7, 3) := by decide +kernel
theorem dX9_figures_22 : decode cX9_figures 22 = .ok (.iconst 1, 1) := by decide +kernel
theorem dX9_figures_23 : decode cX9_figures 23 = .ok (.goto 4, 3) := by decide +kernel
theorem dX9_figures_26 : decode cX9_figures 26 = .ok (.iconst 0, 1) := by decide +kernel
theorem dX9_figures_27 : decode cX9_figures 27 = .ok (.putfield 54, 3) := by decide +kernel
theorem dX9_figures_30 : decode cX9_figures 30 = .ok (.iconst 0, 1) := by decide +kernel
theorem dX9_figures_31 : decode cX9_figures 31 = .ok (.istore_n 1, 1) := by decide +kernel
theorem dX9_figures_32 : decode cX9_figures 32 = .ok (.iconst 0, 1) := by decide +kernel
theorem dX9_figures_33 : decode cX9_figures 33 = .ok (.istore_n 2, 1) := by decide +kernel
theorem dX9_figures_34 : decode cX9_figures 34 = .ok (.iload_n 2, 1) := by decide +kernel
theorem dX9_figures_35 : decode cX9_figures 35 = .ok (.iconst 2, 1) := by decide +kernel
theorem dX9_figures_36 : decode cX9_figures 36 = .ok (.if_icmp .ge 61, 3) := by decide +kernel
theorem dX9_figures_39 : decode cX9_figures 39 = .ok (.aload_n 0, 1) := by decide +kernel
theorem dX9_figures_40 : decode cX9_figures 40 = .ok (.getfield 54, 3) := by decide +kernel
theorem dX9_figures_43 : decode cX9_figures 43 = .ok (.ifCond .ne 54, 3) := by decide +kernel
theorem dX9_figures_46 : decode cX9_figures 46 = .ok (.aload_n 0, 1) := by decide +kernel
theorem dX9_figures_47 : decode cX9_figures 47 = .ok (.invokevirtual 58, 3) := by decide +kernel
theorem dX9_figures_50 : decode cX9_figures 50 = .ok (.bipush 48, 2) := by decide +kernel
theorem dX9_figures_52 : decode cX9_figures 52 = .ok (.bipush 57, 2) := by decide +kernel
theorem dX9_figures_54 : decode cX9_figures 54 = .ok (.invokestatic 44, 3) := by decide +kernel
theorem dX9_figures_57 : decode cX9_figures 57 = .ok (.ifCond .eq 40, 3) := by decide +kernel
theorem dX9_figures_60 : decode cX9_figures 60 = .ok (.iload_n 2, 1) := by decide +kernel
theorem dX9_figures_61 : decode cX9_figures 61 = .ok (.ifCond .eq 7, 3) := by decide +kernel
theorem dX9_figures_64 : decode cX9_figures 64 = .ok (.iload_n 1, 1) := by decide +kernel
theorem dX9_figures_65 : decode cX9_figures 65 = .ok (.ifCond .le 32, 3) := by decide +kernel
theorem dX9_figures_68 : decode cX9_figures 68 = .ok (.bipush 10, 2) := by decide +kernel
theorem dX9_figures_70 : decode cX9_figures 70 = .ok (.iload_n 1, 1) := by decide +kernel
theorem dX9_figures_71 : decode cX9_figures 71 = .ok (.imul, 1) := by decide +kernel
theorem dX9_figures_72 : decode cX9_figures 72 = .ok (.aload_n 0, 1) := by decide +kernel
theorem dX9_figures_73 : decode cX9_figures 73 = .ok (.invokevirtual 58, 3) := by decide +kernel
theorem dX9_figures_76 : decode cX9_figures 76 = .ok (.iadd, 1) := by decide +kernel
theorem dX9_figures_77 : decode cX9_figures 77 = .ok (.bipush 48, 2) := by decide +kernel
theorem dX9_figures_79 : decode cX9_figures 79 = .ok (.isub, 1) := by decide +kernel
theorem dX9_figures_80 : decode cX9_figures 80 = .ok (.istore_n 1, 1) := by decide +kernel
theorem dX9_figures_81 : decode cX9_figures 81 = .ok (.aload_n 0, 1) := by decide +kernel
theorem dX9_figures_82 : decode cX9_figures 82 = .ok (.dup, 1) := by decide +kernel
theorem dX9_figures_83 : decode cX9_figures 83 = .ok (.getfield 48, 3) := by decide +kernel
theorem dX9_figures_86 : decode cX9_figures 86 = .ok (.iconst 1, 1) := by decide +kernel
theorem dX9_figures_87 : decode cX9_figures 87 = .ok (.iadd, 1) := by decide +kernel
theorem dX9_figures_88 : decode cX9_figures 88 = .ok (.putfield 48, 3) := by decide +kernel
theorem dX9_figures_91 : decode cX9_figures 91 = .ok (.iinc 2 1, 3) := by decide +kernel
theorem dX9_figures_94 : decode cX9_figures 94 = .ok (.goto (-60), 3) := by decide +kernel
theorem dX9_figures_97 : decode cX9_figures 97 = .ok (.iload_n 1, 1) := by decide +kernel
theorem dX9_figures_98 : decode cX9_figures 98 = .ok (.ireturn, 1) := by decide +kernel
theorem dX9_among_0 : decode cX9_among 0 = .ok (.iconst 0, 1) := by decide +kernel
theorem dX9_among_1 : decode cX9_among 1 = .ok (.istore_n 2, 1) := by decide +kernel
theorem dX9_among_2 : decode cX9_among 2 = .ok (.iload_n 2, 1) := by decide +kernel
theorem dX9_among_3 : decode cX9_among 3 = .ok (.aload_n 1, 1) := by decide +kernel
theorem dX9_among_4 : decode cX9_among 4 = .ok (.invokevirtual 62, 3) := by decide +kernel
theorem dX9_among_7 : decode cX9_among 7 = .ok (.if_icmp .ge 33, 3) := by decide +kernel
theorem dX9_among_10 : decode cX9_among 10 = .ok (.aload_n 0, 1) := by decide +kernel
theorem dX9_among_11 : decode cX9_among 11 = .ok (.invokevirtual 58, 3) := by decide +kernel
theorem dX9_among_14 : decode cX9_among 14 = .ok (.aload_n 1, 1) := by decide +kernel
theorem dX9_among_15 : decode cX9_among 15 = .ok (.iload_n 2, 1) := by decide +kernel
theorem dX9_among_16 : decode cX9_among 16 = .ok (.invokevirtual 67, 3) := by decide +kernel
theorem dX9_among_19 : decode cX9_among 19 = .ok (.if_icmp .ne 15, 3) := by decide +kernel
theorem dX9_among_22 : decode cX9_among 22 = .ok (.aload_n 0, 1) := by decide +kernel
theorem dX9_among_23 : decode cX9_among 23 = .ok (.dup, 1) := by decide +kernel
theorem dX9_among_24 : decode cX9_among 24 = .ok (.getfield 48, 3) := by decide +kernel
theorem dX9_among_27 : decode cX9_among 27 = .ok (.iconst 1, 1) := by decide +kernel
theorem dX9_among_28 : decode cX9_among 28 = .ok (.iadd, 1) := by decide +kernel
theorem dX9_among_29 : decode cX9_among 29 = .ok (.putfield 48, 3) := by decide +kernel
theorem dX9_among_32 : decode cX9_among 32 = .ok (.iload_n 2, 1) := by decide +kernel
theorem dX9_among_33 : decode cX9_among 33 = .ok (.ireturn, 1) := by decide +kernel
theorem dX9_among_34 : decode cX9_among 34 = .ok (.iinc 2 1, 3) := by decide +kernel
theorem dX9_among_37 : decode cX9_among 37 = .ok (.goto (-35), 3) := by decide +kernel
theorem dX9_among_40 : decode cX9_among 40 = .ok (.iconst (-1), 1) := by decide +kernel
theorem dX9_among_41 : decode cX9_among 41 = .ok (.ireturn, 1) := by decide +kernel
theorem dX9_emits_0 : decode cX9_emits 0 = .ok (.aload_n 0, 1) := by decide +kernel
theorem dX9_emits_1 : decode cX9_emits 1 = .ok (.getfield 54, 3) := by decide +kernel
theorem dX9_emits_4 : decode cX9_emits 4 = .ok (.ifCond .ne 52, 3) := by decide +kernel
theorem dX9_emits_7 : decode cX9_emits 7 = .ok (.aload_n 0, 1) := by decide +kernel
theorem dX9_emits_8 : decode cX9_emits 8 = .ok (.getfield 9, 3) := by decide +kernel
theorem dX9_emits_11 : decode cX9_emits 11 = .ok (.sipush 248, 3) := by decide +kernel
theorem dX9_emits_14 : decode cX9_emits 14 = .ok (.sipush 140, 3) := by decide +kernel
theorem dX9_emits_17 : decode cX9_emits 17 = .ok (.aload_n 0, 1) := by decide +kernel
theorem dX9_emits_18 : decode cX9_emits 18 = .ok (.getfield 75, 3) := by decide +kernel
theorem dX9_emits_21 : decode cX9_emits 21 = .ok (.imul, 1) := by decide +kernel
theorem dX9_emits_22 : decode cX9_emits 22 = .ok (.iadd, 1) := by decide +kernel
theorem dX9_emits_23 : decode cX9_emits 23 = .ok (.aload_n 0, 1) := by decide +kernel
theorem dX9_emits_24 : decode cX9_emits 24 = .ok (.getfield 9, 3) := by decide +kernel
theorem dX9_emits_27 : decode cX9_emits 27 = .ok (.sipush 243, 3) := by decide +kernel
theorem dX9_emits_30 : decode cX9_emits 30 = .ok (.aload_n 0, 1) := by decide +kernel
theorem dX9_emits_31 : decode cX9_emits 31 = .ok (.getfield 75, 3) := by decide +kernel
theorem dX9_emits_34 : decode cX9_emits 34 = .ok (.iadd, 1) := by decide +kernel
theorem dX9_emits_35 : decode cX9_emits 35 = .ok (.iaload, 1) := by decide +kernel
theorem dX9_emits_36 : decode cX9_emits 36 = .ok (.iadd, 1) := by decide +kernel
theorem dX9_emits_37 : decode cX9_emits 37 = .ok (.iload_n 1, 1) := by decide +kernel
theorem dX9_emits_38 : decode cX9_emits 38 = .ok (.iastore, 1) := by decide +kernel
theorem dX9_emits_39 : decode cX9_emits 39 = .ok (.aload_n 0, 1) := by decide +kernel
theorem dX9_emits_40 : decode cX9_emits 40 = .ok (.getfield 9, 3) := by decide +kernel
theorem dX9_emits_43 : decode cX9_emits 43 = .ok (.sipush 243, 3) := by decide +kernel
theorem dX9_emits_46 : decode cX9_emits 46 = .ok (.aload_n 0, 1) := by decide +kernel
theorem dX9_emits_47 : decode cX9_emits 47 = .ok (.getfield 75, 3) := by decide +kernel
theorem dX9_emits_50 : decode cX9_emits 50 = .ok (.iadd, 1) := by decide +kernel
theorem dX9_emits_51 : decode cX9_emits 51 = .ok (.dup2, 1) := by decide +kernel
theorem dX9_emits_52 : decode cX9_emits 52 = .ok (.iaload, 1) := by decide +kernel
theorem dX9_emits_53 : decode cX9_emits 53 = .ok (.iconst 1, 1) := by decide +kernel
theorem dX9_emits_54 : decode cX9_emits 54 = .ok (.iadd, 1) := by decide +kernel
theorem dX9_emits_55 : decode cX9_emits 55 = .ok (.iastore, 1) := by decide +kernel
theorem dX9_emits_56 : decode cX9_emits 56 = .ok (.return_, 1) := by decide +kernel
theorem dX9_factor_0 : decode cX9_factor 0 = .ok (.aload_n 0, 1) := by decide +kernel
theorem dX9_factor_1 : decode cX9_factor 1 = .ok (.getfield 54, 3) := by decide +kernel
theorem dX9_factor_4 : decode cX9_factor 4 = .ok (.ifCond .eq 4, 3) := by decide +kernel
theorem dX9_factor_7 : decode cX9_factor 7 = .ok (.return_, 1) := by decide +kernel
theorem dX9_factor_8 : decode cX9_factor 8 = .ok (.aload_n 0, 1) := by decide +kernel
theorem dX9_factor_9 : decode cX9_factor 9 = .ok (.invokevirtual 58, 3) := by decide +kernel
theorem dX9_factor_12 : decode cX9_factor 12 = .ok (.istore_n 1, 1) := by decide +kernel
theorem dX9_factor_13 : decode cX9_factor 13 = .ok (.iload_n 1, 1) := by decide +kernel
theorem dX9_factor_14 : decode cX9_factor 14 = .ok (.bipush 33, 2) := by decide +kernel
theorem dX9_factor_16 : decode cX9_factor 16 = .ok (.if_icmp .eq 9, 3) := by decide +kernel
theorem dX9_factor_19 : decode cX9_factor 19 = .ok (.iload_n 1, 1) := by decide +kernel
theorem dX9_factor_20 : decode cX9_factor 20 = .ok (.bipush 40, 2) := by decide +kernel
theorem dX9_factor_22 : decode cX9_factor 22 = .ok (.if_icmp .ne 90, 3) := by decide +kernel
theorem dX9_factor_25 : decode cX9_factor 25 = .ok (.aload_n 0, 1) := by decide +kernel
theorem dX9_factor_26 : decode cX9_factor 26 = .ok (.aload_n 0, 1) := by decide +kernel
theorem dX9_factor_27 : decode cX9_factor 27 = .ok (.getfield 78, 3) := by decide +kernel
theorem dX9_factor_30 : decode cX9_factor 30 = .ok (.iconst 5, 1) := by decide +kernel
theorem dX9_factor_31 : decode cX9_factor 31 = .ok (.if_icmp .ne 7, 3) := by decide +kernel
theorem dX9_factor_34 : decode cX9_factor 34 = .ok (.iconst 1, 1) := by decide +kernel
theorem dX9_factor_35 : decode cX9_factor 35 = .ok (.goto 4, 3) := by decide +kernel
theorem dX9_factor_38 : decode cX9_factor 38 = .ok (.iconst 0, 1) := by decide +kernel
theorem dX9_factor_39 : decode cX9_factor 39 = .ok (.putfield 54, 3) := by decide +kernel
theorem dX9_factor_42 : decode cX9_factor 42 = .ok (.aload_n 0, 1) := by decide +kernel
theorem dX9_factor_43 : decode cX9_factor 43 = .ok (.dup, 1) := by decide +kernel
theorem dX9_factor_44 : decode cX9_factor 44 = .ok (.getfield 78, 3) := by decide +kernel
theorem dX9_factor_47 : decode cX9_factor 47 = .ok (.iconst 1, 1) := by decide +kernel
theorem dX9_factor_48 : decode cX9_factor 48 = .ok (.iadd, 1) := by decide +kernel
theorem dX9_factor_49 : decode cX9_factor 49 = .ok (.putfield 78, 3) := by decide +kernel
theorem dX9_factor_52 : decode cX9_factor 52 = .ok (.aload_n 0, 1) := by decide +kernel
theorem dX9_factor_53 : decode cX9_factor 53 = .ok (.dup, 1) := by decide +kernel
theorem dX9_factor_54 : decode cX9_factor 54 = .ok (.getfield 48, 3) := by decide +kernel
theorem dX9_factor_57 : decode cX9_factor 57 = .ok (.aload_n 0, 1) := by decide +kernel
theorem dX9_factor_58 : decode cX9_factor 58 = .ok (.getfield 54, 3) := by decide +kernel
theorem dX9_factor_61 : decode cX9_factor 61 = .ok (.ifCond .eq 7, 3) := by decide +kernel
theorem dX9_factor_64 : decode cX9_factor 64 = .ok (.iconst 0, 1) := by decide +kernel
theorem dX9_factor_65 : decode cX9_factor 65 = .ok (.goto 4, 3) := by decide +kernel
theorem dX9_factor_68 : decode cX9_factor 68 = .ok (.iconst 1, 1) := by decide +kernel
theorem dX9_factor_69 : decode cX9_factor 69 = .ok (.iadd, 1) := by decide +kernel
theorem dX9_factor_70 : decode cX9_factor 70 = .ok (.putfield 48, 3) := by decide +kernel
theorem dX9_factor_73 : decode cX9_factor 73 = .ok (.iload_n 1, 1) := by decide +kernel
theorem dX9_factor_74 : decode cX9_factor 74 = .ok (.bipush 33, 2) := by decide +kernel
theorem dX9_factor_76 : decode cX9_factor 76 = .ok (.if_icmp .ne 15, 3) := by decide +kernel
theorem dX9_factor_79 : decode cX9_factor 79 = .ok (.aload_n 0, 1) := by decide +kernel
theorem dX9_factor_80 : decode cX9_factor 80 = .ok (.invokevirtual 81, 3) := by decide +kernel
theorem dX9_factor_83 : decode cX9_factor 83 = .ok (.aload_n 0, 1) := by decide +kernel
theorem dX9_factor_84 : decode cX9_factor 84 = .ok (.iconst (-1), 1) := by decide +kernel
theorem dX9_factor_85 : decode cX9_factor 85 = .ok (.invokevirtual 84, 3) := by decide +kernel
theorem dX9_factor_88 : decode cX9_factor 88 = .ok (.goto 13, 3) := by decide +kernel
theorem dX9_factor_91 : decode cX9_factor 91 = .ok (.aload_n 0, 1) := by decide +kernel
theorem dX9_factor_92 : decode cX9_factor 92 = .ok (.invokevirtual 87, 3) := by decide +kernel
theorem dX9_factor_95 : decode cX9_factor 95 = .ok (.aload_n 0, 1) := by decide +kernel
theorem dX9_factor_96 : decode cX9_factor 96 = .ok (.bipush 41, 2) := by decide +kernel
theorem dX9_factor_98 : decode cX9_factor 98 = .ok (.invokevirtual 71, 3) := by decide +kernel
theorem dX9_factor_101 : decode cX9_factor 101 = .ok (.aload_n 0, 1) := by decide +kernel
theorem dX9_factor_102 : decode cX9_factor 102 = .ok (.dup, 1) := by decide +kernel
theorem dX9_factor_103 : decode cX9_factor 103 = .ok (.getfield 78, 3) := by decide +kernel
theorem dX9_factor_106 : decode cX9_factor 106 = .ok (.iconst 1, 1) := by decide +kernel
theorem dX9_factor_107 : decode cX9_factor 107 = .ok (.isub, 1) := by decide +kernel
theorem dX9_factor_108 : decode cX9_factor 108 = .ok (.putfield 78, 3) := by decide +kernel
theorem dX9_factor_111 : decode cX9_factor 111 = .ok (.return_, 1) := by decide +kernel
theorem dX9_factor_112 : decode cX9_factor 112 = .ok (.aload_n 0, 1) := by decide +kernel
theorem dX9_factor_113 : decode cX9_factor 113 = .ok (.ldc 90, 2) := by decide +kernel
theorem dX9_factor_115 : decode cX9_factor 115 = .ok (.invokevirtual 92, 3) := by decide +kernel
theorem dX9_factor_118 : decode cX9_factor 118 = .ok (.istore_n 2, 1) := by decide +kernel
theorem dX9_factor_119 : decode cX9_factor 119 = .ok (.aload_n 0, 1) := by decide +kernel
theorem dX9_factor_120 : decode cX9_factor 120 = .ok (.iload_n 2, 1) := by decide +kernel
theorem dX9_factor_121 : decode cX9_factor 121 = .ok (.iconst (-1), 1) := by decide +kernel
theorem dX9_factor_122 : decode cX9_factor 122 = .ok (.if_icmp .ne 7, 3) := by decide +kernel
theorem dX9_factor_125 : decode cX9_factor 125 = .ok (.iconst 1, 1) := by decide +kernel
theorem dX9_factor_126 : decode cX9_factor 126 = .ok (.goto 4, 3) := by decide +kernel
theorem dX9_factor_129 : decode cX9_factor 129 = .ok (.iconst 0, 1) := by decide +kernel
theorem dX9_factor_130 : decode cX9_factor 130 = .ok (.putfield 54, 3) := by decide +kernel
theorem dX9_factor_133 : decode cX9_factor 133 = .ok (.aload_n 0, 1) := by decide +kernel
theorem dX9_factor_134 : decode cX9_factor 134 = .ok (.getfield 54, 3) := by decide +kernel
theorem dX9_factor_137 : decode cX9_factor 137 = .ok (.ifCond .eq 7, 3) := by decide +kernel
theorem dX9_factor_140 : decode cX9_factor 140 = .ok (.iconst 0, 1) := by decide +kernel
theorem dX9_factor_141 : decode cX9_factor 141 = .ok (.goto 9, 3) := by decide +kernel
theorem dX9_factor_144 : decode cX9_factor 144 = .ok (.aload_n 0, 1) := by decide +kernel
theorem dX9_factor_145 : decode cX9_factor 145 = .ok (.ldc 96, 2) := by decide +kernel
theorem dX9_factor_147 : decode cX9_factor 147 = .ok (.invokevirtual 92, 3) := by decide +kernel
theorem dX9_factor_150 : decode cX9_factor 150 = .ok (.istore_n 3, 1) := by decide +kernel
theorem dX9_factor_151 : decode cX9_factor 151 = .ok (.aload_n 0, 1) := by decide +kernel
theorem dX9_factor_152 : decode cX9_factor 152 = .ok (.aload_n 0, 1) := by decide +kernel
theorem dX9_factor_153 : decode cX9_factor 153 = .ok (.getfield 54, 3) := by decide +kernel
theorem dX9_factor_156 : decode cX9_factor 156 = .ok (.ifCond .ne 8, 3) := by decide +kernel
theorem dX9_factor_159 : decode cX9_factor 159 = .ok (.iload_n 3, 1) := by decide +kernel
theorem dX9_factor_160 : decode cX9_factor 160 = .ok (.iconst (-1), 1) := by decide +kernel
theorem dX9_factor_161 : decode cX9_factor 161 = .ok (.if_icmp .ne 7, 3) := by decide +kernel
theorem dX9_factor_164 : decode cX9_factor 164 = .ok (.iconst 1, 1) := by decide +kernel
theorem dX9_factor_165 : decode cX9_factor 165 = .ok (.goto 4, 3) := by decide +kernel
theorem dX9_factor_168 : decode cX9_factor 168 = .ok (.iconst 0, 1) := by decide +kernel
theorem dX9_factor_169 : decode cX9_factor 169 = .ok (.putfield 54, 3) := by decide +kernel
theorem dX9_factor_172 : decode cX9_factor 172 = .ok (.aload_n 0, 1) := by decide +kernel
theorem dX9_factor_173 : decode cX9_factor 173 = .ok (.invokevirtual 98, 3) := by decide +kernel
theorem dX9_factor_176 : decode cX9_factor 176 = .ok (.istore 4, 2) := by decide +kernel
theorem dX9_factor_178 : decode cX9_factor 178 = .ok (.aload_n 0, 1) := by decide +kernel
theorem dX9_factor_179 : decode cX9_factor 179 = .ok (.iload_n 2, 1) := by decide +kernel
theorem dX9_factor_180 : decode cX9_factor 180 = .ok (.bipush 8, 2) := by decide +kernel
theorem dX9_factor_182 : decode cX9_factor 182 = .ok (.iload_n 3, 1) := by decide +kernel
theorem dX9_factor_183 : decode cX9_factor 183 = .ok (.imul, 1) := by decide +kernel
theorem dX9_factor_184 : decode cX9_factor 184 = .ok (.iadd, 1) := by decide +kernel
theorem dX9_factor_185 : decode cX9_factor 185 = .ok (.bipush 32, 2) := by decide +kernel
theorem dX9_factor_187 : decode cX9_factor 187 = .ok (.iload 4, 2) := by decide +kernel
theorem dX9_factor_189 : decode cX9_factor 189 = .ok (.imul, 1) := by decide +kernel
theorem dX9_factor_190 : decode cX9_factor 190 = .ok (.iadd, 1) := by decide +kernel
theorem dX9_factor_191 : decode cX9_factor 191 = .ok (.invokevirtual 84, 3) := by decide +kernel
theorem dX9_factor_194 : decode cX9_factor 194 = .ok (.return_, 1) := by decide +kernel
theorem dX9_every_0 : decode cX9_every 0 = .ok (.aload_n 0, 1) := by decide +kernel
theorem dX9_every_1 : decode cX9_every 1 = .ok (.invokevirtual 81, 3) := by decide +kernel
theorem dX9_every_4 : decode cX9_every 4 = .ok (.aload_n 0, 1) := by decide +kernel
theorem dX9_every_5 : decode cX9_every 5 = .ok (.getfield 54, 3) := by decide +kernel
theorem dX9_every_8 : decode cX9_every 8 = .ok (.ifCond .ne 35, 3) := by decide +kernel
theorem dX9_every_11 : decode cX9_every 11 = .ok (.aload_n 0, 1) := by decide +kernel
theorem dX9_every_12 : decode cX9_every 12 = .ok (.invokevirtual 58, 3) := by decide +kernel
theorem dX9_every_15 : decode cX9_every 15 = .ok (.bipush 38, 2) := by decide +kernel
theorem dX9_every_17 : decode cX9_every 17 = .ok (.if_icmp .ne 26, 3) := by decide +kernel
theorem dX9_every_20 : decode cX9_every 20 = .ok (.aload_n 0, 1) := by decide +kernel
theorem dX9_every_21 : decode cX9_every 21 = .ok (.dup, 1) := by decide +kernel
theorem dX9_every_22 : decode cX9_every 22 = .ok (.getfield 48, 3) := by decide +kernel
theorem dX9_every_25 : decode cX9_every 25 = .ok (.iconst 1, 1) := by decide +kernel
theorem dX9_every_26 : decode cX9_every 26 = .ok (.iadd, 1) := by decide +kernel
theorem dX9_every_27 : decode cX9_every 27 = .ok (.putfield 48, 3) := by decide +kernel
theorem dX9_every_30 : decode cX9_every 30 = .ok (.aload_n 0, 1) := by decide +kernel
theorem dX9_every_31 : decode cX9_every 31 = .ok (.invokevirtual 81, 3) := by decide +kernel
theorem dX9_every_34 : decode cX9_every 34 = .ok (.aload_n 0, 1) := by decide +kernel
theorem dX9_every_35 : decode cX9_every 35 = .ok (.bipush (-2), 2) := by decide +kernel
theorem dX9_every_37 : decode cX9_every 37 = .ok (.invokevirtual 84, 3) := by decide +kernel
theorem dX9_every_40 : decode cX9_every 40 = .ok (.goto (-36), 3) := by decide +kernel
theorem dX9_every_43 : decode cX9_every 43 = .ok (.return_, 1) := by decide +kernel
theorem dX9_some_0 : decode cX9_some 0 = .ok (.aload_n 0, 1) := by decide +kernel
theorem dX9_some_1 : decode cX9_some 1 = .ok (.invokevirtual 101, 3) := by decide +kernel
theorem dX9_some_4 : decode cX9_some 4 = .ok (.aload_n 0, 1) := by decide +kernel
theorem dX9_some_5 : decode cX9_some 5 = .ok (.getfield 54, 3) := by decide +kernel
theorem dX9_some_8 : decode cX9_some 8 = .ok (.ifCond .ne 35, 3) := by decide +kernel
theorem dX9_some_11 : decode cX9_some 11 = .ok (.aload_n 0, 1) := by decide +kernel
theorem dX9_some_12 : decode cX9_some 12 = .ok (.invokevirtual 58, 3) := by decide +kernel
theorem dX9_some_15 : decode cX9_some 15 = .ok (.bipush 124, 2) := by decide +kernel
theorem dX9_some_17 : decode cX9_some 17 = .ok (.if_icmp .ne 26, 3) := by decide +kernel
theorem dX9_some_20 : decode cX9_some 20 = .ok (.aload_n 0, 1) := by decide +kernel
theorem dX9_some_21 : decode cX9_some 21 = .ok (.dup, 1) := by decide +kernel
theorem dX9_some_22 : decode cX9_some 22 = .ok (.getfield 48, 3) := by decide +kernel
theorem dX9_some_25 : decode cX9_some 25 = .ok (.iconst 1, 1) := by decide +kernel
theorem dX9_some_26 : decode cX9_some 26 = .ok (.iadd, 1) := by decide +kernel
theorem dX9_some_27 : decode cX9_some 27 = .ok (.putfield 48, 3) := by decide +kernel
theorem dX9_some_30 : decode cX9_some 30 = .ok (.aload_n 0, 1) := by decide +kernel
theorem dX9_some_31 : decode cX9_some 31 = .ok (.invokevirtual 101, 3) := by decide +kernel
theorem dX9_some_34 : decode cX9_some 34 = .ok (.aload_n 0, 1) := by decide +kernel
theorem dX9_some_35 : decode cX9_some 35 = .ok (.bipush (-3), 2) := by decide +kernel
theorem dX9_some_37 : decode cX9_some 37 = .ok (.invokevirtual 84, 3) := by decide +kernel
theorem dX9_some_40 : decode cX9_some 40 = .ok (.goto (-36), 3) := by decide +kernel
theorem dX9_some_43 : decode cX9_some 43 = .ok (.return_, 1) := by decide +kernel
theorem dX9_much_0 : decode cX9_much 0 = .ok (.aload_n 0, 1) := by decide +kernel
theorem dX9_much_1 : decode cX9_much 1 = .ok (.aload_n 2, 1) := by decide +kernel
theorem dX9_much_2 : decode cX9_much 2 = .ok (.invokevirtual 104, 3) := by decide +kernel
theorem dX9_much_5 : decode cX9_much 5 = .ok (.aload_n 0, 1) := by decide +kernel
theorem dX9_much_6 : decode cX9_much 6 = .ok (.invokevirtual 98, 3) := by decide +kernel
theorem dX9_much_9 : decode cX9_much 9 = .ok (.istore_n 3, 1) := by decide +kernel
theorem dX9_much_10 : decode cX9_much 10 = .ok (.aload_n 0, 1) := by decide +kernel
theorem dX9_much_11 : decode cX9_much 11 = .ok (.bipush 32, 2) := by decide +kernel
theorem dX9_much_13 : decode cX9_much 13 = .ok (.invokevirtual 71, 3) := by decide +kernel
theorem dX9_much_16 : decode cX9_much 16 = .ok (.aload_n 0, 1) := by decide +kernel
theorem dX9_much_17 : decode cX9_much 17 = .ok (.invokevirtual 87, 3) := by decide +kernel
theorem dX9_much_20 : decode cX9_much 20 = .ok (.aload_n 0, 1) := by decide +kernel
theorem dX9_much_21 : decode cX9_much 21 = .ok (.iload_n 1, 1) := by decide +kernel
theorem dX9_much_22 : decode cX9_much 22 = .ok (.iload_n 3, 1) := by decide +kernel
theorem dX9_much_23 : decode cX9_much 23 = .ok (.isub, 1) := by decide +kernel
theorem dX9_much_24 : decode cX9_much 24 = .ok (.invokevirtual 84, 3) := by decide +kernel
theorem dX9_much_27 : decode cX9_much 27 = .ok (.return_, 1) := by decide +kernel
theorem dX9_tellsHere_0 : decode cX9_tellsHere 0 = .ok (.aload_n 0, 1) := by decide +kernel
theorem dX9_tellsHere_1 : decode cX9_tellsHere 1 = .ok (.aload_n 2, 1) := by decide +kernel
theorem dX9_tellsHere_2 : decode cX9_tellsHere 2 = .ok (.invokevirtual 104, 3) := by decide +kernel
theorem dX9_tellsHere_5 : decode cX9_tellsHere 5 = .ok (.aload_n 0, 1) := by decide +kernel
theorem dX9_tellsHere_6 : decode cX9_tellsHere 6 = .ok (.invokevirtual 98, 3) := by decide +kernel
theorem dX9_tellsHere_9 : decode cX9_tellsHere 9 = .ok (.istore_n 3, 1) := by decide +kernel
theorem dX9_tellsHere_10 : decode cX9_tellsHere 10 = .ok (.aload_n 0, 1) := by decide +kernel
theorem dX9_tellsHere_11 : decode cX9_tellsHere 11 = .ok (.getfield 54, 3) := by decide +kernel
theorem dX9_tellsHere_14 : decode cX9_tellsHere 14 = .ok (.ifCond .ne 15, 3) := by decide +kernel
theorem dX9_tellsHere_17 : decode cX9_tellsHere 17 = .ok (.aload_n 0, 1) := by decide +kernel
theorem dX9_tellsHere_18 : decode cX9_tellsHere 18 = .ok (.getfield 9, 3) := by decide +kernel
theorem dX9_tellsHere_21 : decode cX9_tellsHere 21 = .ok (.iload_n 1, 1) := by decide +kernel
theorem dX9_tellsHere_22 : decode cX9_tellsHere 22 = .ok (.aload_n 0, 1) := by decide +kernel
theorem dX9_tellsHere_23 : decode cX9_tellsHere 23 = .ok (.getfield 75, 3) := by decide +kernel
theorem dX9_tellsHere_26 : decode cX9_tellsHere 26 = .ok (.iadd, 1) := by decide +kernel
theorem dX9_tellsHere_27 : decode cX9_tellsHere 27 = .ok (.iload_n 3, 1) := by decide +kernel
theorem dX9_tellsHere_28 : decode cX9_tellsHere 28 = .ok (.iastore, 1) := by decide +kernel
theorem dX9_tellsHere_29 : decode cX9_tellsHere 29 = .ok (.return_, 1) := by decide +kernel
theorem dX9_clauseHere_0 : decode cX9_clauseHere 0 = .ok (.aload_n 0, 1) := by decide +kernel
theorem dX9_clauseHere_1 : decode cX9_clauseHere 1 = .ok (.invokevirtual 58, 3) := by decide +kernel
theorem dX9_clauseHere_4 : decode cX9_clauseHere 4 = .ok (.lookupswitch 71 #[(100, 48), (104, 59), (112, 36)], 36) := by decide +kernel
theorem dX9_clauseHere_40 : decode cX9_clauseHere 40 = .ok (.aload_n 0, 1) := by decide +kernel
theorem dX9_clauseHere_41 : decode cX9_clauseHere 41 = .ok (.sipush 238, 3) := by decide +kernel
theorem dX9_clauseHere_44 : decode cX9_clauseHere 44 = .ok (.ldc 108, 2) := by decide +kernel
theorem dX9_clauseHere_46 : decode cX9_clauseHere 46 = .ok (.invokevirtual 110, 3) := by decide +kernel
theorem dX9_clauseHere_49 : decode cX9_clauseHere 49 = .ok (.goto 31, 3) := by decide +kernel
theorem dX9_clauseHere_52 : decode cX9_clauseHere 52 = .ok (.aload_n 0, 1) := by decide +kernel
theorem dX9_clauseHere_53 : decode cX9_clauseHere 53 = .ok (.bipush (-10), 2) := by decide +kernel
theorem dX9_clauseHere_55 : decode cX9_clauseHere 55 = .ok (.ldc 114, 2) := by decide +kernel
theorem dX9_clauseHere_57 : decode cX9_clauseHere 57 = .ok (.invokevirtual 116, 3) := by decide +kernel
theorem dX9_clauseHere_60 : decode cX9_clauseHere 60 = .ok (.goto 20, 3) := by decide +kernel
theorem dX9_clauseHere_63 : decode cX9_clauseHere 63 = .ok (.aload_n 0, 1) := by decide +kernel
theorem dX9_clauseHere_64 : decode cX9_clauseHere 64 = .ok (.sipush (-200), 3) := by decide +kernel
theorem dX9_clauseHere_67 : decode cX9_clauseHere 67 = .ok (.ldc 119, 2) := by decide +kernel
theorem dX9_clauseHere_69 : decode cX9_clauseHere 69 = .ok (.invokevirtual 116, 3) := by decide +kernel
theorem dX9_clauseHere_72 : decode cX9_clauseHere 72 = .ok (.goto 8, 3) := by decide +kernel
theorem dX9_clauseHere_75 : decode cX9_clauseHere 75 = .ok (.aload_n 0, 1) := by decide +kernel
theorem dX9_clauseHere_76 : decode cX9_clauseHere 76 = .ok (.iconst 1, 1) := by decide +kernel
theorem dX9_clauseHere_77 : decode cX9_clauseHere 77 = .ok (.putfield 54, 3) := by decide +kernel
theorem dX9_clauseHere_80 : decode cX9_clauseHere 80 = .ok (.return_, 1) := by decide +kernel
theorem dX9_parish_0 : decode cX9_parish 0 = .ok (.aload_n 0, 1) := by decide +kernel
theorem dX9_parish_1 : decode cX9_parish 1 = .ok (.getfield 9, 3) := by decide +kernel
theorem dX9_parish_4 : decode cX9_parish 4 = .ok (.bipush 32, 2) := by decide +kernel
theorem dX9_parish_6 : decode cX9_parish 6 = .ok (.iaload, 1) := by decide +kernel
theorem dX9_parish_7 : decode cX9_parish 7 = .ok (.iconst 5, 1) := by decide +kernel
theorem dX9_parish_8 : decode cX9_parish 8 = .ok (.if_icmp .ne 6, 3) := by decide +kernel
theorem dX9_parish_11 : decode cX9_parish 11 = .ok (.bipush (-4), 2) := by decide +kernel
theorem dX9_parish_13 : decode cX9_parish 13 = .ok (.ireturn, 1) := by decide +kernel
theorem dX9_parish_14 : decode cX9_parish 14 = .ok (.aload_n 0, 1) := by decide +kernel
theorem dX9_parish_15 : decode cX9_parish 15 = .ok (.aload_n 0, 1) := by decide +kernel
theorem dX9_parish_16 : decode cX9_parish 16 = .ok (.getfield 9, 3) := by decide +kernel
theorem dX9_parish_19 : decode cX9_parish 19 = .ok (.bipush 32, 2) := by decide +kernel
theorem dX9_parish_21 : decode cX9_parish 21 = .ok (.iaload, 1) := by decide +kernel
theorem dX9_parish_22 : decode cX9_parish 22 = .ok (.putfield 75, 3) := by decide +kernel
theorem dX9_parish_25 : decode cX9_parish 25 = .ok (.aload_n 0, 1) := by decide +kernel
theorem dX9_parish_26 : decode cX9_parish 26 = .ok (.aload_n 0, 1) := by decide +kernel
theorem dX9_parish_27 : decode cX9_parish 27 = .ok (.getfield 9, 3) := by decide +kernel
theorem dX9_parish_30 : decode cX9_parish 30 = .ok (.bipush 37, 2) := by decide +kernel
theorem dX9_parish_32 : decode cX9_parish 32 = .ok (.iaload, 1) := by decide +kernel
theorem dX9_parish_33 : decode cX9_parish 33 = .ok (.putfield 51, 3) := by decide +kernel
theorem dX9_parish_36 : decode cX9_parish 36 = .ok (.aload_n 0, 1) := by decide +kernel
theorem dX9_parish_37 : decode cX9_parish 37 = .ok (.getfield 9, 3) := by decide +kernel
theorem dX9_parish_40 : decode cX9_parish 40 = .ok (.bipush 37, 2) := by decide +kernel
theorem dX9_parish_42 : decode cX9_parish 42 = .ok (.iconst 0, 1) := by decide +kernel
theorem dX9_parish_43 : decode cX9_parish 43 = .ok (.iastore, 1) := by decide +kernel
theorem dX9_parish_44 : decode cX9_parish 44 = .ok (.aload_n 0, 1) := by decide +kernel
theorem dX9_parish_45 : decode cX9_parish 45 = .ok (.getfield 9, 3) := by decide +kernel
theorem dX9_parish_48 : decode cX9_parish 48 = .ok (.sipush 238, 3) := by decide +kernel
theorem dX9_parish_51 : decode cX9_parish 51 = .ok (.aload_n 0, 1) := by decide +kernel
theorem dX9_parish_52 : decode cX9_parish 52 = .ok (.getfield 75, 3) := by decide +kernel
theorem dX9_parish_55 : decode cX9_parish 55 = .ok (.iadd, 1) := by decide +kernel
theorem dX9_parish_56 : decode cX9_parish 56 = .ok (.bipush 30, 2) := by decide +kernel
theorem dX9_parish_58 : decode cX9_parish 58 = .ok (.iastore, 1) := by decide +kernel
theorem dX9_parish_59 : decode cX9_parish 59 = .ok (.aload_n 0, 1) := by decide +kernel
theorem dX9_parish_60 : decode cX9_parish 60 = .ok (.getfield 9, 3) := by decide +kernel
theorem dX9_parish_63 : decode cX9_parish 63 = .ok (.sipush 243, 3) := by decide +kernel
theorem dX9_parish_66 : decode cX9_parish 66 = .ok (.aload_n 0, 1) := by decide +kernel
theorem dX9_parish_67 : decode cX9_parish 67 = .ok (.getfield 75, 3) := by decide +kernel
theorem dX9_parish_70 : decode cX9_parish 70 = .ok (.iadd, 1) := by decide +kernel
theorem dX9_parish_71 : decode cX9_parish 71 = .ok (.iconst 0, 1) := by decide +kernel
theorem dX9_parish_72 : decode cX9_parish 72 = .ok (.iastore, 1) := by decide +kernel
theorem dX9_parish_73 : decode cX9_parish 73 = .ok (.aload_n 0, 1) := by decide +kernel
theorem dX9_parish_74 : decode cX9_parish 74 = .ok (.iconst 0, 1) := by decide +kernel
theorem dX9_parish_75 : decode cX9_parish 75 = .ok (.putfield 48, 3) := by decide +kernel
theorem dX9_parish_78 : decode cX9_parish 78 = .ok (.aload_n 0, 1) := by decide +kernel
theorem dX9_parish_79 : decode cX9_parish 79 = .ok (.iconst 0, 1) := by decide +kernel
theorem dX9_parish_80 : decode cX9_parish 80 = .ok (.putfield 54, 3) := by decide +kernel
theorem dX9_parish_83 : decode cX9_parish 83 = .ok (.aload_n 0, 1) := by decide +kernel
theorem dX9_parish_84 : decode cX9_parish 84 = .ok (.iconst 0, 1) := by decide +kernel
theorem dX9_parish_85 : decode cX9_parish 85 = .ok (.putfield 78, 3) := by decide +kernel
theorem dX9_parish_88 : decode cX9_parish 88 = .ok (.iconst 1, 1) := by decide +kernel
theorem dX9_parish_89 : decode cX9_parish 89 = .ok (.istore_n 1, 1) := by decide +kernel
theorem dX9_parish_90 : decode cX9_parish 90 = .ok (.aload_n 0, 1) := by decide +kernel
theorem dX9_parish_91 : decode cX9_parish 91 = .ok (.invokevirtual 121, 3) := by decide +kernel
theorem dX9_parish_94 : decode cX9_parish 94 = .ok (.aload_n 0, 1) := by decide +kernel
theorem dX9_parish_95 : decode cX9_parish 95 = .ok (.getfield 54, 3) := by decide +kernel
theorem dX9_parish_98 : decode cX9_parish 98 = .ok (.ifCond .ne 38, 3) := by decide +kernel
theorem dX9_parish_101 : decode cX9_parish 101 = .ok (.iload_n 1, 1) := by decide +kernel
theorem dX9_parish_102 : decode cX9_parish 102 = .ok (.bipush 10, 2) := by decide +kernel
theorem dX9_parish_104 : decode cX9_parish 104 = .ok (.if_icmp .ge 32, 3) := by decide +kernel
theorem dX9_parish_107 : decode cX9_parish 107 = .ok (.aload_n 0, 1) := by decide +kernel
theorem dX9_parish_108 : decode cX9_parish 108 = .ok (.invokevirtual 58, 3) := by decide +kernel
theorem dX9_parish_111 : decode cX9_parish 111 = .ok (.bipush 59, 2) := by decide +kernel
theorem dX9_parish_113 : decode cX9_parish 113 = .ok (.if_icmp .ne 23, 3) := by decide +kernel
theorem dX9_parish_116 : decode cX9_parish 116 = .ok (.aload_n 0, 1) := by decide +kernel
theorem dX9_parish_117 : decode cX9_parish 117 = .ok (.dup, 1) := by decide +kernel
theorem dX9_parish_118 : decode cX9_parish 118 = .ok (.getfield 48, 3) := by decide +kernel
theorem dX9_parish_121 : decode cX9_parish 121 = .ok (.iconst 1, 1) := by decide +kernel
theorem dX9_parish_122 : decode cX9_parish 122 = .ok (.iadd, 1) := by decide +kernel
theorem dX9_parish_123 : decode cX9_parish 123 = .ok (.putfield 48, 3) := by decide +kernel
theorem dX9_parish_126 : decode cX9_parish 126 = .ok (.aload_n 0, 1) := by decide +kernel
theorem dX9_parish_127 : decode cX9_parish 127 = .ok (.invokevirtual 121, 3) := by decide +kernel
theorem dX9_parish_130 : decode cX9_parish 130 = .ok (.iinc 1 1, 3) := by decide +kernel
theorem dX9_parish_133 : decode cX9_parish 133 = .ok (.goto (-39), 3) := by decide +kernel
theorem dX9_parish_136 : decode cX9_parish 136 = .ok (.aload_n 0, 1) := by decide +kernel
theorem dX9_parish_137 : decode cX9_parish 137 = .ok (.getfield 54, 3) := by decide +kernel
theorem dX9_parish_140 : decode cX9_parish 140 = .ok (.ifCond .ne 14, 3) := by decide +kernel
theorem dX9_parish_143 : decode cX9_parish 143 = .ok (.aload_n 0, 1) := by decide +kernel
theorem dX9_parish_144 : decode cX9_parish 144 = .ok (.getfield 48, 3) := by decide +kernel
theorem dX9_parish_147 : decode cX9_parish 147 = .ok (.aload_n 0, 1) := by decide +kernel
theorem dX9_parish_148 : decode cX9_parish 148 = .ok (.getfield 51, 3) := by decide +kernel
theorem dX9_parish_151 : decode cX9_parish 151 = .ok (.if_icmp .eq 11, 3) := by decide +kernel
theorem dX9_parish_154 : decode cX9_parish 154 = .ok (.bipush (-10), 2) := by decide +kernel
theorem dX9_parish_156 : decode cX9_parish 156 = .ok (.aload_n 0, 1) := by decide +kernel
theorem dX9_parish_157 : decode cX9_parish 157 = .ok (.getfield 48, 3) := by decide +kernel
theorem dX9_parish_160 : decode cX9_parish 160 = .ok (.isub, 1) := by decide +kernel
theorem dX9_parish_161 : decode cX9_parish 161 = .ok (.ireturn, 1) := by decide +kernel
theorem dX9_parish_162 : decode cX9_parish 162 = .ok (.aload_n 0, 1) := by decide +kernel
theorem dX9_parish_163 : decode cX9_parish 163 = .ok (.getfield 9, 3) := by decide +kernel
theorem dX9_parish_166 : decode cX9_parish 166 = .ok (.bipush 32, 2) := by decide +kernel
theorem dX9_parish_168 : decode cX9_parish 168 = .ok (.dup2, 1) := by decide +kernel
theorem dX9_parish_169 : decode cX9_parish 169 = .ok (.iaload, 1) := by decide +kernel
theorem dX9_parish_170 : decode cX9_parish 170 = .ok (.iconst 1, 1) := by decide +kernel
theorem dX9_parish_171 : decode cX9_parish 171 = .ok (.iadd, 1) := by decide +kernel
theorem dX9_parish_172 : decode cX9_parish 172 = .ok (.iastore, 1) := by decide +kernel
theorem dX9_parish_173 : decode cX9_parish 173 = .ok (.aload_n 0, 1) := by decide +kernel
theorem dX9_parish_174 : decode cX9_parish 174 = .ok (.getfield 9, 3) := by decide +kernel
theorem dX9_parish_177 : decode cX9_parish 177 = .ok (.bipush 38, 2) := by decide +kernel
theorem dX9_parish_179 : decode cX9_parish 179 = .ok (.aload_n 0, 1) := by decide +kernel
theorem dX9_parish_180 : decode cX9_parish 180 = .ok (.getfield 75, 3) := by decide +kernel
theorem dX9_parish_183 : decode cX9_parish 183 = .ok (.iastore, 1) := by decide +kernel
theorem dX9_parish_184 : decode cX9_parish 184 = .ok (.aload_n 0, 1) := by decide +kernel
theorem dX9_parish_185 : decode cX9_parish 185 = .ok (.getfield 75, 3) := by decide +kernel
theorem dX9_parish_188 : decode cX9_parish 188 = .ok (.ireturn, 1) := by decide +kernel
theorem dX9_tellsOf_0 : decode cX9_tellsOf 0 = .ok (.aload_n 0, 1) := by decide +kernel
theorem dX9_tellsOf_1 : decode cX9_tellsOf 1 = .ok (.getfield 9, 3) := by decide +kernel
theorem dX9_tellsOf_4 : decode cX9_tellsOf 4 = .ok (.bipush 38, 2) := by decide +kernel
theorem dX9_tellsOf_6 : decode cX9_tellsOf 6 = .ok (.iaload, 1) := by decide +kernel
theorem dX9_tellsOf_7 : decode cX9_tellsOf 7 = .ok (.iconst (-1), 1) := by decide +kernel
theorem dX9_tellsOf_8 : decode cX9_tellsOf 8 = .ok (.if_icmp .ne 7, 3) := by decide +kernel
theorem dX9_tellsOf_11 : decode cX9_tellsOf 11 = .ok (.iload_n 2, 1) := by decide +kernel
theorem dX9_tellsOf_12 : decode cX9_tellsOf 12 = .ok (.goto 17, 3) := by decide +kernel
theorem dX9_tellsOf_15 : decode cX9_tellsOf 15 = .ok (.aload_n 0, 1) := by decide +kernel
theorem dX9_tellsOf_16 : decode cX9_tellsOf 16 = .ok (.getfield 9, 3) := by decide +kernel
theorem dX9_tellsOf_19 : decode cX9_tellsOf 19 = .ok (.iload_n 1, 1) := by decide +kernel
theorem dX9_tellsOf_20 : decode cX9_tellsOf 20 = .ok (.aload_n 0, 1) := by decide +kernel
theorem dX9_tellsOf_21 : decode cX9_tellsOf 21 = .ok (.getfield 9, 3) := by decide +kernel
theorem dX9_tellsOf_24 : decode cX9_tellsOf 24 = .ok (.bipush 38, 2) := by decide +kernel
theorem dX9_tellsOf_26 : decode cX9_tellsOf 26 = .ok (.iaload, 1) := by decide +kernel
theorem dX9_tellsOf_27 : decode cX9_tellsOf 27 = .ok (.iadd, 1) := by decide +kernel
theorem dX9_tellsOf_28 : decode cX9_tellsOf 28 = .ok (.iaload, 1) := by decide +kernel
theorem dX9_tellsOf_29 : decode cX9_tellsOf 29 = .ok (.ireturn, 1) := by decide +kernel
theorem dX9_driftOf_0 : decode cX9_driftOf 0 = .ok (.aload_n 0, 1) := by decide +kernel
theorem dX9_driftOf_1 : decode cX9_driftOf 1 = .ok (.getfield 21, 3) := by decide +kernel
theorem dX9_driftOf_4 : decode cX9_driftOf 4 = .ok (.iconst 0, 1) := by decide +kernel
theorem dX9_driftOf_5 : decode cX9_driftOf 5 = .ok (.iload_n 1, 1) := by decide +kernel
theorem dX9_driftOf_6 : decode cX9_driftOf 6 = .ok (.iastore, 1) := by decide +kernel
theorem dX9_driftOf_7 : decode cX9_driftOf 7 = .ok (.aload_n 0, 1) := by decide +kernel
theorem dX9_driftOf_8 : decode cX9_driftOf 8 = .ok (.getfield 21, 3) := by decide +kernel
theorem dX9_driftOf_11 : decode cX9_driftOf 11 = .ok (.iconst 1, 1) := by decide +kernel
theorem dX9_driftOf_12 : decode cX9_driftOf 12 = .ok (.aload_n 0, 1) := by decide +kernel
theorem dX9_driftOf_13 : decode cX9_driftOf 13 = .ok (.getfield 9, 3) := by decide +kernel
theorem dX9_driftOf_16 : decode cX9_driftOf 16 = .ok (.bipush 39, 2) := by decide +kernel
theorem dX9_driftOf_18 : decode cX9_driftOf 18 = .ok (.iload_n 1, 1) := by decide +kernel
theorem dX9_driftOf_19 : decode cX9_driftOf 19 = .ok (.iadd, 1) := by decide +kernel
theorem dX9_driftOf_20 : decode cX9_driftOf 20 = .ok (.iaload, 1) := by decide +kernel
theorem dX9_driftOf_21 : decode cX9_driftOf 21 = .ok (.iastore, 1) := by decide +kernel
theorem dX9_driftOf_22 : decode cX9_driftOf 22 = .ok (.aload_n 0, 1) := by decide +kernel
theorem dX9_driftOf_23 : decode cX9_driftOf 23 = .ok (.getfield 21, 3) := by decide +kernel
theorem dX9_driftOf_26 : decode cX9_driftOf 26 = .ok (.iconst 2, 1) := by decide +kernel
theorem dX9_driftOf_27 : decode cX9_driftOf 27 = .ok (.iload_n 2, 1) := by decide +kernel
theorem dX9_driftOf_28 : decode cX9_driftOf 28 = .ok (.iastore, 1) := by decide +kernel
theorem dX9_driftOf_29 : decode cX9_driftOf 29 = .ok (.aload_n 0, 1) := by decide +kernel
theorem dX9_driftOf_30 : decode cX9_driftOf 30 = .ok (.getfield 21, 3) := by decide +kernel
theorem dX9_driftOf_33 : decode cX9_driftOf 33 = .ok (.iconst 3, 1) := by decide +kernel
theorem dX9_driftOf_34 : decode cX9_driftOf 34 = .ok (.iload_n 3, 1) := by decide +kernel
theorem dX9_driftOf_35 : decode cX9_driftOf 35 = .ok (.iastore, 1) := by decide +kernel
theorem dX9_driftOf_36 : decode cX9_driftOf 36 = .ok (.aload_n 0, 1) := by decide +kernel
theorem dX9_driftOf_37 : decode cX9_driftOf 37 = .ok (.getfield 21, 3) := by decide +kernel
theorem dX9_driftOf_40 : decode cX9_driftOf 40 = .ok (.iconst 4, 1) := by decide +kernel
theorem dX9_driftOf_41 : decode cX9_driftOf 41 = .ok (.iload 4, 2) := by decide +kernel
theorem dX9_driftOf_43 : decode cX9_driftOf 43 = .ok (.iastore, 1) := by decide +kernel
theorem dX9_driftOf_44 : decode cX9_driftOf 44 = .ok (.aload_n 0, 1) := by decide +kernel
theorem dX9_driftOf_45 : decode cX9_driftOf 45 = .ok (.getfield 21, 3) := by decide +kernel
theorem dX9_driftOf_48 : decode cX9_driftOf 48 = .ok (.iconst 5, 1) := by decide +kernel
theorem dX9_driftOf_49 : decode cX9_driftOf 49 = .ok (.aload_n 0, 1) := by decide +kernel
theorem dX9_driftOf_50 : decode cX9_driftOf 50 = .ok (.getfield 9, 3) := by decide +kernel
theorem dX9_driftOf_53 : decode cX9_driftOf 53 = .ok (.iconst 0, 1) := by decide +kernel
theorem dX9_driftOf_54 : decode cX9_driftOf 54 = .ok (.iaload, 1) := by decide +kernel
theorem dX9_driftOf_55 : decode cX9_driftOf 55 = .ok (.bipush 10, 2) := by decide +kernel
theorem dX9_driftOf_57 : decode cX9_driftOf 57 = .ok (.irem, 1) := by decide +kernel
theorem dX9_driftOf_58 : decode cX9_driftOf 58 = .ok (.iastore, 1) := by decide +kernel
theorem dX9_driftOf_59 : decode cX9_driftOf 59 = .ok (.iconst 0, 1) := by decide +kernel
theorem dX9_driftOf_60 : decode cX9_driftOf 60 = .ok (.istore 5, 2) := by decide +kernel
theorem dX9_driftOf_62 : decode cX9_driftOf 62 = .ok (.aload_n 0, 1) := by decide +kernel
theorem dX9_driftOf_63 : decode cX9_driftOf 63 = .ok (.sipush 243, 3) := by decide +kernel
theorem dX9_driftOf_66 : decode cX9_driftOf 66 = .ok (.iconst 0, 1) := by decide +kernel
theorem dX9_driftOf_67 : decode cX9_driftOf 67 = .ok (.invokevirtual 124, 3) := by decide +kernel
theorem dX9_driftOf_70 : decode cX9_driftOf 70 = .ok (.istore 6, 2) := by decide +kernel
theorem dX9_driftOf_72 : decode cX9_driftOf 72 = .ok (.sipush 248, 3) := by decide +kernel
theorem dX9_driftOf_75 : decode cX9_driftOf 75 = .ok (.sipush 140, 3) := by decide +kernel
theorem dX9_driftOf_78 : decode cX9_driftOf 78 = .ok (.aload_n 0, 1) := by decide +kernel
theorem dX9_driftOf_79 : decode cX9_driftOf 79 = .ok (.getfield 9, 3) := by decide +kernel
theorem dX9_driftOf_82 : decode cX9_driftOf 82 = .ok (.bipush 38, 2) := by decide +kernel
theorem dX9_driftOf_84 : decode cX9_driftOf 84 = .ok (.iaload, 1) := by decide +kernel
theorem dX9_driftOf_85 : decode cX9_driftOf 85 = .ok (.imul, 1) := by decide +kernel
theorem dX9_driftOf_86 : decode cX9_driftOf 86 = .ok (.iadd, 1) := by decide +kernel
theorem dX9_driftOf_87 : decode cX9_driftOf 87 = .ok (.istore 7, 2) := by decide +kernel
theorem dX9_driftOf_89 : decode cX9_driftOf 89 = .ok (.iconst 0, 1) := by decide +kernel
theorem dX9_driftOf_90 : decode cX9_driftOf 90 = .ok (.istore 8, 2) := by decide +kernel
theorem dX9_driftOf_92 : decode cX9_driftOf 92 = .ok (.iload 7, 2) := by decide +kernel
theorem dX9_driftOf_94 : decode cX9_driftOf 94 = .ok (.istore 9, 2) := by decide +kernel
theorem dX9_driftOf_96 : decode cX9_driftOf 96 = .ok (.iload 9, 2) := by decide +kernel
theorem dX9_driftOf_98 : decode cX9_driftOf 98 = .ok (.iload 7, 2) := by decide +kernel
theorem dX9_driftOf_100 : decode cX9_driftOf 100 = .ok (.iload 6, 2) := by decide +kernel
theorem dX9_driftOf_102 : decode cX9_driftOf 102 = .ok (.iadd, 1) := by decide +kernel
theorem dX9_driftOf_103 : decode cX9_driftOf 103 = .ok (.if_icmp .ge 304, 3) := by decide +kernel
theorem dX9_driftOf_106 : decode cX9_driftOf 106 = .ok (.aload_n 0, 1) := by decide +kernel
theorem dX9_driftOf_107 : decode cX9_driftOf 107 = .ok (.getfield 9, 3) := by decide +kernel
theorem dX9_driftOf_110 : decode cX9_driftOf 110 = .ok (.iload 9, 2) := by decide +kernel
theorem dX9_driftOf_112 : decode cX9_driftOf 112 = .ok (.iaload, 1) := by decide +kernel
theorem dX9_driftOf_113 : decode cX9_driftOf 113 = .ok (.istore 10, 2) := by decide +kernel
theorem dX9_driftOf_115 : decode cX9_driftOf 115 = .ok (.iload 10, 2) := by decide +kernel
theorem dX9_driftOf_117 : decode cX9_driftOf 117 = .ok (.ifCond .lt 97, 3) := by decide +kernel
theorem dX9_driftOf_120 : decode cX9_driftOf 120 = .ok (.aload_n 0, 1) := by decide +kernel
theorem dX9_driftOf_121 : decode cX9_driftOf 121 = .ok (.getfield 21, 3) := by decide +kernel
theorem dX9_driftOf_124 : decode cX9_driftOf 124 = .ok (.iload 10, 2) := by decide +kernel
theorem dX9_driftOf_126 : decode cX9_driftOf 126 = .ok (.bipush 8, 2) := by decide +kernel
theorem dX9_driftOf_128 : decode cX9_driftOf 128 = .ok (.irem, 1) := by decide +kernel
theorem dX9_driftOf_129 : decode cX9_driftOf 129 = .ok (.iaload, 1) := by decide +kernel
theorem dX9_driftOf_130 : decode cX9_driftOf 130 = .ok (.istore 11, 2) := by decide +kernel
theorem dX9_driftOf_132 : decode cX9_driftOf 132 = .ok (.iload 10, 2) := by decide +kernel
theorem dX9_driftOf_134 : decode cX9_driftOf 134 = .ok (.bipush 8, 2) := by decide +kernel
theorem dX9_driftOf_136 : decode cX9_driftOf 136 = .ok (.idiv, 1) := by decide +kernel
theorem dX9_driftOf_137 : decode cX9_driftOf 137 = .ok (.iconst 4, 1) := by decide +kernel
theorem dX9_driftOf_138 : decode cX9_driftOf 138 = .ok (.irem, 1) := by decide +kernel
theorem dX9_driftOf_139 : decode cX9_driftOf 139 = .ok (.istore 12, 2) := by decide +kernel
theorem dX9_driftOf_141 : decode cX9_driftOf 141 = .ok (.iload 10, 2) := by decide +kernel
theorem dX9_driftOf_143 : decode cX9_driftOf 143 = .ok (.bipush 32, 2) := by decide +kernel
theorem dX9_driftOf_145 : decode cX9_driftOf 145 = .ok (.idiv, 1) := by decide +kernel
theorem dX9_driftOf_146 : decode cX9_driftOf 146 = .ok (.istore 13, 2) := by decide +kernel
theorem dX9_driftOf_148 : decode cX9_driftOf 148 = .ok (.aload_n 0, 1) := by decide +kernel
theorem dX9_driftOf_149 : decode cX9_driftOf 149 = .ok (.getfield 24, 3) := by decide +kernel
theorem dX9_driftOf_152 : decode cX9_driftOf 152 = .ok (.iload 8, 2) := by decide +kernel
theorem dX9_driftOf_154 : decode cX9_driftOf 154 = .ok (.iload 12, 2) := by decide +kernel
theorem dX9_driftOf_156 : decode cX9_driftOf 156 = .ok (.ifCond .ne 18, 3) := by decide +kernel
theorem dX9_driftOf_159 : decode cX9_driftOf 159 = .ok (.iload 11, 2) := by decide +kernel
theorem dX9_driftOf_161 : decode cX9_driftOf 161 = .ok (.iload 13, 2) := by decide +kernel
theorem dX9_driftOf_163 : decode cX9_driftOf 163 = .ok (.if_icmp .ge 7, 3) := by decide +kernel
theorem dX9_driftOf_166 : decode cX9_driftOf 166 = .ok (.iconst 1, 1) := by decide +kernel
theorem dX9_driftOf_167 : decode cX9_driftOf 167 = .ok (.goto 40, 3) := by decide +kernel
theorem dX9_driftOf_170 : decode cX9_driftOf 170 = .ok (.iconst 0, 1) := by decide +kernel
theorem dX9_driftOf_171 : decode cX9_driftOf 171 = .ok (.goto 36, 3) := by decide +kernel
theorem dX9_driftOf_174 : decode cX9_driftOf 174 = .ok (.iload 12, 2) := by decide +kernel
theorem dX9_driftOf_176 : decode cX9_driftOf 176 = .ok (.iconst 1, 1) := by decide +kernel
theorem dX9_driftOf_177 : decode cX9_driftOf 177 = .ok (.if_icmp .ne 18, 3) := by decide +kernel
theorem dX9_driftOf_180 : decode cX9_driftOf 180 = .ok (.iload 11, 2) := by decide +kernel
theorem dX9_driftOf_182 : decode cX9_driftOf 182 = .ok (.iload 13, 2) := by decide +kernel
theorem dX9_driftOf_184 : decode cX9_driftOf 184 = .ok (.if_icmp .ne 7, 3) := by decide +kernel
theorem dX9_driftOf_187 : decode cX9_driftOf 187 = .ok (.iconst 1, 1) := by decide +kernel
theorem dX9_driftOf_188 : decode cX9_driftOf 188 = .ok (.goto 19, 3) := by decide +kernel
theorem dX9_driftOf_191 : decode cX9_driftOf 191 = .ok (.iconst 0, 1) := by decide +kernel
theorem dX9_driftOf_192 : decode cX9_driftOf 192 = .ok (.goto 15, 3) := by decide +kernel
theorem dX9_driftOf_195 : decode cX9_driftOf 195 = .ok (.iload 11, 2) := by decide +kernel
theorem dX9_driftOf_197 : decode cX9_driftOf 197 = .ok (.iload 13, 2) := by decide +kernel
theorem dX9_driftOf_199 : decode cX9_driftOf 199 = .ok (.if_icmp .le 7, 3) := by decide +kernel
theorem dX9_driftOf_202 : decode cX9_driftOf 202 = .ok (.iconst 1, 1) := by decide +kernel
theorem dX9_driftOf_203 : decode cX9_driftOf 203 = .ok (.goto 4, 3) := by decide +kernel
theorem dX9_driftOf_206 : decode cX9_driftOf 206 = .ok (.iconst 0, 1) := by decide +kernel
theorem dX9_driftOf_207 : decode cX9_driftOf 207 = .ok (.bastore, 1) := by decide +kernel
theorem dX9_driftOf_208 : decode cX9_driftOf 208 = .ok (.iinc 8 1, 3) := by decide +kernel
theorem dX9_driftOf_211 : decode cX9_driftOf 211 = .ok (.goto 190, 3) := by decide +kernel
theorem dX9_driftOf_214 : decode cX9_driftOf 214 = .ok (.iload 10, 2) := by decide +kernel
theorem dX9_driftOf_216 : decode cX9_driftOf 216 = .ok (.iconst (-1), 1) := by decide +kernel
theorem dX9_driftOf_217 : decode cX9_driftOf 217 = .ok (.if_icmp .ne 32, 3) := by decide +kernel
theorem dX9_driftOf_220 : decode cX9_driftOf 220 = .ok (.aload_n 0, 1) := by decide +kernel
theorem dX9_driftOf_221 : decode cX9_driftOf 221 = .ok (.getfield 24, 3) := by decide +kernel
theorem dX9_driftOf_224 : decode cX9_driftOf 224 = .ok (.iload 8, 2) := by decide +kernel
theorem dX9_driftOf_226 : decode cX9_driftOf 226 = .ok (.iconst 1, 1) := by decide +kernel
theorem dX9_driftOf_227 : decode cX9_driftOf 227 = .ok (.isub, 1) := by decide +kernel
theorem dX9_driftOf_228 : decode cX9_driftOf 228 = .ok (.aload_n 0, 1) := by decide +kernel
theorem dX9_driftOf_229 : decode cX9_driftOf 229 = .ok (.getfield 24, 3) := by decide +kernel
theorem dX9_driftOf_232 : decode cX9_driftOf 232 = .ok (.iload 8, 2) := by decide +kernel
theorem dX9_driftOf_234 : decode cX9_driftOf 234 = .ok (.iconst 1, 1) := by decide +kernel
theorem dX9_driftOf_235 : decode cX9_driftOf 235 = .ok (.isub, 1) := by decide +kernel
theorem dX9_driftOf_236 : decode cX9_driftOf 236 = .ok (.baload, 1) := by decide +kernel
theorem dX9_driftOf_237 : decode cX9_driftOf 237 = .ok (.ifCond .ne 7, 3) := by decide +kernel
theorem dX9_driftOf_240 : decode cX9_driftOf 240 = .ok (.iconst 1, 1) := by decide +kernel
theorem dX9_driftOf_241 : decode cX9_driftOf 241 = .ok (.goto 4, 3) := by decide +kernel
theorem dX9_driftOf_244 : decode cX9_driftOf 244 = .ok (.iconst 0, 1) := by decide +kernel
theorem dX9_driftOf_245 : decode cX9_driftOf 245 = .ok (.bastore, 1) := by decide +kernel
theorem dX9_driftOf_246 : decode cX9_driftOf 246 = .ok (.goto 155, 3) := by decide +kernel
theorem dX9_driftOf_249 : decode cX9_driftOf 249 = .ok (.iload 10, 2) := by decide +kernel
theorem dX9_driftOf_251 : decode cX9_driftOf 251 = .ok (.bipush (-10), 2) := by decide +kernel
theorem dX9_driftOf_253 : decode cX9_driftOf 253 = .ok (.if_icmp .le 82, 3) := by decide +kernel
theorem dX9_driftOf_256 : decode cX9_driftOf 256 = .ok (.iinc 8 (-1), 3) := by decide +kernel
theorem dX9_driftOf_259 : decode cX9_driftOf 259 = .ok (.aload_n 0, 1) := by decide +kernel
theorem dX9_driftOf_260 : decode cX9_driftOf 260 = .ok (.getfield 24, 3) := by decide +kernel
theorem dX9_driftOf_263 : decode cX9_driftOf 263 = .ok (.iload 8, 2) := by decide +kernel
theorem dX9_driftOf_265 : decode cX9_driftOf 265 = .ok (.iconst 1, 1) := by decide +kernel
theorem dX9_driftOf_266 : decode cX9_driftOf 266 = .ok (.isub, 1) := by decide +kernel
theorem dX9_driftOf_267 : decode cX9_driftOf 267 = .ok (.iload 10, 2) := by decide +kernel
theorem dX9_driftOf_269 : decode cX9_driftOf 269 = .ok (.bipush (-2), 2) := by decide +kernel
theorem dX9_driftOf_271 : decode cX9_driftOf 271 = .ok (.if_icmp .ne 33, 3) := by decide +kernel
theorem dX9_driftOf_274 : decode cX9_driftOf 274 = .ok (.aload_n 0, 1) := by decide +kernel
theorem dX9_driftOf_275 : decode cX9_driftOf 275 = .ok (.getfield 24, 3) := by decide +kernel
theorem dX9_driftOf_278 : decode cX9_driftOf 278 = .ok (.iload 8, 2) := by decide +kernel
theorem dX9_driftOf_280 : decode cX9_driftOf 280 = .ok (.iconst 1, 1) := by decide +kernel
theorem dX9_driftOf_281 : decode cX9_driftOf 281 = .ok (.isub, 1) := by decide +kernel
theorem dX9_driftOf_282 : decode cX9_driftOf 282 = .ok (.baload, 1) := by decide +kernel
theorem dX9_driftOf_283 : decode cX9_driftOf 283 = .ok (.ifCond .eq 17, 3) := by decide +kernel
theorem dX9_driftOf_286 : decode cX9_driftOf 286 = .ok (.aload_n 0, 1) := by decide +kernel
theorem dX9_driftOf_287 : decode cX9_driftOf 287 = .ok (.getfield 24, 3) := by decide +kernel
theorem dX9_driftOf_290 : decode cX9_driftOf 290 = .ok (.iload 8, 2) := by decide +kernel
theorem dX9_driftOf_292 : decode cX9_driftOf 292 = .ok (.baload, 1) := by decide +kernel
theorem dX9_driftOf_293 : decode cX9_driftOf 293 = .ok (.ifCond .eq 7, 3) := by decide +kernel
theorem dX9_driftOf_296 : decode cX9_driftOf 296 = .ok (.iconst 1, 1) := by decide +kernel
theorem dX9_driftOf_297 : decode cX9_driftOf 297 = .ok (.goto 34, 3) := by decide +kernel
theorem dX9_driftOf_300 : decode cX9_driftOf 300 = .ok (.iconst 0, 1) := by decide +kernel
theorem dX9_driftOf_301 : decode cX9_driftOf 301 = .ok (.goto 30, 3) := by decide +kernel
theorem dX9_driftOf_304 : decode cX9_driftOf 304 = .ok (.aload_n 0, 1) := by decide +kernel
theorem dX9_driftOf_305 : decode cX9_driftOf 305 = .ok (.getfield 24, 3) := by decide +kernel
theorem dX9_driftOf_308 : decode cX9_driftOf 308 = .ok (.iload 8, 2) := by decide +kernel
theorem dX9_driftOf_310 : decode cX9_driftOf 310 = .ok (.iconst 1, 1) := by decide +kernel
theorem dX9_driftOf_311 : decode cX9_driftOf 311 = .ok (.isub, 1) := by decide +kernel
theorem dX9_driftOf_312 : decode cX9_driftOf 312 = .ok (.baload, 1) := by decide +kernel
theorem dX9_driftOf_313 : decode cX9_driftOf 313 = .ok (.ifCond .ne 13, 3) := by decide +kernel
theorem dX9_driftOf_316 : decode cX9_driftOf 316 = .ok (.aload_n 0, 1) := by decide +kernel
theorem dX9_driftOf_317 : decode cX9_driftOf 317 = .ok (.getfield 24, 3) := by decide +kernel
theorem dX9_driftOf_320 : decode cX9_driftOf 320 = .ok (.iload 8, 2) := by decide +kernel
theorem dX9_driftOf_322 : decode cX9_driftOf 322 = .ok (.baload, 1) := by decide +kernel
theorem dX9_driftOf_323 : decode cX9_driftOf 323 = .ok (.ifCond .eq 7, 3) := by decide +kernel
theorem dX9_driftOf_326 : decode cX9_driftOf 326 = .ok (.iconst 1, 1) := by decide +kernel
theorem dX9_driftOf_327 : decode cX9_driftOf 327 = .ok (.goto 4, 3) := by decide +kernel
theorem dX9_driftOf_330 : decode cX9_driftOf 330 = .ok (.iconst 0, 1) := by decide +kernel
theorem dX9_driftOf_331 : decode cX9_driftOf 331 = .ok (.bastore, 1) := by decide +kernel
theorem dX9_driftOf_332 : decode cX9_driftOf 332 = .ok (.goto 69, 3) := by decide +kernel
theorem dX9_driftOf_335 : decode cX9_driftOf 335 = .ok (.iconst 0, 1) := by decide +kernel
theorem dX9_driftOf_336 : decode cX9_driftOf 336 = .ok (.istore 8, 2) := by decide +kernel
theorem dX9_driftOf_338 : decode cX9_driftOf 338 = .ok (.aload_n 0, 1) := by decide +kernel
theorem dX9_driftOf_339 : decode cX9_driftOf 339 = .ok (.getfield 24, 3) := by decide +kernel
theorem dX9_driftOf_342 : decode cX9_driftOf 342 = .ok (.iconst 0, 1) := by decide +kernel
theorem dX9_driftOf_343 : decode cX9_driftOf 343 = .ok (.baload, 1) := by decide +kernel
theorem dX9_driftOf_344 : decode cX9_driftOf 344 = .ok (.istore 11, 2) := by decide +kernel
theorem dX9_driftOf_346 : decode cX9_driftOf 346 = .ok (.iload 5, 2) := by decide +kernel
theorem dX9_driftOf_348 : decode cX9_driftOf 348 = .ok (.iload 11, 2) := by decide +kernel
theorem dX9_driftOf_350 : decode cX9_driftOf 350 = .ok (.ifCond .eq 19, 3) := by decide +kernel
theorem dX9_driftOf_353 : decode cX9_driftOf 353 = .ok (.iload 10, 2) := by decide +kernel
theorem dX9_driftOf_355 : decode cX9_driftOf 355 = .ok (.sipush (-200), 3) := by decide +kernel
theorem dX9_driftOf_358 : decode cX9_driftOf 358 = .ok (.if_icmp .le 11, 3) := by decide +kernel
theorem dX9_driftOf_361 : decode cX9_driftOf 361 = .ok (.bipush (-10), 2) := by decide +kernel
theorem dX9_driftOf_363 : decode cX9_driftOf 363 = .ok (.iload 10, 2) := by decide +kernel
theorem dX9_driftOf_365 : decode cX9_driftOf 365 = .ok (.isub, 1) := by decide +kernel
theorem dX9_driftOf_366 : decode cX9_driftOf 366 = .ok (.goto 4, 3) := by decide +kernel
theorem dX9_driftOf_369 : decode cX9_driftOf 369 = .ok (.iconst 0, 1) := by decide +kernel
theorem dX9_driftOf_370 : decode cX9_driftOf 370 = .ok (.iadd, 1) := by decide +kernel
theorem dX9_driftOf_371 : decode cX9_driftOf 371 = .ok (.istore 5, 2) := by decide +kernel
theorem dX9_driftOf_373 : decode cX9_driftOf 373 = .ok (.iload 5, 2) := by decide +kernel
theorem dX9_driftOf_375 : decode cX9_driftOf 375 = .ok (.iload 11, 2) := by decide +kernel
theorem dX9_driftOf_377 : decode cX9_driftOf 377 = .ok (.ifCond .eq 20, 3) := by decide +kernel
theorem dX9_driftOf_380 : decode cX9_driftOf 380 = .ok (.iload 10, 2) := by decide +kernel
theorem dX9_driftOf_382 : decode cX9_driftOf 382 = .ok (.sipush (-200), 3) := by decide +kernel
theorem dX9_driftOf_385 : decode cX9_driftOf 385 = .ok (.if_icmp .gt 12, 3) := by decide +kernel
theorem dX9_driftOf_388 : decode cX9_driftOf 388 = .ok (.sipush (-200), 3) := by decide +kernel
theorem dX9_driftOf_391 : decode cX9_driftOf 391 = .ok (.iload 10, 2) := by decide +kernel
theorem dX9_driftOf_393 : decode cX9_driftOf 393 = .ok (.isub, 1) := by decide +kernel
theorem dX9_driftOf_394 : decode cX9_driftOf 394 = .ok (.goto 4, 3) := by decide +kernel
theorem dX9_driftOf_397 : decode cX9_driftOf 397 = .ok (.iconst 0, 1) := by decide +kernel
theorem dX9_driftOf_398 : decode cX9_driftOf 398 = .ok (.isub, 1) := by decide +kernel
theorem dX9_driftOf_399 : decode cX9_driftOf 399 = .ok (.istore 5, 2) := by decide +kernel
theorem dX9_driftOf_401 : decode cX9_driftOf 401 = .ok (.iinc 9 1, 3) := by decide +kernel
theorem dX9_driftOf_404 : decode cX9_driftOf 404 = .ok (.goto (-308), 3) := by decide +kernel
theorem dX9_driftOf_407 : decode cX9_driftOf 407 = .ok (.iload 5, 2) := by decide +kernel
theorem dX9_driftOf_409 : decode cX9_driftOf 409 = .ok (.ireturn, 1) := by decide +kernel
theorem dX9_straysBy_0 : decode cX9_straysBy 0 = .ok (.aload_n 0, 1) := by decide +kernel
theorem dX9_straysBy_1 : decode cX9_straysBy 1 = .ok (.iload_n 1, 1) := by decide +kernel
theorem dX9_straysBy_2 : decode cX9_straysBy 2 = .ok (.iload_n 2, 1) := by decide +kernel
theorem dX9_straysBy_3 : decode cX9_straysBy 3 = .ok (.iload_n 3, 1) := by decide +kernel
theorem dX9_straysBy_4 : decode cX9_straysBy 4 = .ok (.iload 4, 2) := by decide +kernel
theorem dX9_straysBy_6 : decode cX9_straysBy 6 = .ok (.invokevirtual 128, 3) := by decide +kernel
theorem dX9_straysBy_9 : decode cX9_straysBy 9 = .ok (.istore 5, 2) := by decide +kernel
theorem dX9_straysBy_11 : decode cX9_straysBy 11 = .ok (.aload_n 0, 1) := by decide +kernel
theorem dX9_straysBy_12 : decode cX9_straysBy 12 = .ok (.getfield 9, 3) := by decide +kernel
theorem dX9_straysBy_15 : decode cX9_straysBy 15 = .ok (.bipush 45, 2) := by decide +kernel
theorem dX9_straysBy_17 : decode cX9_straysBy 17 = .ok (.iload_n 1, 1) := by decide +kernel
theorem dX9_straysBy_18 : decode cX9_straysBy 18 = .ok (.iadd, 1) := by decide +kernel
theorem dX9_straysBy_19 : decode cX9_straysBy 19 = .ok (.iaload, 1) := by decide +kernel
theorem dX9_straysBy_20 : decode cX9_straysBy 20 = .ok (.istore 6, 2) := by decide +kernel
theorem dX9_straysBy_22 : decode cX9_straysBy 22 = .ok (.aload_n 0, 1) := by decide +kernel
theorem dX9_straysBy_23 : decode cX9_straysBy 23 = .ok (.getfield 9, 3) := by decide +kernel
theorem dX9_straysBy_26 : decode cX9_straysBy 26 = .ok (.bipush 39, 2) := by decide +kernel
theorem dX9_straysBy_28 : decode cX9_straysBy 28 = .ok (.iload_n 1, 1) := by decide +kernel
theorem dX9_straysBy_29 : decode cX9_straysBy 29 = .ok (.iadd, 1) := by decide +kernel
theorem dX9_straysBy_30 : decode cX9_straysBy 30 = .ok (.iaload, 1) := by decide +kernel
theorem dX9_straysBy_31 : decode cX9_straysBy 31 = .ok (.tableswitch 129 1 6 #[37, 42, 48, 62, 70, 97], 37) := by decide +kernel
theorem dX9_straysBy_68 : decode cX9_straysBy 68 = .ok (.iload 5, 2) := by decide +kernel
theorem dX9_straysBy_70 : decode cX9_straysBy 70 = .ok (.iconst 2, 1) := by decide +kernel
theorem dX9_straysBy_71 : decode cX9_straysBy 71 = .ok (.idiv, 1) := by decide +kernel
theorem dX9_straysBy_72 : decode cX9_straysBy 72 = .ok (.ireturn, 1) := by decide +kernel
theorem dX9_straysBy_73 : decode cX9_straysBy 73 = .ok (.iload 5, 2) := by decide +kernel
theorem dX9_straysBy_75 : decode cX9_straysBy 75 = .ok (.iload 4, 2) := by decide +kernel
theorem dX9_straysBy_77 : decode cX9_straysBy 77 = .ok (.iadd, 1) := by decide +kernel
theorem dX9_straysBy_78 : decode cX9_straysBy 78 = .ok (.ireturn, 1) := by decide +kernel
theorem dX9_straysBy_79 : decode cX9_straysBy 79 = .ok (.iload 4, 2) := by decide +kernel
theorem dX9_straysBy_81 : decode cX9_straysBy 81 = .ok (.iload 6, 2) := by decide +kernel
theorem dX9_straysBy_83 : decode cX9_straysBy 83 = .ok (.if_icmp .le 8, 3) := by decide +kernel
theorem dX9_straysBy_86 : decode cX9_straysBy 86 = .ok (.iload 5, 2) := by decide +kernel
theorem dX9_straysBy_88 : decode cX9_straysBy 88 = .ok (.goto 4, 3) := by decide +kernel
theorem dX9_straysBy_91 : decode cX9_straysBy 91 = .ok (.iconst 0, 1) := by decide +kernel
theorem dX9_straysBy_92 : decode cX9_straysBy 92 = .ok (.ireturn, 1) := by decide +kernel
theorem dX9_straysBy_93 : decode cX9_straysBy 93 = .ok (.iload 5, 2) := by decide +kernel
theorem dX9_straysBy_95 : decode cX9_straysBy 95 = .ok (.iconst 2, 1) := by decide +kernel
theorem dX9_straysBy_96 : decode cX9_straysBy 96 = .ok (.idiv, 1) := by decide +kernel
theorem dX9_straysBy_97 : decode cX9_straysBy 97 = .ok (.iload 6, 2) := by decide +kernel
theorem dX9_straysBy_99 : decode cX9_straysBy 99 = .ok (.isub, 1) := by decide +kernel
theorem dX9_straysBy_100 : decode cX9_straysBy 100 = .ok (.ireturn, 1) := by decide +kernel
theorem dX9_straysBy_101 : decode cX9_straysBy 101 = .ok (.aload_n 0, 1) := by decide +kernel
theorem dX9_straysBy_102 : decode cX9_straysBy 102 = .ok (.getfield 9, 3) := by decide +kernel
theorem dX9_straysBy_105 : decode cX9_straysBy 105 = .ok (.iconst 0, 1) := by decide +kernel
theorem dX9_straysBy_106 : decode cX9_straysBy 106 = .ok (.iaload, 1) := by decide +kernel
theorem dX9_straysBy_107 : decode cX9_straysBy 107 = .ok (.iconst 2, 1) := by decide +kernel
theorem dX9_straysBy_108 : decode cX9_straysBy 108 = .ok (.irem, 1) := by decide +kernel
theorem dX9_straysBy_109 : decode cX9_straysBy 109 = .ok (.iconst 1, 1) := by decide +kernel
theorem dX9_straysBy_110 : decode cX9_straysBy 110 = .ok (.if_icmp .ne 12, 3) := by decide +kernel
theorem dX9_straysBy_113 : decode cX9_straysBy 113 = .ok (.iload 5, 2) := by decide +kernel
theorem dX9_straysBy_115 : decode cX9_straysBy 115 = .ok (.iload 4, 2) := by decide +kernel
theorem dX9_straysBy_117 : decode cX9_straysBy 117 = .ok (.iadd, 1) := by decide +kernel
theorem dX9_straysBy_118 : decode cX9_straysBy 118 = .ok (.ineg, 1) := by decide +kernel
theorem dX9_straysBy_119 : decode cX9_straysBy 119 = .ok (.goto 8, 3) := by decide +kernel
theorem dX9_straysBy_122 : decode cX9_straysBy 122 = .ok (.iload 5, 2) := by decide +kernel
theorem dX9_straysBy_124 : decode cX9_straysBy 124 = .ok (.iload 4, 2) := by decide +kernel
theorem dX9_straysBy_126 : decode cX9_straysBy 126 = .ok (.iadd, 1) := by decide +kernel
theorem dX9_straysBy_127 : decode cX9_straysBy 127 = .ok (.ireturn, 1) := by decide +kernel
theorem dX9_straysBy_128 : decode cX9_straysBy 128 = .ok (.iload 4, 2) := by decide +kernel
theorem dX9_straysBy_130 : decode cX9_straysBy 130 = .ok (.iload 6, 2) := by decide +kernel
theorem dX9_straysBy_132 : decode cX9_straysBy 132 = .ok (.if_icmp .le 8, 3) := by decide +kernel
theorem dX9_straysBy_135 : decode cX9_straysBy 135 = .ok (.iload 5, 2) := by decide +kernel
theorem dX9_straysBy_137 : decode cX9_straysBy 137 = .ok (.goto 4, 3) := by decide +kernel
theorem dX9_straysBy_140 : decode cX9_straysBy 140 = .ok (.iconst 0, 1) := by decide +kernel
theorem dX9_straysBy_141 : decode cX9_straysBy 141 = .ok (.aload_n 0, 1) := by decide +kernel
theorem dX9_straysBy_142 : decode cX9_straysBy 142 = .ok (.getfield 9, 3) := by decide +kernel
theorem dX9_straysBy_145 : decode cX9_straysBy 145 = .ok (.bipush 57, 2) := by decide +kernel
theorem dX9_straysBy_147 : decode cX9_straysBy 147 = .ok (.iconst 4, 1) := by decide +kernel
theorem dX9_straysBy_148 : decode cX9_straysBy 148 = .ok (.iload_n 1, 1) := by decide +kernel
theorem dX9_straysBy_149 : decode cX9_straysBy 149 = .ok (.imul, 1) := by decide +kernel
theorem dX9_straysBy_150 : decode cX9_straysBy 150 = .ok (.iadd, 1) := by decide +kernel
theorem dX9_straysBy_151 : decode cX9_straysBy 151 = .ok (.iload_n 2, 1) := by decide +kernel
theorem dX9_straysBy_152 : decode cX9_straysBy 152 = .ok (.iconst 4, 1) := by decide +kernel
theorem dX9_straysBy_153 : decode cX9_straysBy 153 = .ok (.irem, 1) := by decide +kernel
theorem dX9_straysBy_154 : decode cX9_straysBy 154 = .ok (.iadd, 1) := by decide +kernel
theorem dX9_straysBy_155 : decode cX9_straysBy 155 = .ok (.iaload, 1) := by decide +kernel
theorem dX9_straysBy_156 : decode cX9_straysBy 156 = .ok (.iadd, 1) := by decide +kernel
theorem dX9_straysBy_157 : decode cX9_straysBy 157 = .ok (.iconst 4, 1) := by decide +kernel
theorem dX9_straysBy_158 : decode cX9_straysBy 158 = .ok (.isub, 1) := by decide +kernel
theorem dX9_straysBy_159 : decode cX9_straysBy 159 = .ok (.ireturn, 1) := by decide +kernel
theorem dX9_straysBy_160 : decode cX9_straysBy 160 = .ok (.iload 5, 2) := by decide +kernel
theorem dX9_straysBy_162 : decode cX9_straysBy 162 = .ok (.ireturn, 1) := by decide +kernel
theorem dX9_went_0 : decode cX9_went 0 = .ok (.iload_n 1, 1) := by decide +kernel
theorem dX9_went_1 : decode cX9_went 1 = .ok (.ifCond .le 15, 3) := by decide +kernel
theorem dX9_went_4 : decode cX9_went 4 = .ok (.iload_n 0, 1) := by decide +kernel
theorem dX9_went_5 : decode cX9_went 5 = .ok (.bipush 8, 2) := by decide +kernel
theorem dX9_went_7 : decode cX9_went 7 = .ok (.if_icmp .ge 9, 3) := by decide +kernel
theorem dX9_went_10 : decode cX9_went 10 = .ok (.iload_n 0, 1) := by decide +kernel
theorem dX9_went_11 : decode cX9_went 11 = .ok (.iconst 1, 1) := by decide +kernel
theorem dX9_went_12 : decode cX9_went 12 = .ok (.iadd, 1) := by decide +kernel
theorem dX9_went_13 : decode cX9_went 13 = .ok (.goto 18, 3) := by decide +kernel
theorem dX9_went_16 : decode cX9_went 16 = .ok (.iload_n 1, 1) := by decide +kernel
theorem dX9_went_17 : decode cX9_went 17 = .ok (.ifCond .ge 13, 3) := by decide +kernel
theorem dX9_went_20 : decode cX9_went 20 = .ok (.iload_n 0, 1) := by decide +kernel
theorem dX9_went_21 : decode cX9_went 21 = .ok (.ifCond .le 9, 3) := by decide +kernel
theorem dX9_went_24 : decode cX9_went 24 = .ok (.iload_n 0, 1) := by decide +kernel
theorem dX9_went_25 : decode cX9_went 25 = .ok (.iconst 1, 1) := by decide +kernel
theorem dX9_went_26 : decode cX9_went 26 = .ok (.isub, 1) := by decide +kernel
theorem dX9_went_27 : decode cX9_went 27 = .ok (.goto 4, 3) := by decide +kernel
theorem dX9_went_30 : decode cX9_went 30 = .ok (.iload_n 0, 1) := by decide +kernel
theorem dX9_went_31 : decode cX9_went 31 = .ok (.ireturn, 1) := by decide +kernel
theorem dX9_countsLine_0 : decode cX9_countsLine 0 = .ok (.aload_n 0, 1) := by decide +kernel
theorem dX9_countsLine_1 : decode cX9_countsLine 1 = .ok (.iconst 0, 1) := by decide +kernel
theorem dX9_countsLine_2 : decode cX9_countsLine 2 = .ok (.putfield 132, 3) := by decide +kernel
theorem dX9_countsLine_5 : decode cX9_countsLine 5 = .ok (.aload_n 0, 1) := by decide +kernel
theorem dX9_countsLine_6 : decode cX9_countsLine 6 = .ok (.iconst 0, 1) := by decide +kernel
theorem dX9_countsLine_7 : decode cX9_countsLine 7 = .ok (.putfield 135, 3) := by decide +kernel
theorem dX9_countsLine_10 : decode cX9_countsLine 10 = .ok (.iconst 0, 1) := by decide +kernel
theorem dX9_countsLine_11 : decode cX9_countsLine 11 = .ok (.istore_n 1, 1) := by decide +kernel
theorem dX9_countsLine_12 : decode cX9_countsLine 12 = .ok (.iconst 0, 1) := by decide +kernel
theorem dX9_countsLine_13 : decode cX9_countsLine 13 = .ok (.istore_n 2, 1) := by decide +kernel
theorem dX9_countsLine_14 : decode cX9_countsLine 14 = .ok (.iload_n 2, 1) := by decide +kernel
theorem dX9_countsLine_15 : decode cX9_countsLine 15 = .ok (.bipush 12, 2) := by decide +kernel
theorem dX9_countsLine_17 : decode cX9_countsLine 17 = .ok (.if_icmp .ge 73, 3) := by decide +kernel
theorem dX9_countsLine_20 : decode cX9_countsLine 20 = .ok (.aload_n 0, 1) := by decide +kernel
theorem dX9_countsLine_21 : decode cX9_countsLine 21 = .ok (.getfield 28, 3) := by decide +kernel
theorem dX9_countsLine_24 : decode cX9_countsLine 24 = .ok (.iload_n 2, 1) := by decide +kernel
theorem dX9_countsLine_25 : decode cX9_countsLine 25 = .ok (.iconst 1, 1) := by decide +kernel
theorem dX9_countsLine_26 : decode cX9_countsLine 26 = .ok (.iadd, 1) := by decide +kernel
theorem dX9_countsLine_27 : decode cX9_countsLine 27 = .ok (.iaload, 1) := by decide +kernel
theorem dX9_countsLine_28 : decode cX9_countsLine 28 = .ok (.aload_n 0, 1) := by decide +kernel
theorem dX9_countsLine_29 : decode cX9_countsLine 29 = .ok (.getfield 28, 3) := by decide +kernel
theorem dX9_countsLine_32 : decode cX9_countsLine 32 = .ok (.iload_n 2, 1) := by decide +kernel
theorem dX9_countsLine_33 : decode cX9_countsLine 33 = .ok (.iaload, 1) := by decide +kernel
theorem dX9_countsLine_34 : decode cX9_countsLine 34 = .ok (.isub, 1) := by decide +kernel
theorem dX9_countsLine_35 : decode cX9_countsLine 35 = .ok (.istore_n 3, 1) := by decide +kernel
theorem dX9_countsLine_36 : decode cX9_countsLine 36 = .ok (.aload_n 0, 1) := by decide +kernel
theorem dX9_countsLine_37 : decode cX9_countsLine 37 = .ok (.dup, 1) := by decide +kernel
theorem dX9_countsLine_38 : decode cX9_countsLine 38 = .ok (.getfield 132, 3) := by decide +kernel
theorem dX9_countsLine_41 : decode cX9_countsLine 41 = .ok (.iload_n 3, 1) := by decide +kernel
theorem dX9_countsLine_42 : decode cX9_countsLine 42 = .ok (.ifCond .eq 7, 3) := by decide +kernel
theorem dX9_countsLine_45 : decode cX9_countsLine 45 = .ok (.iconst 1, 1) := by decide +kernel
theorem dX9_countsLine_46 : decode cX9_countsLine 46 = .ok (.goto 4, 3) := by decide +kernel
theorem dX9_countsLine_49 : decode cX9_countsLine 49 = .ok (.iconst 0, 1) := by decide +kernel
theorem dX9_countsLine_50 : decode cX9_countsLine 50 = .ok (.iadd, 1) := by decide +kernel
theorem dX9_countsLine_51 : decode cX9_countsLine 51 = .ok (.putfield 132, 3) := by decide +kernel
theorem dX9_countsLine_54 : decode cX9_countsLine 54 = .ok (.aload_n 0, 1) := by decide +kernel
theorem dX9_countsLine_55 : decode cX9_countsLine 55 = .ok (.dup, 1) := by decide +kernel
theorem dX9_countsLine_56 : decode cX9_countsLine 56 = .ok (.getfield 135, 3) := by decide +kernel
theorem dX9_countsLine_59 : decode cX9_countsLine 59 = .ok (.iload_n 3, 1) := by decide +kernel
theorem dX9_countsLine_60 : decode cX9_countsLine 60 = .ok (.iload_n 1, 1) := by decide +kernel
theorem dX9_countsLine_61 : decode cX9_countsLine 61 = .ok (.imul, 1) := by decide +kernel
theorem dX9_countsLine_62 : decode cX9_countsLine 62 = .ok (.ifCond .ge 7, 3) := by decide +kernel
theorem dX9_countsLine_65 : decode cX9_countsLine 65 = .ok (.iconst 1, 1) := by decide +kernel
theorem dX9_countsLine_66 : decode cX9_countsLine 66 = .ok (.goto 4, 3) := by decide +kernel
theorem dX9_countsLine_69 : decode cX9_countsLine 69 = .ok (.iconst 0, 1) := by decide +kernel
theorem dX9_countsLine_70 : decode cX9_countsLine 70 = .ok (.iadd, 1) := by decide +kernel
theorem dX9_countsLine_71 : decode cX9_countsLine 71 = .ok (.putfield 135, 3) := by decide +kernel
theorem dX9_countsLine_74 : decode cX9_countsLine 74 = .ok (.iload_n 3, 1) := by decide +kernel
theorem dX9_countsLine_75 : decode cX9_countsLine 75 = .ok (.ifCond .eq 7, 3) := by decide +kernel
theorem dX9_countsLine_78 : decode cX9_countsLine 78 = .ok (.iload_n 3, 1) := by decide +kernel
theorem dX9_countsLine_79 : decode cX9_countsLine 79 = .ok (.goto 4, 3) := by decide +kernel
theorem dX9_countsLine_82 : decode cX9_countsLine 82 = .ok (.iload_n 1, 1) := by decide +kernel
theorem dX9_countsLine_83 : decode cX9_countsLine 83 = .ok (.istore_n 1, 1) := by decide +kernel
theorem dX9_countsLine_84 : decode cX9_countsLine 84 = .ok (.iinc 2 1, 3) := by decide +kernel
theorem dX9_countsLine_87 : decode cX9_countsLine 87 = .ok (.goto (-73), 3) := by decide +kernel
theorem dX9_countsLine_90 : decode cX9_countsLine 90 = .ok (.return_, 1) := by decide +kernel
theorem dX9_span_0 : decode cX9_span 0 = .ok (.aload_n 0, 1) := by decide +kernel
theorem dX9_span_1 : decode cX9_span 1 = .ok (.getfield 28, 3) := by decide +kernel
theorem dX9_span_4 : decode cX9_span 4 = .ok (.bipush 12, 2) := by decide +kernel
theorem dX9_span_6 : decode cX9_span 6 = .ok (.iaload, 1) := by decide +kernel
theorem dX9_span_7 : decode cX9_span 7 = .ok (.aload_n 0, 1) := by decide +kernel
theorem dX9_span_8 : decode cX9_span 8 = .ok (.getfield 28, 3) := by decide +kernel
theorem dX9_span_11 : decode cX9_span 11 = .ok (.iconst 0, 1) := by decide +kernel
theorem dX9_span_12 : decode cX9_span 12 = .ok (.iaload, 1) := by decide +kernel
theorem dX9_span_13 : decode cX9_span 13 = .ok (.if_icmp .ge 20, 3) := by decide +kernel
theorem dX9_span_16 : decode cX9_span 16 = .ok (.aload_n 0, 1) := by decide +kernel
theorem dX9_span_17 : decode cX9_span 17 = .ok (.getfield 28, 3) := by decide +kernel
theorem dX9_span_20 : decode cX9_span 20 = .ok (.iconst 0, 1) := by decide +kernel
theorem dX9_span_21 : decode cX9_span 21 = .ok (.iaload, 1) := by decide +kernel
theorem dX9_span_22 : decode cX9_span 22 = .ok (.aload_n 0, 1) := by decide +kernel
theorem dX9_span_23 : decode cX9_span 23 = .ok (.getfield 28, 3) := by decide +kernel
theorem dX9_span_26 : decode cX9_span 26 = .ok (.bipush 12, 2) := by decide +kernel
theorem dX9_span_28 : decode cX9_span 28 = .ok (.iaload, 1) := by decide +kernel
theorem dX9_span_29 : decode cX9_span 29 = .ok (.isub, 1) := by decide +kernel
theorem dX9_span_30 : decode cX9_span 30 = .ok (.goto 17, 3) := by decide +kernel
theorem dX9_span_33 : decode cX9_span 33 = .ok (.aload_n 0, 1) := by decide +kernel
theorem dX9_span_34 : decode cX9_span 34 = .ok (.getfield 28, 3) := by decide +kernel
theorem dX9_span_37 : decode cX9_span 37 = .ok (.bipush 12, 2) := by decide +kernel
theorem dX9_span_39 : decode cX9_span 39 = .ok (.iaload, 1) := by decide +kernel
theorem dX9_span_40 : decode cX9_span 40 = .ok (.aload_n 0, 1) := by decide +kernel
theorem dX9_span_41 : decode cX9_span 41 = .ok (.getfield 28, 3) := by decide +kernel
theorem dX9_span_44 : decode cX9_span 44 = .ok (.iconst 0, 1) := by decide +kernel
theorem dX9_span_45 : decode cX9_span 45 = .ok (.iaload, 1) := by decide +kernel
theorem dX9_span_46 : decode cX9_span 46 = .ok (.isub, 1) := by decide +kernel
theorem dX9_span_47 : decode cX9_span 47 = .ok (.ireturn, 1) := by decide +kernel
theorem dX9_scoreFrom_0 : decode cX9_scoreFrom 0 = .ok (.aload_n 0, 1) := by decide +kernel
theorem dX9_scoreFrom_1 : decode cX9_scoreFrom 1 = .ok (.getfield 28, 3) := by decide +kernel
theorem dX9_scoreFrom_4 : decode cX9_scoreFrom 4 = .ok (.iconst 0, 1) := by decide +kernel
theorem dX9_scoreFrom_5 : decode cX9_scoreFrom 5 = .ok (.iload_n 2, 1) := by decide +kernel
theorem dX9_scoreFrom_6 : decode cX9_scoreFrom 6 = .ok (.iastore, 1) := by decide +kernel
theorem dX9_scoreFrom_7 : decode cX9_scoreFrom 7 = .ok (.iconst 0, 1) := by decide +kernel
theorem dX9_scoreFrom_8 : decode cX9_scoreFrom 8 = .ok (.istore_n 3, 1) := by decide +kernel
theorem dX9_scoreFrom_9 : decode cX9_scoreFrom 9 = .ok (.iload_n 3, 1) := by decide +kernel
theorem dX9_scoreFrom_10 : decode cX9_scoreFrom 10 = .ok (.bipush 12, 2) := by decide +kernel
theorem dX9_scoreFrom_12 : decode cX9_scoreFrom 12 = .ok (.if_icmp .ge 47, 3) := by decide +kernel
theorem dX9_scoreFrom_15 : decode cX9_scoreFrom 15 = .ok (.aload_n 0, 1) := by decide +kernel
theorem dX9_scoreFrom_16 : decode cX9_scoreFrom 16 = .ok (.getfield 28, 3) := by decide +kernel
theorem dX9_scoreFrom_19 : decode cX9_scoreFrom 19 = .ok (.iload_n 3, 1) := by decide +kernel
theorem dX9_scoreFrom_20 : decode cX9_scoreFrom 20 = .ok (.iconst 1, 1) := by decide +kernel
theorem dX9_scoreFrom_21 : decode cX9_scoreFrom 21 = .ok (.iadd, 1) := by decide +kernel
theorem dX9_scoreFrom_22 : decode cX9_scoreFrom 22 = .ok (.aload_n 0, 1) := by decide +kernel
theorem dX9_scoreFrom_23 : decode cX9_scoreFrom 23 = .ok (.getfield 28, 3) := by decide +kernel
theorem dX9_scoreFrom_26 : decode cX9_scoreFrom 26 = .ok (.iload_n 3, 1) := by decide +kernel
theorem dX9_scoreFrom_27 : decode cX9_scoreFrom 27 = .ok (.iaload, 1) := by decide +kernel
theorem dX9_scoreFrom_28 : decode cX9_scoreFrom 28 = .ok (.aload_n 0, 1) := by decide +kernel
theorem dX9_scoreFrom_29 : decode cX9_scoreFrom 29 = .ok (.iload_n 1, 1) := by decide +kernel
theorem dX9_scoreFrom_30 : decode cX9_scoreFrom 30 = .ok (.iload_n 3, 1) := by decide +kernel
theorem dX9_scoreFrom_31 : decode cX9_scoreFrom 31 = .ok (.aload_n 0, 1) := by decide +kernel
theorem dX9_scoreFrom_32 : decode cX9_scoreFrom 32 = .ok (.getfield 28, 3) := by decide +kernel
theorem dX9_scoreFrom_35 : decode cX9_scoreFrom 35 = .ok (.iload_n 3, 1) := by decide +kernel
theorem dX9_scoreFrom_36 : decode cX9_scoreFrom 36 = .ok (.iaload, 1) := by decide +kernel
theorem dX9_scoreFrom_37 : decode cX9_scoreFrom 37 = .ok (.aload_n 0, 1) := by decide +kernel
theorem dX9_scoreFrom_38 : decode cX9_scoreFrom 38 = .ok (.getfield 9, 3) := by decide +kernel
theorem dX9_scoreFrom_41 : decode cX9_scoreFrom 41 = .ok (.bipush 19, 2) := by decide +kernel
theorem dX9_scoreFrom_43 : decode cX9_scoreFrom 43 = .ok (.iload_n 3, 1) := by decide +kernel
theorem dX9_scoreFrom_44 : decode cX9_scoreFrom 44 = .ok (.iadd, 1) := by decide +kernel
theorem dX9_scoreFrom_45 : decode cX9_scoreFrom 45 = .ok (.iaload, 1) := by decide +kernel
theorem dX9_scoreFrom_46 : decode cX9_scoreFrom 46 = .ok (.invokevirtual 138, 3) := by decide +kernel
theorem dX9_scoreFrom_49 : decode cX9_scoreFrom 49 = .ok (.invokestatic 141, 3) := by decide +kernel
theorem dX9_scoreFrom_52 : decode cX9_scoreFrom 52 = .ok (.iastore, 1) := by decide +kernel
theorem dX9_scoreFrom_53 : decode cX9_scoreFrom 53 = .ok (.iinc 3 1, 3) := by decide +kernel
theorem dX9_scoreFrom_56 : decode cX9_scoreFrom 56 = .ok (.goto (-47), 3) := by decide +kernel
theorem dX9_scoreFrom_59 : decode cX9_scoreFrom 59 = .ok (.aload_n 0, 1) := by decide +kernel
theorem dX9_scoreFrom_60 : decode cX9_scoreFrom 60 = .ok (.invokevirtual 144, 3) := by decide +kernel
theorem dX9_scoreFrom_63 : decode cX9_scoreFrom 63 = .ok (.bipush 40, 2) := by decide +kernel
theorem dX9_scoreFrom_65 : decode cX9_scoreFrom 65 = .ok (.aload_n 0, 1) := by decide +kernel
theorem dX9_scoreFrom_66 : decode cX9_scoreFrom 66 = .ok (.getfield 132, 3) := by decide +kernel
theorem dX9_scoreFrom_69 : decode cX9_scoreFrom 69 = .ok (.isub, 1) := by decide +kernel
theorem dX9_scoreFrom_70 : decode cX9_scoreFrom 70 = .ok (.iconst 2, 1) := by decide +kernel
theorem dX9_scoreFrom_71 : decode cX9_scoreFrom 71 = .ok (.aload_n 0, 1) := by decide +kernel
theorem dX9_scoreFrom_72 : decode cX9_scoreFrom 72 = .ok (.getfield 135, 3) := by decide +kernel
theorem dX9_scoreFrom_75 : decode cX9_scoreFrom 75 = .ok (.imul, 1) := by decide +kernel
theorem dX9_scoreFrom_76 : decode cX9_scoreFrom 76 = .ok (.isub, 1) := by decide +kernel
theorem dX9_scoreFrom_77 : decode cX9_scoreFrom 77 = .ok (.aload_n 0, 1) := by decide +kernel
theorem dX9_scoreFrom_78 : decode cX9_scoreFrom 78 = .ok (.invokevirtual 147, 3) := by decide +kernel
theorem dX9_scoreFrom_81 : decode cX9_scoreFrom 81 = .ok (.isub, 1) := by decide +kernel
theorem dX9_scoreFrom_82 : decode cX9_scoreFrom 82 = .ok (.ireturn, 1) := by decide +kernel
theorem dX9_scoreOf_0 : decode cX9_scoreOf 0 = .ok (.aload_n 0, 1) := by decide +kernel
theorem dX9_scoreOf_1 : decode cX9_scoreOf 1 = .ok (.iload_n 1, 1) := by decide +kernel
theorem dX9_scoreOf_2 : decode cX9_scoreOf 2 = .ok (.aload_n 0, 1) := by decide +kernel
theorem dX9_scoreOf_3 : decode cX9_scoreOf 3 = .ok (.getfield 9, 3) := by decide +kernel
theorem dX9_scoreOf_6 : decode cX9_scoreOf 6 = .ok (.bipush 51, 2) := by decide +kernel
theorem dX9_scoreOf_8 : decode cX9_scoreOf 8 = .ok (.iload_n 1, 1) := by decide +kernel
theorem dX9_scoreOf_9 : decode cX9_scoreOf 9 = .ok (.iadd, 1) := by decide +kernel
theorem dX9_scoreOf_10 : decode cX9_scoreOf 10 = .ok (.iaload, 1) := by decide +kernel
theorem dX9_scoreOf_11 : decode cX9_scoreOf 11 = .ok (.invokevirtual 150, 3) := by decide +kernel
theorem dX9_scoreOf_14 : decode cX9_scoreOf 14 = .ok (.ireturn, 1) := by decide +kernel
theorem dX9_bestOne_0 : decode cX9_bestOne 0 = .ok (.bipush (-5), 2) := by decide +kernel
theorem dX9_bestOne_2 : decode cX9_bestOne 2 = .ok (.istore_n 1, 1) := by decide +kernel
theorem dX9_bestOne_3 : decode cX9_bestOne 3 = .ok (.ldc 153, 2) := by decide +kernel
theorem dX9_bestOne_5 : decode cX9_bestOne 5 = .ok (.istore_n 2, 1) := by decide +kernel
theorem dX9_bestOne_6 : decode cX9_bestOne 6 = .ok (.iconst 0, 1) := by decide +kernel
theorem dX9_bestOne_7 : decode cX9_bestOne 7 = .ok (.istore_n 3, 1) := by decide +kernel
theorem dX9_bestOne_8 : decode cX9_bestOne 8 = .ok (.iload_n 3, 1) := by decide +kernel
theorem dX9_bestOne_9 : decode cX9_bestOne 9 = .ok (.aload_n 0, 1) := by decide +kernel
theorem dX9_bestOne_10 : decode cX9_bestOne 10 = .ok (.getfield 9, 3) := by decide +kernel
theorem dX9_bestOne_13 : decode cX9_bestOne 13 = .ok (.bipush 31, 2) := by decide +kernel
theorem dX9_bestOne_15 : decode cX9_bestOne 15 = .ok (.iaload, 1) := by decide +kernel
theorem dX9_bestOne_16 : decode cX9_bestOne 16 = .ok (.if_icmp .ge 58, 3) := by decide +kernel
theorem dX9_bestOne_19 : decode cX9_bestOne 19 = .ok (.aload_n 0, 1) := by decide +kernel
theorem dX9_bestOne_20 : decode cX9_bestOne 20 = .ok (.getfield 9, 3) := by decide +kernel
theorem dX9_bestOne_23 : decode cX9_bestOne 23 = .ok (.bipush 7, 2) := by decide +kernel
theorem dX9_bestOne_25 : decode cX9_bestOne 25 = .ok (.iload_n 3, 1) := by decide +kernel
theorem dX9_bestOne_26 : decode cX9_bestOne 26 = .ok (.iadd, 1) := by decide +kernel
theorem dX9_bestOne_27 : decode cX9_bestOne 27 = .ok (.iaload, 1) := by decide +kernel
theorem dX9_bestOne_28 : decode cX9_bestOne 28 = .ok (.ifCond .ne 11, 3) := by decide +kernel
theorem dX9_bestOne_31 : decode cX9_bestOne 31 = .ok (.aload_n 0, 1) := by decide +kernel
theorem dX9_bestOne_32 : decode cX9_bestOne 32 = .ok (.iload_n 3, 1) := by decide +kernel
theorem dX9_bestOne_33 : decode cX9_bestOne 33 = .ok (.invokevirtual 154, 3) := by decide +kernel
theorem dX9_bestOne_36 : decode cX9_bestOne 36 = .ok (.goto 5, 3) := by decide +kernel
theorem dX9_bestOne_39 : decode cX9_bestOne 39 = .ok (.ldc 153, 2) := by decide +kernel
theorem dX9_bestOne_41 : decode cX9_bestOne 41 = .ok (.istore 4, 2) := by decide +kernel
theorem dX9_bestOne_43 : decode cX9_bestOne 43 = .ok (.iload 4, 2) := by decide +kernel
theorem dX9_bestOne_45 : decode cX9_bestOne 45 = .ok (.iload_n 2, 1) := by decide +kernel
theorem dX9_bestOne_46 : decode cX9_bestOne 46 = .ok (.if_icmp .le 7, 3) := by decide +kernel
theorem dX9_bestOne_49 : decode cX9_bestOne 49 = .ok (.iload_n 3, 1) := by decide +kernel
theorem dX9_bestOne_50 : decode cX9_bestOne 50 = .ok (.goto 4, 3) := by decide +kernel
theorem dX9_bestOne_53 : decode cX9_bestOne 53 = .ok (.iload_n 1, 1) := by decide +kernel
theorem dX9_bestOne_54 : decode cX9_bestOne 54 = .ok (.istore_n 1, 1) := by decide +kernel
theorem dX9_bestOne_55 : decode cX9_bestOne 55 = .ok (.iload 4, 2) := by decide +kernel
theorem dX9_bestOne_57 : decode cX9_bestOne 57 = .ok (.iload_n 2, 1) := by decide +kernel
theorem dX9_bestOne_58 : decode cX9_bestOne 58 = .ok (.if_icmp .le 8, 3) := by decide +kernel
theorem dX9_bestOne_61 : decode cX9_bestOne 61 = .ok (.iload 4, 2) := by decide +kernel
theorem dX9_bestOne_63 : decode cX9_bestOne 63 = .ok (.goto 4, 3) := by decide +kernel
theorem dX9_bestOne_66 : decode cX9_bestOne 66 = .ok (.iload_n 2, 1) := by decide +kernel
theorem dX9_bestOne_67 : decode cX9_bestOne 67 = .ok (.istore_n 2, 1) := by decide +kernel
theorem dX9_bestOne_68 : decode cX9_bestOne 68 = .ok (.iinc 3 1, 3) := by decide +kernel
theorem dX9_bestOne_71 : decode cX9_bestOne 71 = .ok (.goto (-63), 3) := by decide +kernel
theorem dX9_bestOne_74 : decode cX9_bestOne 74 = .ok (.iload_n 1, 1) := by decide +kernel
theorem dX9_bestOne_75 : decode cX9_bestOne 75 = .ok (.ireturn, 1) := by decide +kernel
theorem dX9_becomes_0 : decode cX9_becomes 0 = .ok (.aload_n 0, 1) := by decide +kernel
theorem dX9_becomes_1 : decode cX9_becomes 1 = .ok (.getfield 9, 3) := by decide +kernel
theorem dX9_becomes_4 : decode cX9_becomes 4 = .ok (.iload_n 1, 1) := by decide +kernel
theorem dX9_becomes_5 : decode cX9_becomes 5 = .ok (.iaload, 1) := by decide +kernel
theorem dX9_becomes_6 : decode cX9_becomes 6 = .ok (.istore_n 3, 1) := by decide +kernel
theorem dX9_becomes_7 : decode cX9_becomes 7 = .ok (.aload_n 0, 1) := by decide +kernel
theorem dX9_becomes_8 : decode cX9_becomes 8 = .ok (.getfield 9, 3) := by decide +kernel
theorem dX9_becomes_11 : decode cX9_becomes 11 = .ok (.iload_n 1, 1) := by decide +kernel
theorem dX9_becomes_12 : decode cX9_becomes 12 = .ok (.iload_n 2, 1) := by decide +kernel
theorem dX9_becomes_13 : decode cX9_becomes 13 = .ok (.iastore, 1) := by decide +kernel
theorem dX9_becomes_14 : decode cX9_becomes 14 = .ok (.iload_n 3, 1) := by decide +kernel
theorem dX9_becomes_15 : decode cX9_becomes 15 = .ok (.ireturn, 1) := by decide +kernel
theorem dX9_man_0 : decode cX9_man 0 = .ok (.iload_n 1, 1) := by decide +kernel
theorem dX9_man_1 : decode cX9_man 1 = .ok (.iconst 0, 1) := by decide +kernel
theorem dX9_man_2 : decode cX9_man 2 = .ok (.bipush 6, 2) := by decide +kernel
theorem dX9_man_4 : decode cX9_man 4 = .ok (.invokestatic 44, 3) := by decide +kernel
theorem dX9_man_7 : decode cX9_man 7 = .ok (.ifCond .eq 10, 3) := by decide +kernel
theorem dX9_man_10 : decode cX9_man 10 = .ok (.iload_n 3, 1) := by decide +kernel
theorem dX9_man_11 : decode cX9_man 11 = .ok (.invokestatic 158, 3) := by decide +kernel
theorem dX9_man_14 : decode cX9_man 14 = .ok (.ifCond .ne 5, 3) := by decide +kernel
theorem dX9_man_17 : decode cX9_man 17 = .ok (.iconst (-1), 1) := by decide +kernel
theorem dX9_man_18 : decode cX9_man 18 = .ok (.ireturn, 1) := by decide +kernel
theorem dX9_man_19 : decode cX9_man 19 = .ok (.iload_n 2, 1) := by decide +kernel
theorem dX9_man_20 : decode cX9_man 20 = .ok (.iconst 0, 1) := by decide +kernel
theorem dX9_man_21 : decode cX9_man 21 = .ok (.bipush 9, 2) := by decide +kernel
theorem dX9_man_23 : decode cX9_man 23 = .ok (.invokestatic 44, 3) := by decide +kernel
theorem dX9_man_26 : decode cX9_man 26 = .ok (.ifCond .ne 6, 3) := by decide +kernel
theorem dX9_man_29 : decode cX9_man 29 = .ok (.bipush (-2), 2) := by decide +kernel
theorem dX9_man_31 : decode cX9_man 31 = .ok (.ireturn, 1) := by decide +kernel
theorem dX9_man_32 : decode cX9_man 32 = .ok (.aload_n 0, 1) := by decide +kernel
theorem dX9_man_33 : decode cX9_man 33 = .ok (.getfield 9, 3) := by decide +kernel
theorem dX9_man_36 : decode cX9_man 36 = .ok (.bipush 31, 2) := by decide +kernel
theorem dX9_man_38 : decode cX9_man 38 = .ok (.iaload, 1) := by decide +kernel
theorem dX9_man_39 : decode cX9_man 39 = .ok (.bipush 6, 2) := by decide +kernel
theorem dX9_man_41 : decode cX9_man 41 = .ok (.if_icmp .ne 6, 3) := by decide +kernel
theorem dX9_man_44 : decode cX9_man 44 = .ok (.bipush (-4), 2) := by decide +kernel
theorem dX9_man_46 : decode cX9_man 46 = .ok (.ireturn, 1) := by decide +kernel
theorem dX9_man_47 : decode cX9_man 47 = .ok (.aload_n 0, 1) := by decide +kernel
theorem dX9_man_48 : decode cX9_man 48 = .ok (.getfield 9, 3) := by decide +kernel
theorem dX9_man_51 : decode cX9_man 51 = .ok (.bipush 31, 2) := by decide +kernel
theorem dX9_man_53 : decode cX9_man 53 = .ok (.iaload, 1) := by decide +kernel
theorem dX9_man_54 : decode cX9_man 54 = .ok (.istore 4, 2) := by decide +kernel
theorem dX9_man_56 : decode cX9_man 56 = .ok (.aload_n 0, 1) := by decide +kernel
theorem dX9_man_57 : decode cX9_man 57 = .ok (.getfield 9, 3) := by decide +kernel
theorem dX9_man_60 : decode cX9_man 60 = .ok (.bipush 39, 2) := by decide +kernel
theorem dX9_man_62 : decode cX9_man 62 = .ok (.iload 4, 2) := by decide +kernel
theorem dX9_man_64 : decode cX9_man 64 = .ok (.iadd, 1) := by decide +kernel
theorem dX9_man_65 : decode cX9_man 65 = .ok (.iload_n 1, 1) := by decide +kernel
theorem dX9_man_66 : decode cX9_man 66 = .ok (.iastore, 1) := by decide +kernel
theorem dX9_man_67 : decode cX9_man 67 = .ok (.aload_n 0, 1) := by decide +kernel
theorem dX9_man_68 : decode cX9_man 68 = .ok (.getfield 9, 3) := by decide +kernel
theorem dX9_man_71 : decode cX9_man 71 = .ok (.bipush 45, 2) := by decide +kernel
theorem dX9_man_73 : decode cX9_man 73 = .ok (.iload 4, 2) := by decide +kernel
theorem dX9_man_75 : decode cX9_man 75 = .ok (.iadd, 1) := by decide +kernel
theorem dX9_man_76 : decode cX9_man 76 = .ok (.iload_n 2, 1) := by decide +kernel
theorem dX9_man_77 : decode cX9_man 77 = .ok (.iastore, 1) := by decide +kernel
theorem dX9_man_78 : decode cX9_man 78 = .ok (.aload_n 0, 1) := by decide +kernel
theorem dX9_man_79 : decode cX9_man 79 = .ok (.getfield 9, 3) := by decide +kernel
theorem dX9_man_82 : decode cX9_man 82 = .ok (.bipush 51, 2) := by decide +kernel
theorem dX9_man_84 : decode cX9_man 84 = .ok (.iload 4, 2) := by decide +kernel
theorem dX9_man_86 : decode cX9_man 86 = .ok (.iadd, 1) := by decide +kernel
theorem dX9_man_87 : decode cX9_man 87 = .ok (.iload_n 3, 1) := by decide +kernel
theorem dX9_man_88 : decode cX9_man 88 = .ok (.iastore, 1) := by decide +kernel
theorem dX9_man_89 : decode cX9_man 89 = .ok (.aload_n 0, 1) := by decide +kernel
theorem dX9_man_90 : decode cX9_man 90 = .ok (.getfield 9, 3) := by decide +kernel
theorem dX9_man_93 : decode cX9_man 93 = .ok (.bipush 7, 2) := by decide +kernel
theorem dX9_man_95 : decode cX9_man 95 = .ok (.iload 4, 2) := by decide +kernel
theorem dX9_man_97 : decode cX9_man 97 = .ok (.iadd, 1) := by decide +kernel
theorem dX9_man_98 : decode cX9_man 98 = .ok (.iconst 0, 1) := by decide +kernel
theorem dX9_man_99 : decode cX9_man 99 = .ok (.iastore, 1) := by decide +kernel
theorem dX9_man_100 : decode cX9_man 100 = .ok (.aload_n 0, 1) := by decide +kernel
theorem dX9_man_101 : decode cX9_man 101 = .ok (.getfield 9, 3) := by decide +kernel
theorem dX9_man_104 : decode cX9_man 104 = .ok (.bipush 13, 2) := by decide +kernel
theorem dX9_man_106 : decode cX9_man 106 = .ok (.iload 4, 2) := by decide +kernel
theorem dX9_man_108 : decode cX9_man 108 = .ok (.iadd, 1) := by decide +kernel
theorem dX9_man_109 : decode cX9_man 109 = .ok (.iconst 0, 1) := by decide +kernel
theorem dX9_man_110 : decode cX9_man 110 = .ok (.iastore, 1) := by decide +kernel
theorem dX9_man_111 : decode cX9_man 111 = .ok (.aload_n 0, 1) := by decide +kernel
theorem dX9_man_112 : decode cX9_man 112 = .ok (.getfield 9, 3) := by decide +kernel
theorem dX9_man_115 : decode cX9_man 115 = .ok (.iconst 1, 1) := by decide +kernel
theorem dX9_man_116 : decode cX9_man 116 = .ok (.iload 4, 2) := by decide +kernel
theorem dX9_man_118 : decode cX9_man 118 = .ok (.iadd, 1) := by decide +kernel
theorem dX9_man_119 : decode cX9_man 119 = .ok (.iconst 0, 1) := by decide +kernel
theorem dX9_man_120 : decode cX9_man 120 = .ok (.iastore, 1) := by decide +kernel
theorem dX9_man_121 : decode cX9_man 121 = .ok (.iconst 0, 1) := by decide +kernel
theorem dX9_man_122 : decode cX9_man 122 = .ok (.istore 5, 2) := by decide +kernel
theorem dX9_man_124 : decode cX9_man 124 = .ok (.iload 5, 2) := by decide +kernel
theorem dX9_man_126 : decode cX9_man 126 = .ok (.iconst 4, 1) := by decide +kernel
theorem dX9_man_127 : decode cX9_man 127 = .ok (.if_icmp .ge 25, 3) := by decide +kernel
theorem dX9_man_130 : decode cX9_man 130 = .ok (.aload_n 0, 1) := by decide +kernel
theorem dX9_man_131 : decode cX9_man 131 = .ok (.getfield 9, 3) := by decide +kernel
theorem dX9_man_134 : decode cX9_man 134 = .ok (.bipush 57, 2) := by decide +kernel
theorem dX9_man_136 : decode cX9_man 136 = .ok (.iconst 4, 1) := by decide +kernel
theorem dX9_man_137 : decode cX9_man 137 = .ok (.iload 4, 2) := by decide +kernel
theorem dX9_man_139 : decode cX9_man 139 = .ok (.imul, 1) := by decide +kernel
theorem dX9_man_140 : decode cX9_man 140 = .ok (.iadd, 1) := by decide +kernel
theorem dX9_man_141 : decode cX9_man 141 = .ok (.iload 5, 2) := by decide +kernel
theorem dX9_man_143 : decode cX9_man 143 = .ok (.iadd, 1) := by decide +kernel
theorem dX9_man_144 : decode cX9_man 144 = .ok (.iconst 0, 1) := by decide +kernel
theorem dX9_man_145 : decode cX9_man 145 = .ok (.iastore, 1) := by decide +kernel
theorem dX9_man_146 : decode cX9_man 146 = .ok (.iinc 5 1, 3) := by decide +kernel
theorem dX9_man_149 : decode cX9_man 149 = .ok (.goto (-25), 3) := by decide +kernel
theorem dX9_man_152 : decode cX9_man 152 = .ok (.aload_n 0, 1) := by decide +kernel
theorem dX9_man_153 : decode cX9_man 153 = .ok (.getfield 9, 3) := by decide +kernel
theorem dX9_man_156 : decode cX9_man 156 = .ok (.bipush 31, 2) := by decide +kernel
theorem dX9_man_158 : decode cX9_man 158 = .ok (.dup2, 1) := by decide +kernel
theorem dX9_man_159 : decode cX9_man 159 = .ok (.iaload, 1) := by decide +kernel
theorem dX9_man_160 : decode cX9_man 160 = .ok (.iconst 1, 1) := by decide +kernel
theorem dX9_man_161 : decode cX9_man 161 = .ok (.iadd, 1) := by decide +kernel
theorem dX9_man_162 : decode cX9_man 162 = .ok (.iastore, 1) := by decide +kernel
theorem dX9_man_163 : decode cX9_man 163 = .ok (.iload 4, 2) := by decide +kernel
theorem dX9_man_165 : decode cX9_man 165 = .ok (.ireturn, 1) := by decide +kernel
theorem dX9_of_0 : decode cX9_of 0 = .ok (.aload_n 0, 1) := by decide +kernel
theorem dX9_of_1 : decode cX9_of 1 = .ok (.iload_n 1, 1) := by decide +kernel
theorem dX9_of_2 : decode cX9_of 2 = .ok (.invokevirtual 162, 3) := by decide +kernel
theorem dX9_of_5 : decode cX9_of 5 = .ok (.ifCond .ne 6, 3) := by decide +kernel
theorem dX9_of_8 : decode cX9_of 8 = .ok (.ldc 165, 2) := by decide +kernel
theorem dX9_of_10 : decode cX9_of 10 = .ok (.ireturn, 1) := by decide +kernel
theorem dX9_of_11 : decode cX9_of 11 = .ok (.iload_n 2, 1) := by decide +kernel
theorem dX9_of_12 : decode cX9_of 12 = .ok (.tableswitch 109 0 6 #[44, 54, 64, 74, 84, 94, 103], 44) := by decide +kernel
theorem dX9_of_56 : decode cX9_of 56 = .ok (.aload_n 0, 1) := by decide +kernel
theorem dX9_of_57 : decode cX9_of 57 = .ok (.getfield 9, 3) := by decide +kernel
theorem dX9_of_60 : decode cX9_of 60 = .ok (.bipush 39, 2) := by decide +kernel
theorem dX9_of_62 : decode cX9_of 62 = .ok (.iload_n 1, 1) := by decide +kernel
theorem dX9_of_63 : decode cX9_of 63 = .ok (.iadd, 1) := by decide +kernel
theorem dX9_of_64 : decode cX9_of 64 = .ok (.iaload, 1) := by decide +kernel
theorem dX9_of_65 : decode cX9_of 65 = .ok (.ireturn, 1) := by decide +kernel
theorem dX9_of_66 : decode cX9_of 66 = .ok (.aload_n 0, 1) := by decide +kernel
theorem dX9_of_67 : decode cX9_of 67 = .ok (.getfield 9, 3) := by decide +kernel
theorem dX9_of_70 : decode cX9_of 70 = .ok (.bipush 45, 2) := by decide +kernel
theorem dX9_of_72 : decode cX9_of 72 = .ok (.iload_n 1, 1) := by decide +kernel
theorem dX9_of_73 : decode cX9_of 73 = .ok (.iadd, 1) := by decide +kernel
theorem dX9_of_74 : decode cX9_of 74 = .ok (.iaload, 1) := by decide +kernel
theorem dX9_of_75 : decode cX9_of 75 = .ok (.ireturn, 1) := by decide +kernel
theorem dX9_of_76 : decode cX9_of 76 = .ok (.aload_n 0, 1) := by decide +kernel
theorem dX9_of_77 : decode cX9_of 77 = .ok (.getfield 9, 3) := by decide +kernel
theorem dX9_of_80 : decode cX9_of 80 = .ok (.bipush 51, 2) := by decide +kernel
theorem dX9_of_82 : decode cX9_of 82 = .ok (.iload_n 1, 1) := by decide +kernel
theorem dX9_of_83 : decode cX9_of 83 = .ok (.iadd, 1) := by decide +kernel
theorem dX9_of_84 : decode cX9_of 84 = .ok (.iaload, 1) := by decide +kernel
theorem dX9_of_85 : decode cX9_of 85 = .ok (.ireturn, 1) := by decide +kernel
theorem dX9_of_86 : decode cX9_of 86 = .ok (.aload_n 0, 1) := by decide +kernel
theorem dX9_of_87 : decode cX9_of 87 = .ok (.getfield 9, 3) := by decide +kernel
theorem dX9_of_90 : decode cX9_of 90 = .ok (.bipush 7, 2) := by decide +kernel
theorem dX9_of_92 : decode cX9_of 92 = .ok (.iload_n 1, 1) := by decide +kernel
theorem dX9_of_93 : decode cX9_of 93 = .ok (.iadd, 1) := by decide +kernel
theorem dX9_of_94 : decode cX9_of 94 = .ok (.iaload, 1) := by decide +kernel
theorem dX9_of_95 : decode cX9_of 95 = .ok (.ireturn, 1) := by decide +kernel
theorem dX9_of_96 : decode cX9_of 96 = .ok (.aload_n 0, 1) := by decide +kernel
theorem dX9_of_97 : decode cX9_of 97 = .ok (.getfield 9, 3) := by decide +kernel
theorem dX9_of_100 : decode cX9_of 100 = .ok (.bipush 13, 2) := by decide +kernel
theorem dX9_of_102 : decode cX9_of 102 = .ok (.iload_n 1, 1) := by decide +kernel
theorem dX9_of_103 : decode cX9_of 103 = .ok (.iadd, 1) := by decide +kernel
theorem dX9_of_104 : decode cX9_of 104 = .ok (.iaload, 1) := by decide +kernel
theorem dX9_of_105 : decode cX9_of 105 = .ok (.ireturn, 1) := by decide +kernel
theorem dX9_of_106 : decode cX9_of 106 = .ok (.aload_n 0, 1) := by decide +kernel
theorem dX9_of_107 : decode cX9_of 107 = .ok (.getfield 9, 3) := by decide +kernel
theorem dX9_of_110 : decode cX9_of 110 = .ok (.iconst 1, 1) := by decide +kernel
theorem dX9_of_111 : decode cX9_of 111 = .ok (.iload_n 1, 1) := by decide +kernel
theorem dX9_of_112 : decode cX9_of 112 = .ok (.iadd, 1) := by decide +kernel
theorem dX9_of_113 : decode cX9_of 113 = .ok (.iaload, 1) := by decide +kernel
theorem dX9_of_114 : decode cX9_of 114 = .ok (.ireturn, 1) := by decide +kernel
theorem dX9_of_115 : decode cX9_of 115 = .ok (.aload_n 0, 1) := by decide +kernel
theorem dX9_of_116 : decode cX9_of 116 = .ok (.iload_n 1, 1) := by decide +kernel
theorem dX9_of_117 : decode cX9_of 117 = .ok (.invokevirtual 154, 3) := by decide +kernel
theorem dX9_of_120 : decode cX9_of 120 = .ok (.ireturn, 1) := by decide +kernel
theorem dX9_of_121 : decode cX9_of 121 = .ok (.ldc 165, 2) := by decide +kernel
theorem dX9_of_123 : decode cX9_of 123 = .ok (.ireturn, 1) := by decide +kernel
theorem dX9_row_0 : decode cX9_row 0 = .ok (.aload_n 0, 1) := by decide +kernel
theorem dX9_row_1 : decode cX9_row 1 = .ok (.iload_n 1, 1) := by decide +kernel
theorem dX9_row_2 : decode cX9_row 2 = .ok (.invokevirtual 162, 3) := by decide +kernel
theorem dX9_row_5 : decode cX9_row 5 = .ok (.ifCond .eq 12, 3) := by decide +kernel
theorem dX9_row_8 : decode cX9_row 8 = .ok (.iload_n 2, 1) := by decide +kernel
theorem dX9_row_9 : decode cX9_row 9 = .ok (.iconst 0, 1) := by decide +kernel
theorem dX9_row_10 : decode cX9_row 10 = .ok (.iconst 3, 1) := by decide +kernel
theorem dX9_row_11 : decode cX9_row 11 = .ok (.invokestatic 44, 3) := by decide +kernel
theorem dX9_row_14 : decode cX9_row 14 = .ok (.ifCond .ne 5, 3) := by decide +kernel
theorem dX9_row_17 : decode cX9_row 17 = .ok (.iconst (-1), 1) := by decide +kernel
theorem dX9_row_18 : decode cX9_row 18 = .ok (.ireturn, 1) := by decide +kernel
theorem dX9_row_19 : decode cX9_row 19 = .ok (.iload_n 3, 1) := by decide +kernel
theorem dX9_row_20 : decode cX9_row 20 = .ok (.iconst 0, 1) := by decide +kernel
theorem dX9_row_21 : decode cX9_row 21 = .ok (.bipush 9, 2) := by decide +kernel
theorem dX9_row_23 : decode cX9_row 23 = .ok (.invokestatic 44, 3) := by decide +kernel
theorem dX9_row_26 : decode cX9_row 26 = .ok (.ifCond .ne 6, 3) := by decide +kernel
theorem dX9_row_29 : decode cX9_row 29 = .ok (.bipush (-2), 2) := by decide +kernel
theorem dX9_row_31 : decode cX9_row 31 = .ok (.ireturn, 1) := by decide +kernel
theorem dX9_row_32 : decode cX9_row 32 = .ok (.aload_n 0, 1) := by decide +kernel
theorem dX9_row_33 : decode cX9_row 33 = .ok (.getfield 9, 3) := by decide +kernel
theorem dX9_row_36 : decode cX9_row 36 = .ok (.bipush 39, 2) := by decide +kernel
theorem dX9_row_38 : decode cX9_row 38 = .ok (.iload_n 1, 1) := by decide +kernel
theorem dX9_row_39 : decode cX9_row 39 = .ok (.iadd, 1) := by decide +kernel
theorem dX9_row_40 : decode cX9_row 40 = .ok (.iaload, 1) := by decide +kernel
theorem dX9_row_41 : decode cX9_row 41 = .ok (.bipush 6, 2) := by decide +kernel
theorem dX9_row_43 : decode cX9_row 43 = .ok (.if_icmp .ne 19, 3) := by decide +kernel
theorem dX9_row_46 : decode cX9_row 46 = .ok (.aload_n 0, 1) := by decide +kernel
theorem dX9_row_47 : decode cX9_row 47 = .ok (.bipush 57, 2) := by decide +kernel
theorem dX9_row_49 : decode cX9_row 49 = .ok (.iconst 4, 1) := by decide +kernel
theorem dX9_row_50 : decode cX9_row 50 = .ok (.iload_n 1, 1) := by decide +kernel
theorem dX9_row_51 : decode cX9_row 51 = .ok (.imul, 1) := by decide +kernel
theorem dX9_row_52 : decode cX9_row 52 = .ok (.iadd, 1) := by decide +kernel
theorem dX9_row_53 : decode cX9_row 53 = .ok (.iload_n 2, 1) := by decide +kernel
theorem dX9_row_54 : decode cX9_row 54 = .ok (.iadd, 1) := by decide +kernel
theorem dX9_row_55 : decode cX9_row 55 = .ok (.iload_n 3, 1) := by decide +kernel
theorem dX9_row_56 : decode cX9_row 56 = .ok (.invokevirtual 166, 3) := by decide +kernel
theorem dX9_row_59 : decode cX9_row 59 = .ok (.goto 5, 3) := by decide +kernel
theorem dX9_row_62 : decode cX9_row 62 = .ok (.bipush (-3), 2) := by decide +kernel
theorem dX9_row_64 : decode cX9_row 64 = .ok (.ireturn, 1) := by decide +kernel
theorem dX9_peg_0 : decode cX9_peg 0 = .ok (.aload_n 0, 1) := by decide +kernel
theorem dX9_peg_1 : decode cX9_peg 1 = .ok (.iload_n 1, 1) := by decide +kernel
theorem dX9_peg_2 : decode cX9_peg 2 = .ok (.invokevirtual 162, 3) := by decide +kernel
theorem dX9_peg_5 : decode cX9_peg 5 = .ok (.ifCond .eq 22, 3) := by decide +kernel
theorem dX9_peg_8 : decode cX9_peg 8 = .ok (.iload_n 2, 1) := by decide +kernel
theorem dX9_peg_9 : decode cX9_peg 9 = .ok (.invokestatic 158, 3) := by decide +kernel
theorem dX9_peg_12 : decode cX9_peg 12 = .ok (.ifCond .eq 15, 3) := by decide +kernel
theorem dX9_peg_15 : decode cX9_peg 15 = .ok (.aload_n 0, 1) := by decide +kernel
theorem dX9_peg_16 : decode cX9_peg 16 = .ok (.bipush 51, 2) := by decide +kernel
theorem dX9_peg_18 : decode cX9_peg 18 = .ok (.iload_n 1, 1) := by decide +kernel
theorem dX9_peg_19 : decode cX9_peg 19 = .ok (.iadd, 1) := by decide +kernel
theorem dX9_peg_20 : decode cX9_peg 20 = .ok (.iload_n 2, 1) := by decide +kernel
theorem dX9_peg_21 : decode cX9_peg 21 = .ok (.invokevirtual 166, 3) := by decide +kernel
theorem dX9_peg_24 : decode cX9_peg 24 = .ok (.goto 4, 3) := by decide +kernel
theorem dX9_peg_27 : decode cX9_peg 27 = .ok (.iconst (-1), 1) := by decide +kernel
theorem dX9_peg_28 : decode cX9_peg 28 = .ok (.ireturn, 1) := by decide +kernel
theorem dX9_away_0 : decode cX9_away 0 = .ok (.aload_n 0, 1) := by decide +kernel
theorem dX9_away_1 : decode cX9_away 1 = .ok (.iload_n 1, 1) := by decide +kernel
theorem dX9_away_2 : decode cX9_away 2 = .ok (.invokevirtual 162, 3) := by decide +kernel
theorem dX9_away_5 : decode cX9_away 5 = .ok (.ifCond .eq 23, 3) := by decide +kernel
theorem dX9_away_8 : decode cX9_away 8 = .ok (.aload_n 0, 1) := by decide +kernel
theorem dX9_away_9 : decode cX9_away 9 = .ok (.bipush 7, 2) := by decide +kernel
theorem dX9_away_11 : decode cX9_away 11 = .ok (.iload_n 1, 1) := by decide +kernel
theorem dX9_away_12 : decode cX9_away 12 = .ok (.iadd, 1) := by decide +kernel
theorem dX9_away_13 : decode cX9_away 13 = .ok (.iload_n 2, 1) := by decide +kernel
theorem dX9_away_14 : decode cX9_away 14 = .ok (.ifCond .eq 7, 3) := by decide +kernel
theorem dX9_away_17 : decode cX9_away 17 = .ok (.iconst 1, 1) := by decide +kernel
theorem dX9_away_18 : decode cX9_away 18 = .ok (.goto 4, 3) := by decide +kernel
theorem dX9_away_21 : decode cX9_away 21 = .ok (.iconst 0, 1) := by decide +kernel
theorem dX9_away_22 : decode cX9_away 22 = .ok (.invokevirtual 166, 3) := by decide +kernel
theorem dX9_away_25 : decode cX9_away 25 = .ok (.goto 4, 3) := by decide +kernel
theorem dX9_away_28 : decode cX9_away 28 = .ok (.iconst (-1), 1) := by decide +kernel
theorem dX9_away_29 : decode cX9_away 29 = .ok (.ireturn, 1) := by decide +kernel
theorem dX9_lay_0 : decode cX9_lay 0 = .ok (.iload_n 1, 1) := by decide +kernel
theorem dX9_lay_1 : decode cX9_lay 1 = .ok (.invokestatic 169, 3) := by decide +kernel
theorem dX9_lay_4 : decode cX9_lay 4 = .ok (.ifCond .ne 5, 3) := by decide +kernel
theorem dX9_lay_7 : decode cX9_lay 7 = .ok (.iconst (-1), 1) := by decide +kernel
theorem dX9_lay_8 : decode cX9_lay 8 = .ok (.ireturn, 1) := by decide +kernel
theorem dX9_lay_9 : decode cX9_lay 9 = .ok (.iload_n 2, 1) := by decide +kernel
theorem dX9_lay_10 : decode cX9_lay 10 = .ok (.iconst 0, 1) := by decide +kernel
theorem dX9_lay_11 : decode cX9_lay 11 = .ok (.bipush 9, 2) := by decide +kernel
theorem dX9_lay_13 : decode cX9_lay 13 = .ok (.invokestatic 44, 3) := by decide +kernel
theorem dX9_lay_16 : decode cX9_lay 16 = .ok (.ifCond .eq 15, 3) := by decide +kernel
theorem dX9_lay_19 : decode cX9_lay 19 = .ok (.aload_n 0, 1) := by decide +kernel
theorem dX9_lay_20 : decode cX9_lay 20 = .ok (.bipush 19, 2) := by decide +kernel
theorem dX9_lay_22 : decode cX9_lay 22 = .ok (.iload_n 1, 1) := by decide +kernel
theorem dX9_lay_23 : decode cX9_lay 23 = .ok (.iadd, 1) := by decide +kernel
theorem dX9_lay_24 : decode cX9_lay 24 = .ok (.iload_n 2, 1) := by decide +kernel
theorem dX9_lay_25 : decode cX9_lay 25 = .ok (.invokevirtual 166, 3) := by decide +kernel
theorem dX9_lay_28 : decode cX9_lay 28 = .ok (.goto 5, 3) := by decide +kernel
theorem dX9_lay_31 : decode cX9_lay 31 = .ok (.bipush (-2), 2) := by decide +kernel
theorem dX9_lay_33 : decode cX9_lay 33 = .ok (.ireturn, 1) := by decide +kernel
theorem dX9_plead_0 : decode cX9_plead 0 = .ok (.aload_n 0, 1) := by decide +kernel
theorem dX9_plead_1 : decode cX9_plead 1 = .ok (.iload_n 1, 1) := by decide +kernel
theorem dX9_plead_2 : decode cX9_plead 2 = .ok (.invokevirtual 162, 3) := by decide +kernel
theorem dX9_plead_5 : decode cX9_plead 5 = .ok (.ifCond .eq 11, 3) := by decide +kernel
theorem dX9_plead_8 : decode cX9_plead 8 = .ok (.aload_n 0, 1) := by decide +kernel
theorem dX9_plead_9 : decode cX9_plead 9 = .ok (.iload_n 2, 1) := by decide +kernel
theorem dX9_plead_10 : decode cX9_plead 10 = .ok (.invokevirtual 162, 3) := by decide +kernel
theorem dX9_plead_13 : decode cX9_plead 13 = .ok (.ifCond .ne 5, 3) := by decide +kernel
theorem dX9_plead_16 : decode cX9_plead 16 = .ok (.iconst (-1), 1) := by decide +kernel
theorem dX9_plead_17 : decode cX9_plead 17 = .ok (.ireturn, 1) := by decide +kernel
theorem dX9_plead_18 : decode cX9_plead 18 = .ok (.iload_n 1, 1) := by decide +kernel
theorem dX9_plead_19 : decode cX9_plead 19 = .ok (.iload_n 2, 1) := by decide +kernel
theorem dX9_plead_20 : decode cX9_plead 20 = .ok (.if_icmp .ne 6, 3) := by decide +kernel
theorem dX9_plead_23 : decode cX9_plead 23 = .ok (.bipush (-2), 2) := by decide +kernel
theorem dX9_plead_25 : decode cX9_plead 25 = .ok (.ireturn, 1) := by decide +kernel
theorem dX9_plead_26 : decode cX9_plead 26 = .ok (.aload_n 0, 1) := by decide +kernel
theorem dX9_plead_27 : decode cX9_plead 27 = .ok (.getfield 9, 3) := by decide +kernel
theorem dX9_plead_30 : decode cX9_plead 30 = .ok (.bipush 33, 2) := by decide +kernel
theorem dX9_plead_32 : decode cX9_plead 32 = .ok (.iaload, 1) := by decide +kernel
theorem dX9_plead_33 : decode cX9_plead 33 = .ok (.iconst 5, 1) := by decide +kernel
theorem dX9_plead_34 : decode cX9_plead 34 = .ok (.if_icmp .ne 6, 3) := by decide +kernel
theorem dX9_plead_37 : decode cX9_plead 37 = .ok (.bipush (-4), 2) := by decide +kernel
theorem dX9_plead_39 : decode cX9_plead 39 = .ok (.ireturn, 1) := by decide +kernel
theorem dX9_plead_40 : decode cX9_plead 40 = .ok (.aload_n 0, 1) := by decide +kernel
theorem dX9_plead_41 : decode cX9_plead 41 = .ok (.getfield 9, 3) := by decide +kernel
theorem dX9_plead_44 : decode cX9_plead 44 = .ok (.bipush 81, 2) := by decide +kernel
theorem dX9_plead_46 : decode cX9_plead 46 = .ok (.aload_n 0, 1) := by decide +kernel
theorem dX9_plead_47 : decode cX9_plead 47 = .ok (.getfield 9, 3) := by decide +kernel
theorem dX9_plead_50 : decode cX9_plead 50 = .ok (.bipush 33, 2) := by decide +kernel
theorem dX9_plead_52 : decode cX9_plead 52 = .ok (.iaload, 1) := by decide +kernel
theorem dX9_plead_53 : decode cX9_plead 53 = .ok (.iadd, 1) := by decide +kernel
theorem dX9_plead_54 : decode cX9_plead 54 = .ok (.iload_n 1, 1) := by decide +kernel
theorem dX9_plead_55 : decode cX9_plead 55 = .ok (.iastore, 1) := by decide +kernel
theorem dX9_plead_56 : decode cX9_plead 56 = .ok (.aload_n 0, 1) := by decide +kernel
theorem dX9_plead_57 : decode cX9_plead 57 = .ok (.getfield 9, 3) := by decide +kernel
theorem dX9_plead_60 : decode cX9_plead 60 = .ok (.bipush 86, 2) := by decide +kernel
theorem dX9_plead_62 : decode cX9_plead 62 = .ok (.aload_n 0, 1) := by decide +kernel
theorem dX9_plead_63 : decode cX9_plead 63 = .ok (.getfield 9, 3) := by decide +kernel
theorem dX9_plead_66 : decode cX9_plead 66 = .ok (.bipush 33, 2) := by decide +kernel
theorem dX9_plead_68 : decode cX9_plead 68 = .ok (.iaload, 1) := by decide +kernel
theorem dX9_plead_69 : decode cX9_plead 69 = .ok (.iadd, 1) := by decide +kernel
theorem dX9_plead_70 : decode cX9_plead 70 = .ok (.iload_n 2, 1) := by decide +kernel
theorem dX9_plead_71 : decode cX9_plead 71 = .ok (.iastore, 1) := by decide +kernel
theorem dX9_plead_72 : decode cX9_plead 72 = .ok (.aload_n 0, 1) := by decide +kernel
theorem dX9_plead_73 : decode cX9_plead 73 = .ok (.getfield 9, 3) := by decide +kernel
theorem dX9_plead_76 : decode cX9_plead 76 = .ok (.bipush 33, 2) := by decide +kernel
theorem dX9_plead_78 : decode cX9_plead 78 = .ok (.dup2, 1) := by decide +kernel
theorem dX9_plead_79 : decode cX9_plead 79 = .ok (.iaload, 1) := by decide +kernel
theorem dX9_plead_80 : decode cX9_plead 80 = .ok (.iconst 1, 1) := by decide +kernel
theorem dX9_plead_81 : decode cX9_plead 81 = .ok (.iadd, 1) := by decide +kernel
theorem dX9_plead_82 : decode cX9_plead 82 = .ok (.iastore, 1) := by decide +kernel
theorem dX9_plead_83 : decode cX9_plead 83 = .ok (.aload_n 0, 1) := by decide +kernel
theorem dX9_plead_84 : decode cX9_plead 84 = .ok (.getfield 9, 3) := by decide +kernel
theorem dX9_plead_87 : decode cX9_plead 87 = .ok (.bipush 33, 2) := by decide +kernel
theorem dX9_plead_89 : decode cX9_plead 89 = .ok (.iaload, 1) := by decide +kernel
theorem dX9_plead_90 : decode cX9_plead 90 = .ok (.iconst 1, 1) := by decide +kernel
theorem dX9_plead_91 : decode cX9_plead 91 = .ok (.isub, 1) := by decide +kernel
theorem dX9_plead_92 : decode cX9_plead 92 = .ok (.ireturn, 1) := by decide +kernel
theorem dX9_decided_0 : decode cX9_decided 0 = .ok (.aload_n 0, 1) := by decide +kernel
theorem dX9_decided_1 : decode cX9_decided 1 = .ok (.getfield 9, 3) := by decide +kernel
theorem dX9_decided_4 : decode cX9_decided 4 = .ok (.iconst 1, 1) := by decide +kernel
theorem dX9_decided_5 : decode cX9_decided 5 = .ok (.aload_n 0, 1) := by decide +kernel
theorem dX9_decided_6 : decode cX9_decided 6 = .ok (.getfield 9, 3) := by decide +kernel
theorem dX9_decided_9 : decode cX9_decided 9 = .ok (.bipush 81, 2) := by decide +kernel
theorem dX9_decided_11 : decode cX9_decided 11 = .ok (.iload_n 1, 1) := by decide +kernel
theorem dX9_decided_12 : decode cX9_decided 12 = .ok (.iadd, 1) := by decide +kernel
theorem dX9_decided_13 : decode cX9_decided 13 = .ok (.iaload, 1) := by decide +kernel
theorem dX9_decided_14 : decode cX9_decided 14 = .ok (.iadd, 1) := by decide +kernel
theorem dX9_decided_15 : decode cX9_decided 15 = .ok (.iaload, 1) := by decide +kernel
theorem dX9_decided_16 : decode cX9_decided 16 = .ok (.istore_n 2, 1) := by decide +kernel
theorem dX9_decided_17 : decode cX9_decided 17 = .ok (.aload_n 0, 1) := by decide +kernel
theorem dX9_decided_18 : decode cX9_decided 18 = .ok (.getfield 9, 3) := by decide +kernel
theorem dX9_decided_21 : decode cX9_decided 21 = .ok (.iconst 1, 1) := by decide +kernel
theorem dX9_decided_22 : decode cX9_decided 22 = .ok (.aload_n 0, 1) := by decide +kernel
theorem dX9_decided_23 : decode cX9_decided 23 = .ok (.getfield 9, 3) := by decide +kernel
theorem dX9_decided_26 : decode cX9_decided 26 = .ok (.bipush 86, 2) := by decide +kernel
theorem dX9_decided_28 : decode cX9_decided 28 = .ok (.iload_n 1, 1) := by decide +kernel
theorem dX9_decided_29 : decode cX9_decided 29 = .ok (.iadd, 1) := by decide +kernel
theorem dX9_decided_30 : decode cX9_decided 30 = .ok (.iaload, 1) := by decide +kernel
theorem dX9_decided_31 : decode cX9_decided 31 = .ok (.iadd, 1) := by decide +kernel
theorem dX9_decided_32 : decode cX9_decided 32 = .ok (.iaload, 1) := by decide +kernel
theorem dX9_decided_33 : decode cX9_decided 33 = .ok (.istore_n 3, 1) := by decide +kernel
theorem dX9_decided_34 : decode cX9_decided 34 = .ok (.iload_n 2, 1) := by decide +kernel
theorem dX9_decided_35 : decode cX9_decided 35 = .ok (.iload_n 3, 1) := by decide +kernel
theorem dX9_decided_36 : decode cX9_decided 36 = .ok (.if_icmp .le 15, 3) := by decide +kernel
theorem dX9_decided_39 : decode cX9_decided 39 = .ok (.aload_n 0, 1) := by decide +kernel
theorem dX9_decided_40 : decode cX9_decided 40 = .ok (.getfield 9, 3) := by decide +kernel
theorem dX9_decided_43 : decode cX9_decided 43 = .ok (.bipush 81, 2) := by decide +kernel
theorem dX9_decided_45 : decode cX9_decided 45 = .ok (.iload_n 1, 1) := by decide +kernel
theorem dX9_decided_46 : decode cX9_decided 46 = .ok (.iadd, 1) := by decide +kernel
theorem dX9_decided_47 : decode cX9_decided 47 = .ok (.iaload, 1) := by decide +kernel
theorem dX9_decided_48 : decode cX9_decided 48 = .ok (.goto 22, 3) := by decide +kernel
theorem dX9_decided_51 : decode cX9_decided 51 = .ok (.iload_n 3, 1) := by decide +kernel
theorem dX9_decided_52 : decode cX9_decided 52 = .ok (.iload_n 2, 1) := by decide +kernel
theorem dX9_decided_53 : decode cX9_decided 53 = .ok (.if_icmp .le 15, 3) := by decide +kernel
theorem dX9_decided_56 : decode cX9_decided 56 = .ok (.aload_n 0, 1) := by decide +kernel
theorem dX9_decided_57 : decode cX9_decided 57 = .ok (.getfield 9, 3) := by decide +kernel
theorem dX9_decided_60 : decode cX9_decided 60 = .ok (.bipush 86, 2) := by decide +kernel
theorem dX9_decided_62 : decode cX9_decided 62 = .ok (.iload_n 1, 1) := by decide +kernel
theorem dX9_decided_63 : decode cX9_decided 63 = .ok (.iadd, 1) := by decide +kernel
theorem dX9_decided_64 : decode cX9_decided 64 = .ok (.iaload, 1) := by decide +kernel
theorem dX9_decided_65 : decode cX9_decided 65 = .ok (.goto 5, 3) := by decide +kernel
theorem dX9_decided_68 : decode cX9_decided 68 = .ok (.bipush (-5), 2) := by decide +kernel
theorem dX9_decided_70 : decode cX9_decided 70 = .ok (.ireturn, 1) := by decide +kernel
theorem dX9_bitsOf_0 : decode cX9_bitsOf 0 = .ok (.iconst 0, 1) := by decide +kernel
theorem dX9_bitsOf_1 : decode cX9_bitsOf 1 = .ok (.istore_n 2, 1) := by decide +kernel
theorem dX9_bitsOf_2 : decode cX9_bitsOf 2 = .ok (.iconst 0, 1) := by decide +kernel
theorem dX9_bitsOf_3 : decode cX9_bitsOf 3 = .ok (.istore_n 3, 1) := by decide +kernel
theorem dX9_bitsOf_4 : decode cX9_bitsOf 4 = .ok (.iload_n 3, 1) := by decide +kernel
theorem dX9_bitsOf_5 : decode cX9_bitsOf 5 = .ok (.aload_n 0, 1) := by decide +kernel
theorem dX9_bitsOf_6 : decode cX9_bitsOf 6 = .ok (.getfield 9, 3) := by decide +kernel
theorem dX9_bitsOf_9 : decode cX9_bitsOf 9 = .ok (.bipush 31, 2) := by decide +kernel
theorem dX9_bitsOf_11 : decode cX9_bitsOf 11 = .ok (.iaload, 1) := by decide +kernel
theorem dX9_bitsOf_12 : decode cX9_bitsOf 12 = .ok (.if_icmp .ge 22, 3) := by decide +kernel
theorem dX9_bitsOf_15 : decode cX9_bitsOf 15 = .ok (.iload_n 2, 1) := by decide +kernel
theorem dX9_bitsOf_16 : decode cX9_bitsOf 16 = .ok (.aload_n 0, 1) := by decide +kernel
theorem dX9_bitsOf_17 : decode cX9_bitsOf 17 = .ok (.getfield 9, 3) := by decide +kernel
theorem dX9_bitsOf_20 : decode cX9_bitsOf 20 = .ok (.iload_n 1, 1) := by decide +kernel
theorem dX9_bitsOf_21 : decode cX9_bitsOf 21 = .ok (.iload_n 3, 1) := by decide +kernel
theorem dX9_bitsOf_22 : decode cX9_bitsOf 22 = .ok (.iadd, 1) := by decide +kernel
theorem dX9_bitsOf_23 : decode cX9_bitsOf 23 = .ok (.iaload, 1) := by decide +kernel
theorem dX9_bitsOf_24 : decode cX9_bitsOf 24 = .ok (.iload_n 3, 1) := by decide +kernel
theorem dX9_bitsOf_25 : decode cX9_bitsOf 25 = .ok (.ishl, 1) := by decide +kernel
theorem dX9_bitsOf_26 : decode cX9_bitsOf 26 = .ok (.ior, 1) := by decide +kernel
theorem dX9_bitsOf_27 : decode cX9_bitsOf 27 = .ok (.istore_n 2, 1) := by decide +kernel
theorem dX9_bitsOf_28 : decode cX9_bitsOf 28 = .ok (.iinc 3 1, 3) := by decide +kernel
theorem dX9_bitsOf_31 : decode cX9_bitsOf 31 = .ok (.goto (-27), 3) := by decide +kernel
theorem dX9_bitsOf_34 : decode cX9_bitsOf 34 = .ok (.iload_n 2, 1) := by decide +kernel
theorem dX9_bitsOf_35 : decode cX9_bitsOf 35 = .ok (.ireturn, 1) := by decide +kernel
theorem dX9_told_0 : decode cX9_told 0 = .ok (.iload_n 1, 1) := by decide +kernel
theorem dX9_told_1 : decode cX9_told 1 = .ok (.tableswitch 70 0 4 #[35, 42, 52, 58, 65], 35) := by decide +kernel
theorem dX9_told_36 : decode cX9_told 36 = .ok (.aload_n 0, 1) := by decide +kernel
theorem dX9_told_37 : decode cX9_told 37 = .ok (.getfield 9, 3) := by decide +kernel
theorem dX9_told_40 : decode cX9_told 40 = .ok (.iconst 0, 1) := by decide +kernel
theorem dX9_told_41 : decode cX9_told 41 = .ok (.iaload, 1) := by decide +kernel
theorem dX9_told_42 : decode cX9_told 42 = .ok (.ireturn, 1) := by decide +kernel
theorem dX9_told_43 : decode cX9_told 43 = .ok (.aload_n 0, 1) := by decide +kernel
theorem dX9_told_44 : decode cX9_told 44 = .ok (.sipush 238, 3) := by decide +kernel
theorem dX9_told_47 : decode cX9_told 47 = .ok (.bipush 30, 2) := by decide +kernel
theorem dX9_told_49 : decode cX9_told 49 = .ok (.invokevirtual 124, 3) := by decide +kernel
theorem dX9_told_52 : decode cX9_told 52 = .ok (.ireturn, 1) := by decide +kernel
theorem dX9_told_53 : decode cX9_told 53 = .ok (.aload_n 0, 1) := by decide +kernel
theorem dX9_told_54 : decode cX9_told 54 = .ok (.iconst 1, 1) := by decide +kernel
theorem dX9_told_55 : decode cX9_told 55 = .ok (.invokevirtual 172, 3) := by decide +kernel
theorem dX9_told_58 : decode cX9_told 58 = .ok (.ireturn, 1) := by decide +kernel
theorem dX9_told_59 : decode cX9_told 59 = .ok (.aload_n 0, 1) := by decide +kernel
theorem dX9_told_60 : decode cX9_told 60 = .ok (.bipush 7, 2) := by decide +kernel
theorem dX9_told_62 : decode cX9_told 62 = .ok (.invokevirtual 172, 3) := by decide +kernel
theorem dX9_told_65 : decode cX9_told 65 = .ok (.ireturn, 1) := by decide +kernel
theorem dX9_told_66 : decode cX9_told 66 = .ok (.aload_n 0, 1) := by decide +kernel
theorem dX9_told_67 : decode cX9_told 67 = .ok (.invokevirtual 175, 3) := by decide +kernel
theorem dX9_told_70 : decode cX9_told 70 = .ok (.ireturn, 1) := by decide +kernel
theorem dX9_told_71 : decode cX9_told 71 = .ok (.iload_n 1, 1) := by decide +kernel
theorem dX9_told_72 : decode cX9_told 72 = .ok (.bipush 10, 2) := by decide +kernel
theorem dX9_told_74 : decode cX9_told 74 = .ok (.isub, 1) := by decide +kernel
theorem dX9_told_75 : decode cX9_told 75 = .ok (.invokestatic 169, 3) := by decide +kernel
theorem dX9_told_78 : decode cX9_told 78 = .ok (.ifCond .eq 18, 3) := by decide +kernel
theorem dX9_told_81 : decode cX9_told 81 = .ok (.aload_n 0, 1) := by decide +kernel
theorem dX9_told_82 : decode cX9_told 82 = .ok (.getfield 9, 3) := by decide +kernel
theorem dX9_told_85 : decode cX9_told 85 = .ok (.bipush 19, 2) := by decide +kernel
theorem dX9_told_87 : decode cX9_told 87 = .ok (.iload_n 1, 1) := by decide +kernel
theorem dX9_told_88 : decode cX9_told 88 = .ok (.iadd, 1) := by decide +kernel
theorem dX9_told_89 : decode cX9_told 89 = .ok (.bipush 10, 2) := by decide +kernel
theorem dX9_told_91 : decode cX9_told 91 = .ok (.isub, 1) := by decide +kernel
theorem dX9_told_92 : decode cX9_told 92 = .ok (.iaload, 1) := by decide +kernel
theorem dX9_told_93 : decode cX9_told 93 = .ok (.goto 27, 3) := by decide +kernel
theorem dX9_told_96 : decode cX9_told 96 = .ok (.aload_n 0, 1) := by decide +kernel
theorem dX9_told_97 : decode cX9_told 97 = .ok (.iload_n 1, 1) := by decide +kernel
theorem dX9_told_98 : decode cX9_told 98 = .ok (.bipush 30, 2) := by decide +kernel
theorem dX9_told_100 : decode cX9_told 100 = .ok (.isub, 1) := by decide +kernel
theorem dX9_told_101 : decode cX9_told 101 = .ok (.invokevirtual 178, 3) := by decide +kernel
theorem dX9_told_104 : decode cX9_told 104 = .ok (.ifCond .eq 14, 3) := by decide +kernel
theorem dX9_told_107 : decode cX9_told 107 = .ok (.aload_n 0, 1) := by decide +kernel
theorem dX9_told_108 : decode cX9_told 108 = .ok (.iload_n 1, 1) := by decide +kernel
theorem dX9_told_109 : decode cX9_told 109 = .ok (.bipush 30, 2) := by decide +kernel
theorem dX9_told_111 : decode cX9_told 111 = .ok (.isub, 1) := by decide +kernel
theorem dX9_told_112 : decode cX9_told 112 = .ok (.invokevirtual 181, 3) := by decide +kernel
theorem dX9_told_115 : decode cX9_told 115 = .ok (.goto 5, 3) := by decide +kernel
theorem dX9_told_118 : decode cX9_told 118 = .ok (.ldc 165, 2) := by decide +kernel
theorem dX9_told_120 : decode cX9_told 120 = .ok (.ireturn, 1) := by decide +kernel
theorem dX9_goes_0 : decode cX9_goes 0 = .ok (.aload_n 0, 1) := by decide +kernel
theorem dX9_goes_1 : decode cX9_goes 1 = .ok (.invokevirtual 175, 3) := by decide +kernel
theorem dX9_goes_4 : decode cX9_goes 4 = .ok (.istore_n 1, 1) := by decide +kernel
theorem dX9_goes_5 : decode cX9_goes 5 = .ok (.iconst 0, 1) := by decide +kernel
theorem dX9_goes_6 : decode cX9_goes 6 = .ok (.istore_n 2, 1) := by decide +kernel
theorem dX9_goes_7 : decode cX9_goes 7 = .ok (.iload_n 2, 1) := by decide +kernel
theorem dX9_goes_8 : decode cX9_goes 8 = .ok (.aload_n 0, 1) := by decide +kernel
theorem dX9_goes_9 : decode cX9_goes 9 = .ok (.getfield 9, 3) := by decide +kernel
theorem dX9_goes_12 : decode cX9_goes 12 = .ok (.bipush 31, 2) := by decide +kernel
theorem dX9_goes_14 : decode cX9_goes 14 = .ok (.iaload, 1) := by decide +kernel
theorem dX9_goes_15 : decode cX9_goes 15 = .ok (.if_icmp .ge 51, 3) := by decide +kernel
theorem dX9_goes_18 : decode cX9_goes 18 = .ok (.aload_n 0, 1) := by decide +kernel
theorem dX9_goes_19 : decode cX9_goes 19 = .ok (.getfield 9, 3) := by decide +kernel
theorem dX9_goes_22 : decode cX9_goes 22 = .ok (.iconst 1, 1) := by decide +kernel
theorem dX9_goes_23 : decode cX9_goes 23 = .ok (.iload_n 2, 1) := by decide +kernel
theorem dX9_goes_24 : decode cX9_goes 24 = .ok (.iadd, 1) := by decide +kernel
theorem dX9_goes_25 : decode cX9_goes 25 = .ok (.aload_n 0, 1) := by decide +kernel
theorem dX9_goes_26 : decode cX9_goes 26 = .ok (.getfield 9, 3) := by decide +kernel
theorem dX9_goes_29 : decode cX9_goes 29 = .ok (.bipush 7, 2) := by decide +kernel
theorem dX9_goes_31 : decode cX9_goes 31 = .ok (.iload_n 2, 1) := by decide +kernel
theorem dX9_goes_32 : decode cX9_goes 32 = .ok (.iadd, 1) := by decide +kernel
theorem dX9_goes_33 : decode cX9_goes 33 = .ok (.iaload, 1) := by decide +kernel
theorem dX9_goes_34 : decode cX9_goes 34 = .ok (.ifCond .ne 24, 3) := by decide +kernel
theorem dX9_goes_37 : decode cX9_goes 37 = .ok (.aload_n 0, 1) := by decide +kernel
theorem dX9_goes_38 : decode cX9_goes 38 = .ok (.iload_n 2, 1) := by decide +kernel
theorem dX9_goes_39 : decode cX9_goes 39 = .ok (.invokevirtual 154, 3) := by decide +kernel
theorem dX9_goes_42 : decode cX9_goes 42 = .ok (.aload_n 0, 1) := by decide +kernel
theorem dX9_goes_43 : decode cX9_goes 43 = .ok (.sipush 238, 3) := by decide +kernel
theorem dX9_goes_46 : decode cX9_goes 46 = .ok (.bipush 30, 2) := by decide +kernel
theorem dX9_goes_48 : decode cX9_goes 48 = .ok (.invokevirtual 124, 3) := by decide +kernel
theorem dX9_goes_51 : decode cX9_goes 51 = .ok (.if_icmp .lt 7, 3) := by decide +kernel
theorem dX9_goes_54 : decode cX9_goes 54 = .ok (.iconst 1, 1) := by decide +kernel
theorem dX9_goes_55 : decode cX9_goes 55 = .ok (.goto 4, 3) := by decide +kernel
theorem dX9_goes_58 : decode cX9_goes 58 = .ok (.iconst 0, 1) := by decide +kernel
theorem dX9_goes_59 : decode cX9_goes 59 = .ok (.iastore, 1) := by decide +kernel
theorem dX9_goes_60 : decode cX9_goes 60 = .ok (.iinc 2 1, 3) := by decide +kernel
theorem dX9_goes_63 : decode cX9_goes 63 = .ok (.goto (-56), 3) := by decide +kernel
theorem dX9_goes_66 : decode cX9_goes 66 = .ok (.iload_n 1, 1) := by decide +kernel
theorem dX9_goes_67 : decode cX9_goes 67 = .ok (.bipush (-5), 2) := by decide +kernel
theorem dX9_goes_69 : decode cX9_goes 69 = .ok (.if_icmp .eq 16, 3) := by decide +kernel
theorem dX9_goes_72 : decode cX9_goes 72 = .ok (.aload_n 0, 1) := by decide +kernel
theorem dX9_goes_73 : decode cX9_goes 73 = .ok (.getfield 9, 3) := by decide +kernel
theorem dX9_goes_76 : decode cX9_goes 76 = .ok (.bipush 13, 2) := by decide +kernel
theorem dX9_goes_78 : decode cX9_goes 78 = .ok (.iload_n 1, 1) := by decide +kernel
theorem dX9_goes_79 : decode cX9_goes 79 = .ok (.iadd, 1) := by decide +kernel
theorem dX9_goes_80 : decode cX9_goes 80 = .ok (.dup2, 1) := by decide +kernel
theorem dX9_goes_81 : decode cX9_goes 81 = .ok (.iaload, 1) := by decide +kernel
theorem dX9_goes_82 : decode cX9_goes 82 = .ok (.iconst 1, 1) := by decide +kernel
theorem dX9_goes_83 : decode cX9_goes 83 = .ok (.iadd, 1) := by decide +kernel
theorem dX9_goes_84 : decode cX9_goes 84 = .ok (.iastore, 1) := by decide +kernel
theorem dX9_goes_85 : decode cX9_goes 85 = .ok (.aload_n 0, 1) := by decide +kernel
theorem dX9_goes_86 : decode cX9_goes 86 = .ok (.getfield 9, 3) := by decide +kernel
theorem dX9_goes_89 : decode cX9_goes 89 = .ok (.iconst 0, 1) := by decide +kernel
theorem dX9_goes_90 : decode cX9_goes 90 = .ok (.dup2, 1) := by decide +kernel
theorem dX9_goes_91 : decode cX9_goes 91 = .ok (.iaload, 1) := by decide +kernel
theorem dX9_goes_92 : decode cX9_goes 92 = .ok (.iconst 1, 1) := by decide +kernel
theorem dX9_goes_93 : decode cX9_goes 93 = .ok (.iadd, 1) := by decide +kernel
theorem dX9_goes_94 : decode cX9_goes 94 = .ok (.iastore, 1) := by decide +kernel
theorem dX9_goes_95 : decode cX9_goes 95 = .ok (.return_, 1) := by decide +kernel
theorem dX9_goesOn_0 : decode cX9_goesOn 0 = .ok (.iconst 0, 1) := by decide +kernel
theorem dX9_goesOn_1 : decode cX9_goesOn 1 = .ok (.istore_n 2, 1) := by decide +kernel
theorem dX9_goesOn_2 : decode cX9_goesOn 2 = .ok (.iload_n 2, 1) := by decide +kernel
theorem dX9_goesOn_3 : decode cX9_goesOn 3 = .ok (.iload_n 1, 1) := by decide +kernel
theorem dX9_goesOn_4 : decode cX9_goesOn 4 = .ok (.if_icmp .ge 13, 3) := by decide +kernel
theorem dX9_goesOn_7 : decode cX9_goesOn 7 = .ok (.aload_n 0, 1) := by decide +kernel
theorem dX9_goesOn_8 : decode cX9_goesOn 8 = .ok (.invokevirtual 184, 3) := by decide +kernel
theorem dX9_goesOn_11 : decode cX9_goesOn 11 = .ok (.iinc 2 1, 3) := by decide +kernel
theorem dX9_goesOn_14 : decode cX9_goesOn 14 = .ok (.goto (-12), 3) := by decide +kernel
theorem dX9_goesOn_17 : decode cX9_goesOn 17 = .ok (.return_, 1) := by decide +kernel
theorem dX9_pass_0 : decode cX9_pass 0 = .ok (.iload_n 1, 1) := by decide +kernel
theorem dX9_pass_1 : decode cX9_pass 1 = .ok (.iconst 0, 1) := by decide +kernel
theorem dX9_pass_2 : decode cX9_pass 2 = .ok (.bipush 60, 2) := by decide +kernel
theorem dX9_pass_4 : decode cX9_pass 4 = .ok (.invokestatic 44, 3) := by decide +kernel
theorem dX9_pass_7 : decode cX9_pass 7 = .ok (.ifCond .ne 6, 3) := by decide +kernel
theorem dX9_pass_10 : decode cX9_pass 10 = .ok (.bipush (-2), 2) := by decide +kernel
theorem dX9_pass_12 : decode cX9_pass 12 = .ok (.ireturn, 1) := by decide +kernel
theorem dX9_pass_13 : decode cX9_pass 13 = .ok (.aload_n 0, 1) := by decide +kernel
theorem dX9_pass_14 : decode cX9_pass 14 = .ok (.getfield 9, 3) := by decide +kernel
theorem dX9_pass_17 : decode cX9_pass 17 = .ok (.iconst 0, 1) := by decide +kernel
theorem dX9_pass_18 : decode cX9_pass 18 = .ok (.iaload, 1) := by decide +kernel
theorem dX9_pass_19 : decode cX9_pass 19 = .ok (.iload_n 1, 1) := by decide +kernel
theorem dX9_pass_20 : decode cX9_pass 20 = .ok (.iadd, 1) := by decide +kernel
theorem dX9_pass_21 : decode cX9_pass 21 = .ok (.sipush 9999, 3) := by decide +kernel
theorem dX9_pass_24 : decode cX9_pass 24 = .ok (.if_icmp .le 6, 3) := by decide +kernel
theorem dX9_pass_27 : decode cX9_pass 27 = .ok (.bipush (-3), 2) := by decide +kernel
theorem dX9_pass_29 : decode cX9_pass 29 = .ok (.ireturn, 1) := by decide +kernel
theorem dX9_pass_30 : decode cX9_pass 30 = .ok (.aload_n 0, 1) := by decide +kernel
theorem dX9_pass_31 : decode cX9_pass 31 = .ok (.iload_n 1, 1) := by decide +kernel
theorem dX9_pass_32 : decode cX9_pass 32 = .ok (.invokevirtual 187, 3) := by decide +kernel
theorem dX9_pass_35 : decode cX9_pass 35 = .ok (.iconst 0, 1) := by decide +kernel
theorem dX9_pass_36 : decode cX9_pass 36 = .ok (.istore_n 2, 1) := by decide +kernel
theorem dX9_pass_37 : decode cX9_pass 37 = .ok (.iload_n 2, 1) := by decide +kernel
theorem dX9_pass_38 : decode cX9_pass 38 = .ok (.aload_n 0, 1) := by decide +kernel
theorem dX9_pass_39 : decode cX9_pass 39 = .ok (.getfield 9, 3) := by decide +kernel
theorem dX9_pass_42 : decode cX9_pass 42 = .ok (.bipush 31, 2) := by decide +kernel
theorem dX9_pass_44 : decode cX9_pass 44 = .ok (.iaload, 1) := by decide +kernel
theorem dX9_pass_45 : decode cX9_pass 45 = .ok (.if_icmp .ge 48, 3) := by decide +kernel
theorem dX9_pass_48 : decode cX9_pass 48 = .ok (.aload_n 0, 1) := by decide +kernel
theorem dX9_pass_49 : decode cX9_pass 49 = .ok (.getfield 9, 3) := by decide +kernel
theorem dX9_pass_52 : decode cX9_pass 52 = .ok (.bipush 13, 2) := by decide +kernel
theorem dX9_pass_54 : decode cX9_pass 54 = .ok (.iload_n 2, 1) := by decide +kernel
theorem dX9_pass_55 : decode cX9_pass 55 = .ok (.iadd, 1) := by decide +kernel
theorem dX9_pass_56 : decode cX9_pass 56 = .ok (.aload_n 0, 1) := by decide +kernel
theorem dX9_pass_57 : decode cX9_pass 57 = .ok (.getfield 9, 3) := by decide +kernel
theorem dX9_pass_60 : decode cX9_pass 60 = .ok (.bipush 13, 2) := by decide +kernel
theorem dX9_pass_62 : decode cX9_pass 62 = .ok (.iload_n 2, 1) := by decide +kernel
theorem dX9_pass_63 : decode cX9_pass 63 = .ok (.iadd, 1) := by decide +kernel
theorem dX9_pass_64 : decode cX9_pass 64 = .ok (.iaload, 1) := by decide +kernel
theorem dX9_pass_65 : decode cX9_pass 65 = .ok (.sipush 9999, 3) := by decide +kernel
theorem dX9_pass_68 : decode cX9_pass 68 = .ok (.if_icmp .le 9, 3) := by decide +kernel
theorem dX9_pass_71 : decode cX9_pass 71 = .ok (.sipush 9999, 3) := by decide +kernel
theorem dX9_pass_74 : decode cX9_pass 74 = .ok (.goto 12, 3) := by decide +kernel
theorem dX9_pass_77 : decode cX9_pass 77 = .ok (.aload_n 0, 1) := by decide +kernel
theorem dX9_pass_78 : decode cX9_pass 78 = .ok (.getfield 9, 3) := by decide +kernel
theorem dX9_pass_81 : decode cX9_pass 81 = .ok (.bipush 13, 2) := by decide +kernel
theorem dX9_pass_83 : decode cX9_pass 83 = .ok (.iload_n 2, 1) := by decide +kernel
theorem dX9_pass_84 : decode cX9_pass 84 = .ok (.iadd, 1) := by decide +kernel
theorem dX9_pass_85 : decode cX9_pass 85 = .ok (.iaload, 1) := by decide +kernel
theorem dX9_pass_86 : decode cX9_pass 86 = .ok (.iastore, 1) := by decide +kernel
theorem dX9_pass_87 : decode cX9_pass 87 = .ok (.iinc 2 1, 3) := by decide +kernel
theorem dX9_pass_90 : decode cX9_pass 90 = .ok (.goto (-53), 3) := by decide +kernel
theorem dX9_pass_93 : decode cX9_pass 93 = .ok (.aload_n 0, 1) := by decide +kernel
theorem dX9_pass_94 : decode cX9_pass 94 = .ok (.getfield 9, 3) := by decide +kernel
theorem dX9_pass_97 : decode cX9_pass 97 = .ok (.iconst 0, 1) := by decide +kernel
theorem dX9_pass_98 : decode cX9_pass 98 = .ok (.iaload, 1) := by decide +kernel
theorem dX9_pass_99 : decode cX9_pass 99 = .ok (.ireturn, 1) := by decide +kernel
theorem dX9_line_0 : decode cX9_line 0 = .ok (.aload_n 0, 1) := by decide +kernel
theorem dX9_line_1 : decode cX9_line 1 = .ok (.iload_n 1, 1) := by decide +kernel
theorem dX9_line_2 : decode cX9_line 2 = .ok (.invokevirtual 162, 3) := by decide +kernel
theorem dX9_line_5 : decode cX9_line 5 = .ok (.ifCond .eq 10, 3) := by decide +kernel
theorem dX9_line_8 : decode cX9_line 8 = .ok (.iload_n 2, 1) := by decide +kernel
theorem dX9_line_9 : decode cX9_line 9 = .ok (.invokestatic 158, 3) := by decide +kernel
theorem dX9_line_12 : decode cX9_line 12 = .ok (.ifCond .ne 6, 3) := by decide +kernel
theorem dX9_line_15 : decode cX9_line 15 = .ok (.ldc 165, 2) := by decide +kernel
theorem dX9_line_17 : decode cX9_line 17 = .ok (.ireturn, 1) := by decide +kernel
theorem dX9_line_18 : decode cX9_line 18 = .ok (.aload_n 0, 1) := by decide +kernel
theorem dX9_line_19 : decode cX9_line 19 = .ok (.iload_n 1, 1) := by decide +kernel
theorem dX9_line_20 : decode cX9_line 20 = .ok (.iload_n 2, 1) := by decide +kernel
theorem dX9_line_21 : decode cX9_line 21 = .ok (.invokevirtual 150, 3) := by decide +kernel
theorem dX9_line_24 : decode cX9_line 24 = .ok (.istore 4, 2) := by decide +kernel
theorem dX9_line_26 : decode cX9_line 26 = .ok (.iload_n 3, 1) := by decide +kernel
theorem dX9_line_27 : decode cX9_line 27 = .ok (.tableswitch 47 0 3 #[29, 34, 39, 44], 29) := by decide +kernel
theorem dX9_line_56 : decode cX9_line 56 = .ok (.aload_n 0, 1) := by decide +kernel
theorem dX9_line_57 : decode cX9_line 57 = .ok (.getfield 132, 3) := by decide +kernel
theorem dX9_line_60 : decode cX9_line 60 = .ok (.ireturn, 1) := by decide +kernel
theorem dX9_line_61 : decode cX9_line 61 = .ok (.aload_n 0, 1) := by decide +kernel
theorem dX9_line_62 : decode cX9_line 62 = .ok (.getfield 135, 3) := by decide +kernel
theorem dX9_line_65 : decode cX9_line 65 = .ok (.ireturn, 1) := by decide +kernel
theorem dX9_line_66 : decode cX9_line 66 = .ok (.aload_n 0, 1) := by decide +kernel
theorem dX9_line_67 : decode cX9_line 67 = .ok (.invokevirtual 147, 3) := by decide +kernel
theorem dX9_line_70 : decode cX9_line 70 = .ok (.ireturn, 1) := by decide +kernel
theorem dX9_line_71 : decode cX9_line 71 = .ok (.iload 4, 2) := by decide +kernel
theorem dX9_line_73 : decode cX9_line 73 = .ok (.ireturn, 1) := by decide +kernel
theorem dX9_line_74 : decode cX9_line 74 = .ok (.iload_n 3, 1) := by decide +kernel
theorem dX9_line_75 : decode cX9_line 75 = .ok (.bipush 10, 2) := by decide +kernel
theorem dX9_line_77 : decode cX9_line 77 = .ok (.bipush 22, 2) := by decide +kernel
theorem dX9_line_79 : decode cX9_line 79 = .ok (.invokestatic 44, 3) := by decide +kernel
theorem dX9_line_82 : decode cX9_line 82 = .ok (.ifCond .eq 15, 3) := by decide +kernel
theorem dX9_line_85 : decode cX9_line 85 = .ok (.aload_n 0, 1) := by decide +kernel
theorem dX9_line_86 : decode cX9_line 86 = .ok (.getfield 28, 3) := by decide +kernel
theorem dX9_line_89 : decode cX9_line 89 = .ok (.iload_n 3, 1) := by decide +kernel
theorem dX9_line_90 : decode cX9_line 90 = .ok (.bipush 10, 2) := by decide +kernel
theorem dX9_line_92 : decode cX9_line 92 = .ok (.isub, 1) := by decide +kernel
theorem dX9_line_93 : decode cX9_line 93 = .ok (.iaload, 1) := by decide +kernel
theorem dX9_line_94 : decode cX9_line 94 = .ok (.goto 5, 3) := by decide +kernel
theorem dX9_line_97 : decode cX9_line 97 = .ok (.ldc 165, 2) := by decide +kernel
theorem dX9_line_99 : decode cX9_line 99 = .ok (.ireturn, 1) := by decide +kernel
theorem dX9_strays_0 : decode cX9_strays 0 = .ok (.aload_n 0, 1) := by decide +kernel
theorem dX9_strays_1 : decode cX9_strays 1 = .ok (.iload_n 1, 1) := by decide +kernel
theorem dX9_strays_2 : decode cX9_strays 2 = .ok (.invokevirtual 162, 3) := by decide +kernel
theorem dX9_strays_5 : decode cX9_strays 5 = .ok (.ifCond .eq 36, 3) := by decide +kernel
theorem dX9_strays_8 : decode cX9_strays 8 = .ok (.iload_n 2, 1) := by decide +kernel
theorem dX9_strays_9 : decode cX9_strays 9 = .ok (.invokestatic 169, 3) := by decide +kernel
theorem dX9_strays_12 : decode cX9_strays 12 = .ok (.ifCond .eq 29, 3) := by decide +kernel
theorem dX9_strays_15 : decode cX9_strays 15 = .ok (.iload_n 3, 1) := by decide +kernel
theorem dX9_strays_16 : decode cX9_strays 16 = .ok (.invokestatic 158, 3) := by decide +kernel
theorem dX9_strays_19 : decode cX9_strays 19 = .ok (.ifCond .eq 22, 3) := by decide +kernel
theorem dX9_strays_22 : decode cX9_strays 22 = .ok (.aload_n 0, 1) := by decide +kernel
theorem dX9_strays_23 : decode cX9_strays 23 = .ok (.iload_n 1, 1) := by decide +kernel
theorem dX9_strays_24 : decode cX9_strays 24 = .ok (.iload_n 2, 1) := by decide +kernel
theorem dX9_strays_25 : decode cX9_strays 25 = .ok (.iload_n 3, 1) := by decide +kernel
theorem dX9_strays_26 : decode cX9_strays 26 = .ok (.aload_n 0, 1) := by decide +kernel
theorem dX9_strays_27 : decode cX9_strays 27 = .ok (.getfield 9, 3) := by decide +kernel
theorem dX9_strays_30 : decode cX9_strays 30 = .ok (.bipush 19, 2) := by decide +kernel
theorem dX9_strays_32 : decode cX9_strays 32 = .ok (.iload_n 2, 1) := by decide +kernel
theorem dX9_strays_33 : decode cX9_strays 33 = .ok (.iadd, 1) := by decide +kernel
theorem dX9_strays_34 : decode cX9_strays 34 = .ok (.iaload, 1) := by decide +kernel
theorem dX9_strays_35 : decode cX9_strays 35 = .ok (.invokevirtual 138, 3) := by decide +kernel
theorem dX9_strays_38 : decode cX9_strays 38 = .ok (.goto 5, 3) := by decide +kernel
theorem dX9_strays_41 : decode cX9_strays 41 = .ok (.ldc 165, 2) := by decide +kernel
theorem dX9_strays_43 : decode cX9_strays 43 = .ok (.ireturn, 1) := by decide +kernel
theorem dX9_on_0 : decode cX9_on 0 = .ok (.iload_n 2, 1) := by decide +kernel
theorem dX9_on_1 : decode cX9_on 1 = .ok (.ifCond .eq 27, 3) := by decide +kernel
theorem dX9_on_4 : decode cX9_on 4 = .ok (.aload_n 0, 1) := by decide +kernel
theorem dX9_on_5 : decode cX9_on 5 = .ok (.iload_n 2, 1) := by decide +kernel
theorem dX9_on_6 : decode cX9_on 6 = .ok (.bipush 10, 2) := by decide +kernel
theorem dX9_on_8 : decode cX9_on 8 = .ok (.isub, 1) := by decide +kernel
theorem dX9_on_9 : decode cX9_on 9 = .ok (.invokevirtual 162, 3) := by decide +kernel
theorem dX9_on_12 : decode cX9_on 12 = .ok (.ifCond .ne 16, 3) := by decide +kernel
theorem dX9_on_15 : decode cX9_on 15 = .ok (.aload_n 0, 1) := by decide +kernel
theorem dX9_on_16 : decode cX9_on 16 = .ok (.iload_n 2, 1) := by decide +kernel
theorem dX9_on_17 : decode cX9_on 17 = .ok (.bipush 20, 2) := by decide +kernel
theorem dX9_on_19 : decode cX9_on 19 = .ok (.isub, 1) := by decide +kernel
theorem dX9_on_20 : decode cX9_on 20 = .ok (.invokevirtual 178, 3) := by decide +kernel
theorem dX9_on_23 : decode cX9_on 23 = .ok (.ifCond .ne 5, 3) := by decide +kernel
theorem dX9_on_26 : decode cX9_on 26 = .ok (.iconst (-1), 1) := by decide +kernel
theorem dX9_on_27 : decode cX9_on 27 = .ok (.ireturn, 1) := by decide +kernel
theorem dX9_on_28 : decode cX9_on 28 = .ok (.iload_n 1, 1) := by decide +kernel
theorem dX9_on_29 : decode cX9_on 29 = .ok (.iconst 0, 1) := by decide +kernel
theorem dX9_on_30 : decode cX9_on 30 = .ok (.bipush 60, 2) := by decide +kernel
theorem dX9_on_32 : decode cX9_on 32 = .ok (.invokestatic 44, 3) := by decide +kernel
theorem dX9_on_35 : decode cX9_on 35 = .ok (.ifCond .ne 6, 3) := by decide +kernel
theorem dX9_on_38 : decode cX9_on 38 = .ok (.bipush (-2), 2) := by decide +kernel
theorem dX9_on_40 : decode cX9_on 40 = .ok (.ireturn, 1) := by decide +kernel
theorem dX9_on_41 : decode cX9_on 41 = .ok (.aload_n 0, 1) := by decide +kernel
theorem dX9_on_42 : decode cX9_on 42 = .ok (.invokevirtual 190, 3) := by decide +kernel
theorem dX9_on_45 : decode cX9_on 45 = .ok (.aload_n 0, 1) := by decide +kernel
theorem dX9_on_46 : decode cX9_on 46 = .ok (.iload_n 1, 1) := by decide +kernel
theorem dX9_on_47 : decode cX9_on 47 = .ok (.invokevirtual 187, 3) := by decide +kernel
theorem dX9_on_50 : decode cX9_on 50 = .ok (.iload_n 2, 1) := by decide +kernel
theorem dX9_on_51 : decode cX9_on 51 = .ok (.ifCond .ne 11, 3) := by decide +kernel
theorem dX9_on_54 : decode cX9_on 54 = .ok (.aload_n 0, 1) := by decide +kernel
theorem dX9_on_55 : decode cX9_on 55 = .ok (.iconst 1, 1) := by decide +kernel
theorem dX9_on_56 : decode cX9_on 56 = .ok (.invokevirtual 172, 3) := by decide +kernel
theorem dX9_on_59 : decode cX9_on 59 = .ok (.goto 32, 3) := by decide +kernel
theorem dX9_on_62 : decode cX9_on 62 = .ok (.iload_n 2, 1) := by decide +kernel
theorem dX9_on_63 : decode cX9_on 63 = .ok (.bipush 20, 2) := by decide +kernel
theorem dX9_on_65 : decode cX9_on 65 = .ok (.if_icmp .ge 18, 3) := by decide +kernel
theorem dX9_on_68 : decode cX9_on 68 = .ok (.aload_n 0, 1) := by decide +kernel
theorem dX9_on_69 : decode cX9_on 69 = .ok (.getfield 9, 3) := by decide +kernel
theorem dX9_on_72 : decode cX9_on 72 = .ok (.bipush 13, 2) := by decide +kernel
theorem dX9_on_74 : decode cX9_on 74 = .ok (.iload_n 2, 1) := by decide +kernel
theorem dX9_on_75 : decode cX9_on 75 = .ok (.iadd, 1) := by decide +kernel
theorem dX9_on_76 : decode cX9_on 76 = .ok (.bipush 10, 2) := by decide +kernel
theorem dX9_on_78 : decode cX9_on 78 = .ok (.isub, 1) := by decide +kernel
theorem dX9_on_79 : decode cX9_on 79 = .ok (.iaload, 1) := by decide +kernel
theorem dX9_on_80 : decode cX9_on 80 = .ok (.goto 11, 3) := by decide +kernel
theorem dX9_on_83 : decode cX9_on 83 = .ok (.aload_n 0, 1) := by decide +kernel
theorem dX9_on_84 : decode cX9_on 84 = .ok (.iload_n 2, 1) := by decide +kernel
theorem dX9_on_85 : decode cX9_on 85 = .ok (.bipush 20, 2) := by decide +kernel
theorem dX9_on_87 : decode cX9_on 87 = .ok (.isub, 1) := by decide +kernel
theorem dX9_on_88 : decode cX9_on 88 = .ok (.invokevirtual 181, 3) := by decide +kernel
theorem dX9_on_91 : decode cX9_on 91 = .ok (.istore_n 3, 1) := by decide +kernel
theorem dX9_on_92 : decode cX9_on 92 = .ok (.aload_n 0, 1) := by decide +kernel
theorem dX9_on_93 : decode cX9_on 93 = .ok (.invokevirtual 193, 3) := by decide +kernel
theorem dX9_on_96 : decode cX9_on 96 = .ok (.iload_n 3, 1) := by decide +kernel
theorem dX9_on_97 : decode cX9_on 97 = .ok (.ireturn, 1) := by decide +kernel
theorem dX9_when_0 : decode cX9_when 0 = .ok (.aload_n 0, 1) := by decide +kernel
theorem dX9_when_1 : decode cX9_when 1 = .ok (.iload_n 1, 1) := by decide +kernel
theorem dX9_when_2 : decode cX9_when 2 = .ok (.invokevirtual 178, 3) := by decide +kernel
theorem dX9_when_5 : decode cX9_when 5 = .ok (.ifCond .ne 5, 3) := by decide +kernel
theorem dX9_when_8 : decode cX9_when 8 = .ok (.iconst (-1), 1) := by decide +kernel
theorem dX9_when_9 : decode cX9_when 9 = .ok (.ireturn, 1) := by decide +kernel
theorem dX9_when_10 : decode cX9_when 10 = .ok (.aload_n 0, 1) := by decide +kernel
theorem dX9_when_11 : decode cX9_when 11 = .ok (.invokevirtual 190, 3) := by decide +kernel
theorem dX9_when_14 : decode cX9_when 14 = .ok (.bipush (-5), 2) := by decide +kernel
theorem dX9_when_16 : decode cX9_when 16 = .ok (.istore_n 2, 1) := by decide +kernel
theorem dX9_when_17 : decode cX9_when 17 = .ok (.iconst 0, 1) := by decide +kernel
theorem dX9_when_18 : decode cX9_when 18 = .ok (.istore_n 3, 1) := by decide +kernel
theorem dX9_when_19 : decode cX9_when 19 = .ok (.iload_n 3, 1) := by decide +kernel
theorem dX9_when_20 : decode cX9_when 20 = .ok (.bipush 40, 2) := by decide +kernel
theorem dX9_when_22 : decode cX9_when 22 = .ok (.if_icmp .gt 43, 3) := by decide +kernel
theorem dX9_when_25 : decode cX9_when 25 = .ok (.iload_n 2, 1) := by decide +kernel
theorem dX9_when_26 : decode cX9_when 26 = .ok (.bipush (-5), 2) := by decide +kernel
theorem dX9_when_28 : decode cX9_when 28 = .ok (.if_icmp .ne 37, 3) := by decide +kernel
theorem dX9_when_31 : decode cX9_when 31 = .ok (.aload_n 0, 1) := by decide +kernel
theorem dX9_when_32 : decode cX9_when 32 = .ok (.iload_n 1, 1) := by decide +kernel
theorem dX9_when_33 : decode cX9_when 33 = .ok (.invokevirtual 181, 3) := by decide +kernel
theorem dX9_when_36 : decode cX9_when 36 = .ok (.aload_n 0, 1) := by decide +kernel
theorem dX9_when_37 : decode cX9_when 37 = .ok (.getfield 9, 3) := by decide +kernel
theorem dX9_when_40 : decode cX9_when 40 = .ok (.bipush 81, 2) := by decide +kernel
theorem dX9_when_42 : decode cX9_when 42 = .ok (.iload_n 1, 1) := by decide +kernel
theorem dX9_when_43 : decode cX9_when 43 = .ok (.iadd, 1) := by decide +kernel
theorem dX9_when_44 : decode cX9_when 44 = .ok (.iaload, 1) := by decide +kernel
theorem dX9_when_45 : decode cX9_when 45 = .ok (.if_icmp .ne 7, 3) := by decide +kernel
theorem dX9_when_48 : decode cX9_when 48 = .ok (.iload_n 3, 1) := by decide +kernel
theorem dX9_when_49 : decode cX9_when 49 = .ok (.goto 5, 3) := by decide +kernel
theorem dX9_when_52 : decode cX9_when 52 = .ok (.bipush (-5), 2) := by decide +kernel
theorem dX9_when_54 : decode cX9_when 54 = .ok (.istore_n 2, 1) := by decide +kernel
theorem dX9_when_55 : decode cX9_when 55 = .ok (.aload_n 0, 1) := by decide +kernel
theorem dX9_when_56 : decode cX9_when 56 = .ok (.invokevirtual 184, 3) := by decide +kernel
theorem dX9_when_59 : decode cX9_when 59 = .ok (.iinc 3 1, 3) := by decide +kernel
theorem dX9_when_62 : decode cX9_when 62 = .ok (.goto (-43), 3) := by decide +kernel
theorem dX9_when_65 : decode cX9_when 65 = .ok (.aload_n 0, 1) := by decide +kernel
theorem dX9_when_66 : decode cX9_when 66 = .ok (.invokevirtual 193, 3) := by decide +kernel
theorem dX9_when_69 : decode cX9_when 69 = .ok (.iload_n 2, 1) := by decide +kernel
theorem dX9_when_70 : decode cX9_when 70 = .ok (.ireturn, 1) := by decide +kernel
theorem dX9_start_0 : decode cX9_start 0 = .ok (.aload_n 0, 1) := by decide +kernel
theorem dX9_start_1 : decode cX9_start 1 = .ok (.iload_n 1, 1) := by decide +kernel
theorem dX9_start_2 : decode cX9_start 2 = .ok (.invokevirtual 162, 3) := by decide +kernel
theorem dX9_start_5 : decode cX9_start 5 = .ok (.ifCond .ne 5, 3) := by decide +kernel
theorem dX9_start_8 : decode cX9_start 8 = .ok (.iconst (-1), 1) := by decide +kernel
theorem dX9_start_9 : decode cX9_start 9 = .ok (.ireturn, 1) := by decide +kernel
theorem dX9_start_10 : decode cX9_start 10 = .ok (.iconst 0, 1) := by decide +kernel
theorem dX9_start_11 : decode cX9_start 11 = .ok (.istore_n 2, 1) := by decide +kernel
theorem dX9_start_12 : decode cX9_start 12 = .ok (.iconst 1, 1) := by decide +kernel
theorem dX9_start_13 : decode cX9_start 13 = .ok (.istore_n 3, 1) := by decide +kernel
theorem dX9_start_14 : decode cX9_start 14 = .ok (.iload_n 3, 1) := by decide +kernel
theorem dX9_start_15 : decode cX9_start 15 = .ok (.bipush 9, 2) := by decide +kernel
theorem dX9_start_17 : decode cX9_start 17 = .ok (.if_icmp .ge 30, 3) := by decide +kernel
theorem dX9_start_20 : decode cX9_start 20 = .ok (.aload_n 0, 1) := by decide +kernel
theorem dX9_start_21 : decode cX9_start 21 = .ok (.iload_n 1, 1) := by decide +kernel
theorem dX9_start_22 : decode cX9_start 22 = .ok (.iload_n 3, 1) := by decide +kernel
theorem dX9_start_23 : decode cX9_start 23 = .ok (.invokevirtual 150, 3) := by decide +kernel
theorem dX9_start_26 : decode cX9_start 26 = .ok (.aload_n 0, 1) := by decide +kernel
theorem dX9_start_27 : decode cX9_start 27 = .ok (.iload_n 1, 1) := by decide +kernel
theorem dX9_start_28 : decode cX9_start 28 = .ok (.iload_n 2, 1) := by decide +kernel
theorem dX9_start_29 : decode cX9_start 29 = .ok (.invokevirtual 150, 3) := by decide +kernel
theorem dX9_start_32 : decode cX9_start 32 = .ok (.if_icmp .le 7, 3) := by decide +kernel
theorem dX9_start_35 : decode cX9_start 35 = .ok (.iload_n 3, 1) := by decide +kernel
theorem dX9_start_36 : decode cX9_start 36 = .ok (.goto 4, 3) := by decide +kernel
theorem dX9_start_39 : decode cX9_start 39 = .ok (.iload_n 2, 1) := by decide +kernel
theorem dX9_start_40 : decode cX9_start 40 = .ok (.istore_n 2, 1) := by decide +kernel
theorem dX9_start_41 : decode cX9_start 41 = .ok (.iinc 3 1, 3) := by decide +kernel
theorem dX9_start_44 : decode cX9_start 44 = .ok (.goto (-30), 3) := by decide +kernel
theorem dX9_start_47 : decode cX9_start 47 = .ok (.iload_n 2, 1) := by decide +kernel
theorem dX9_start_48 : decode cX9_start 48 = .ok (.ireturn, 1) := by decide +kernel
theorem dX9_scoreLaying_0 : decode cX9_scoreLaying 0 = .ok (.aload_n 0, 1) := by decide +kernel
theorem dX9_scoreLaying_1 : decode cX9_scoreLaying 1 = .ok (.getfield 9, 3) := by decide +kernel
theorem dX9_scoreLaying_4 : decode cX9_scoreLaying 4 = .ok (.bipush 19, 2) := by decide +kernel
theorem dX9_scoreLaying_6 : decode cX9_scoreLaying 6 = .ok (.iload_n 2, 1) := by decide +kernel
theorem dX9_scoreLaying_7 : decode cX9_scoreLaying 7 = .ok (.iadd, 1) := by decide +kernel
theorem dX9_scoreLaying_8 : decode cX9_scoreLaying 8 = .ok (.iaload, 1) := by decide +kernel
theorem dX9_scoreLaying_9 : decode cX9_scoreLaying 9 = .ok (.istore 4, 2) := by decide +kernel
theorem dX9_scoreLaying_11 : decode cX9_scoreLaying 11 = .ok (.aload_n 0, 1) := by decide +kernel
theorem dX9_scoreLaying_12 : decode cX9_scoreLaying 12 = .ok (.getfield 9, 3) := by decide +kernel
theorem dX9_scoreLaying_15 : decode cX9_scoreLaying 15 = .ok (.bipush 19, 2) := by decide +kernel
theorem dX9_scoreLaying_17 : decode cX9_scoreLaying 17 = .ok (.iload_n 2, 1) := by decide +kernel
theorem dX9_scoreLaying_18 : decode cX9_scoreLaying 18 = .ok (.iadd, 1) := by decide +kernel
theorem dX9_scoreLaying_19 : decode cX9_scoreLaying 19 = .ok (.iload_n 3, 1) := by decide +kernel
theorem dX9_scoreLaying_20 : decode cX9_scoreLaying 20 = .ok (.iastore, 1) := by decide +kernel
theorem dX9_scoreLaying_21 : decode cX9_scoreLaying 21 = .ok (.aload_n 0, 1) := by decide +kernel
theorem dX9_scoreLaying_22 : decode cX9_scoreLaying 22 = .ok (.iload_n 1, 1) := by decide +kernel
theorem dX9_scoreLaying_23 : decode cX9_scoreLaying 23 = .ok (.invokevirtual 154, 3) := by decide +kernel
theorem dX9_scoreLaying_26 : decode cX9_scoreLaying 26 = .ok (.istore 5, 2) := by decide +kernel
theorem dX9_scoreLaying_28 : decode cX9_scoreLaying 28 = .ok (.aload_n 0, 1) := by decide +kernel
theorem dX9_scoreLaying_29 : decode cX9_scoreLaying 29 = .ok (.getfield 9, 3) := by decide +kernel
theorem dX9_scoreLaying_32 : decode cX9_scoreLaying 32 = .ok (.bipush 19, 2) := by decide +kernel
theorem dX9_scoreLaying_34 : decode cX9_scoreLaying 34 = .ok (.iload_n 2, 1) := by decide +kernel
theorem dX9_scoreLaying_35 : decode cX9_scoreLaying 35 = .ok (.iadd, 1) := by decide +kernel
theorem dX9_scoreLaying_36 : decode cX9_scoreLaying 36 = .ok (.iload 4, 2) := by decide +kernel
theorem dX9_scoreLaying_38 : decode cX9_scoreLaying 38 = .ok (.iastore, 1) := by decide +kernel
theorem dX9_scoreLaying_39 : decode cX9_scoreLaying 39 = .ok (.iload 5, 2) := by decide +kernel
theorem dX9_scoreLaying_41 : decode cX9_scoreLaying 41 = .ok (.ireturn, 1) := by decide +kernel
theorem dX9_waver_0 : decode cX9_waver 0 = .ok (.aload_n 0, 1) := by decide +kernel
theorem dX9_waver_1 : decode cX9_waver 1 = .ok (.iload_n 1, 1) := by decide +kernel
theorem dX9_waver_2 : decode cX9_waver 2 = .ok (.invokevirtual 162, 3) := by decide +kernel
theorem dX9_waver_5 : decode cX9_waver 5 = .ok (.ifCond .ne 5, 3) := by decide +kernel
theorem dX9_waver_8 : decode cX9_waver 8 = .ok (.iconst (-1), 1) := by decide +kernel
theorem dX9_waver_9 : decode cX9_waver 9 = .ok (.ireturn, 1) := by decide +kernel
theorem dX9_waver_10 : decode cX9_waver 10 = .ok (.iload_n 2, 1) := by decide +kernel
theorem dX9_waver_11 : decode cX9_waver 11 = .ok (.iconst 1, 1) := by decide +kernel
theorem dX9_waver_12 : decode cX9_waver 12 = .ok (.bipush 9, 2) := by decide +kernel
theorem dX9_waver_14 : decode cX9_waver 14 = .ok (.invokestatic 44, 3) := by decide +kernel
theorem dX9_waver_17 : decode cX9_waver 17 = .ok (.ifCond .ne 6, 3) := by decide +kernel
theorem dX9_waver_20 : decode cX9_waver 20 = .ok (.bipush (-2), 2) := by decide +kernel
theorem dX9_waver_22 : decode cX9_waver 22 = .ok (.ireturn, 1) := by decide +kernel
theorem dX9_waver_23 : decode cX9_waver 23 = .ok (.aload_n 0, 1) := by decide +kernel
theorem dX9_waver_24 : decode cX9_waver 24 = .ok (.iload_n 1, 1) := by decide +kernel
theorem dX9_waver_25 : decode cX9_waver 25 = .ok (.invokevirtual 154, 3) := by decide +kernel
theorem dX9_waver_28 : decode cX9_waver 28 = .ok (.istore_n 3, 1) := by decide +kernel
theorem dX9_waver_29 : decode cX9_waver 29 = .ok (.bipush (-5), 2) := by decide +kernel
theorem dX9_waver_31 : decode cX9_waver 31 = .ok (.istore 4, 2) := by decide +kernel
theorem dX9_waver_33 : decode cX9_waver 33 = .ok (.iconst 0, 1) := by decide +kernel
theorem dX9_waver_34 : decode cX9_waver 34 = .ok (.istore 5, 2) := by decide +kernel
theorem dX9_waver_36 : decode cX9_waver 36 = .ok (.iload 5, 2) := by decide +kernel
theorem dX9_waver_38 : decode cX9_waver 38 = .ok (.bipush 12, 2) := by decide +kernel
theorem dX9_waver_40 : decode cX9_waver 40 = .ok (.if_icmp .ge 47, 3) := by decide +kernel
theorem dX9_waver_43 : decode cX9_waver 43 = .ok (.aload_n 0, 1) := by decide +kernel
theorem dX9_waver_44 : decode cX9_waver 44 = .ok (.iload_n 1, 1) := by decide +kernel
theorem dX9_waver_45 : decode cX9_waver 45 = .ok (.iload 5, 2) := by decide +kernel
theorem dX9_waver_47 : decode cX9_waver 47 = .ok (.iload_n 2, 1) := by decide +kernel
theorem dX9_waver_48 : decode cX9_waver 48 = .ok (.invokevirtual 196, 3) := by decide +kernel
theorem dX9_waver_51 : decode cX9_waver 51 = .ok (.istore 6, 2) := by decide +kernel
theorem dX9_waver_53 : decode cX9_waver 53 = .ok (.iload 6, 2) := by decide +kernel
theorem dX9_waver_55 : decode cX9_waver 55 = .ok (.iload_n 3, 1) := by decide +kernel
theorem dX9_waver_56 : decode cX9_waver 56 = .ok (.if_icmp .ge 8, 3) := by decide +kernel
theorem dX9_waver_59 : decode cX9_waver 59 = .ok (.iload 5, 2) := by decide +kernel
theorem dX9_waver_61 : decode cX9_waver 61 = .ok (.goto 5, 3) := by decide +kernel
theorem dX9_waver_64 : decode cX9_waver 64 = .ok (.iload 4, 2) := by decide +kernel
theorem dX9_waver_66 : decode cX9_waver 66 = .ok (.istore 4, 2) := by decide +kernel
theorem dX9_waver_68 : decode cX9_waver 68 = .ok (.iload 6, 2) := by decide +kernel
theorem dX9_waver_70 : decode cX9_waver 70 = .ok (.iload_n 3, 1) := by decide +kernel
theorem dX9_waver_71 : decode cX9_waver 71 = .ok (.if_icmp .ge 8, 3) := by decide +kernel
theorem dX9_waver_74 : decode cX9_waver 74 = .ok (.iload 6, 2) := by decide +kernel
theorem dX9_waver_76 : decode cX9_waver 76 = .ok (.goto 4, 3) := by decide +kernel
theorem dX9_waver_79 : decode cX9_waver 79 = .ok (.iload_n 3, 1) := by decide +kernel
theorem dX9_waver_80 : decode cX9_waver 80 = .ok (.istore_n 3, 1) := by decide +kernel
theorem dX9_waver_81 : decode cX9_waver 81 = .ok (.iinc 5 1, 3) := by decide +kernel
theorem dX9_waver_84 : decode cX9_waver 84 = .ok (.goto (-48), 3) := by decide +kernel
theorem dX9_waver_87 : decode cX9_waver 87 = .ok (.iload 4, 2) := by decide +kernel
theorem dX9_waver_89 : decode cX9_waver 89 = .ok (.ireturn, 1) := by decide +kernel
theorem dX9_scoreClearing_0 : decode cX9_scoreClearing 0 = .ok (.aload_n 0, 1) := by decide +kernel
theorem dX9_scoreClearing_1 : decode cX9_scoreClearing 1 = .ok (.getfield 28, 3) := by decide +kernel
theorem dX9_scoreClearing_4 : decode cX9_scoreClearing 4 = .ok (.iconst 0, 1) := by decide +kernel
theorem dX9_scoreClearing_5 : decode cX9_scoreClearing 5 = .ok (.aload_n 0, 1) := by decide +kernel
theorem dX9_scoreClearing_6 : decode cX9_scoreClearing 6 = .ok (.getfield 9, 3) := by decide +kernel
theorem dX9_scoreClearing_9 : decode cX9_scoreClearing 9 = .ok (.bipush 51, 2) := by decide +kernel
theorem dX9_scoreClearing_11 : decode cX9_scoreClearing 11 = .ok (.iload_n 1, 1) := by decide +kernel
theorem dX9_scoreClearing_12 : decode cX9_scoreClearing 12 = .ok (.iadd, 1) := by decide +kernel
theorem dX9_scoreClearing_13 : decode cX9_scoreClearing 13 = .ok (.iaload, 1) := by decide +kernel
theorem dX9_scoreClearing_14 : decode cX9_scoreClearing 14 = .ok (.iastore, 1) := by decide +kernel
theorem dX9_scoreClearing_15 : decode cX9_scoreClearing 15 = .ok (.iconst 0, 1) := by decide +kernel
theorem dX9_scoreClearing_16 : decode cX9_scoreClearing 16 = .ok (.istore_n 3, 1) := by decide +kernel
theorem dX9_scoreClearing_17 : decode cX9_scoreClearing 17 = .ok (.iload_n 3, 1) := by decide +kernel
theorem dX9_scoreClearing_18 : decode cX9_scoreClearing 18 = .ok (.bipush 12, 2) := by decide +kernel
theorem dX9_scoreClearing_20 : decode cX9_scoreClearing 20 = .ok (.if_icmp .ge 65, 3) := by decide +kernel
theorem dX9_scoreClearing_23 : decode cX9_scoreClearing 23 = .ok (.bipush 9, 2) := by decide +kernel
theorem dX9_scoreClearing_25 : decode cX9_scoreClearing 25 = .ok (.iload_n 3, 1) := by decide +kernel
theorem dX9_scoreClearing_26 : decode cX9_scoreClearing 26 = .ok (.imul, 1) := by decide +kernel
theorem dX9_scoreClearing_27 : decode cX9_scoreClearing 27 = .ok (.aload_n 0, 1) := by decide +kernel
theorem dX9_scoreClearing_28 : decode cX9_scoreClearing 28 = .ok (.getfield 28, 3) := by decide +kernel
theorem dX9_scoreClearing_31 : decode cX9_scoreClearing 31 = .ok (.iload_n 3, 1) := by decide +kernel
theorem dX9_scoreClearing_32 : decode cX9_scoreClearing 32 = .ok (.iaload, 1) := by decide +kernel
theorem dX9_scoreClearing_33 : decode cX9_scoreClearing 33 = .ok (.iadd, 1) := by decide +kernel
theorem dX9_scoreClearing_34 : decode cX9_scoreClearing 34 = .ok (.istore 4, 2) := by decide +kernel
theorem dX9_scoreClearing_36 : decode cX9_scoreClearing 36 = .ok (.aload_n 0, 1) := by decide +kernel
theorem dX9_scoreClearing_37 : decode cX9_scoreClearing 37 = .ok (.getfield 28, 3) := by decide +kernel
theorem dX9_scoreClearing_40 : decode cX9_scoreClearing 40 = .ok (.iload_n 3, 1) := by decide +kernel
theorem dX9_scoreClearing_41 : decode cX9_scoreClearing 41 = .ok (.iconst 1, 1) := by decide +kernel
theorem dX9_scoreClearing_42 : decode cX9_scoreClearing 42 = .ok (.iadd, 1) := by decide +kernel
theorem dX9_scoreClearing_43 : decode cX9_scoreClearing 43 = .ok (.aload_n 0, 1) := by decide +kernel
theorem dX9_scoreClearing_44 : decode cX9_scoreClearing 44 = .ok (.getfield 28, 3) := by decide +kernel
theorem dX9_scoreClearing_47 : decode cX9_scoreClearing 47 = .ok (.iload_n 3, 1) := by decide +kernel
theorem dX9_scoreClearing_48 : decode cX9_scoreClearing 48 = .ok (.iaload, 1) := by decide +kernel
theorem dX9_scoreClearing_49 : decode cX9_scoreClearing 49 = .ok (.iload_n 2, 1) := by decide +kernel
theorem dX9_scoreClearing_50 : decode cX9_scoreClearing 50 = .ok (.iload_n 3, 1) := by decide +kernel
theorem dX9_scoreClearing_51 : decode cX9_scoreClearing 51 = .ok (.ishr, 1) := by decide +kernel
theorem dX9_scoreClearing_52 : decode cX9_scoreClearing 52 = .ok (.iconst 1, 1) := by decide +kernel
theorem dX9_scoreClearing_53 : decode cX9_scoreClearing 53 = .ok (.iand, 1) := by decide +kernel
theorem dX9_scoreClearing_54 : decode cX9_scoreClearing 54 = .ok (.iconst 1, 1) := by decide +kernel
theorem dX9_scoreClearing_55 : decode cX9_scoreClearing 55 = .ok (.if_icmp .ne 13, 3) := by decide +kernel
theorem dX9_scoreClearing_58 : decode cX9_scoreClearing 58 = .ok (.aload_n 0, 1) := by decide +kernel
theorem dX9_scoreClearing_59 : decode cX9_scoreClearing 59 = .ok (.getfield 34, 3) := by decide +kernel
theorem dX9_scoreClearing_62 : decode cX9_scoreClearing 62 = .ok (.iload 4, 2) := by decide +kernel
theorem dX9_scoreClearing_64 : decode cX9_scoreClearing 64 = .ok (.iaload, 1) := by decide +kernel
theorem dX9_scoreClearing_65 : decode cX9_scoreClearing 65 = .ok (.goto 10, 3) := by decide +kernel
theorem dX9_scoreClearing_68 : decode cX9_scoreClearing 68 = .ok (.aload_n 0, 1) := by decide +kernel
theorem dX9_scoreClearing_69 : decode cX9_scoreClearing 69 = .ok (.getfield 31, 3) := by decide +kernel
theorem dX9_scoreClearing_72 : decode cX9_scoreClearing 72 = .ok (.iload 4, 2) := by decide +kernel
theorem dX9_scoreClearing_74 : decode cX9_scoreClearing 74 = .ok (.iaload, 1) := by decide +kernel
theorem dX9_scoreClearing_75 : decode cX9_scoreClearing 75 = .ok (.invokestatic 141, 3) := by decide +kernel
theorem dX9_scoreClearing_78 : decode cX9_scoreClearing 78 = .ok (.iastore, 1) := by decide +kernel
theorem dX9_scoreClearing_79 : decode cX9_scoreClearing 79 = .ok (.iinc 3 1, 3) := by decide +kernel
theorem dX9_scoreClearing_82 : decode cX9_scoreClearing 82 = .ok (.goto (-65), 3) := by decide +kernel
theorem dX9_scoreClearing_85 : decode cX9_scoreClearing 85 = .ok (.aload_n 0, 1) := by decide +kernel
theorem dX9_scoreClearing_86 : decode cX9_scoreClearing 86 = .ok (.invokevirtual 144, 3) := by decide +kernel
theorem dX9_scoreClearing_89 : decode cX9_scoreClearing 89 = .ok (.bipush 40, 2) := by decide +kernel
theorem dX9_scoreClearing_91 : decode cX9_scoreClearing 91 = .ok (.aload_n 0, 1) := by decide +kernel
theorem dX9_scoreClearing_92 : decode cX9_scoreClearing 92 = .ok (.getfield 132, 3) := by decide +kernel
theorem dX9_scoreClearing_95 : decode cX9_scoreClearing 95 = .ok (.isub, 1) := by decide +kernel
theorem dX9_scoreClearing_96 : decode cX9_scoreClearing 96 = .ok (.iconst 2, 1) := by decide +kernel
theorem dX9_scoreClearing_97 : decode cX9_scoreClearing 97 = .ok (.aload_n 0, 1) := by decide +kernel
theorem dX9_scoreClearing_98 : decode cX9_scoreClearing 98 = .ok (.getfield 135, 3) := by decide +kernel
theorem dX9_scoreClearing_101 : decode cX9_scoreClearing 101 = .ok (.imul, 1) := by decide +kernel
theorem dX9_scoreClearing_102 : decode cX9_scoreClearing 102 = .ok (.isub, 1) := by decide +kernel
theorem dX9_scoreClearing_103 : decode cX9_scoreClearing 103 = .ok (.aload_n 0, 1) := by decide +kernel
theorem dX9_scoreClearing_104 : decode cX9_scoreClearing 104 = .ok (.invokevirtual 147, 3) := by decide +kernel
theorem dX9_scoreClearing_107 : decode cX9_scoreClearing 107 = .ok (.isub, 1) := by decide +kernel
theorem dX9_scoreClearing_108 : decode cX9_scoreClearing 108 = .ok (.ireturn, 1) := by decide +kernel
theorem dX9_countOf_0 : decode cX9_countOf 0 = .ok (.iconst 0, 1) := by decide +kernel
theorem dX9_countOf_1 : decode cX9_countOf 1 = .ok (.istore_n 1, 1) := by decide +kernel
theorem dX9_countOf_2 : decode cX9_countOf 2 = .ok (.iconst 0, 1) := by decide +kernel
theorem dX9_countOf_3 : decode cX9_countOf 3 = .ok (.istore_n 2, 1) := by decide +kernel
theorem dX9_countOf_4 : decode cX9_countOf 4 = .ok (.iload_n 2, 1) := by decide +kernel
theorem dX9_countOf_5 : decode cX9_countOf 5 = .ok (.bipush 12, 2) := by decide +kernel
theorem dX9_countOf_7 : decode cX9_countOf 7 = .ok (.if_icmp .ge 17, 3) := by decide +kernel
theorem dX9_countOf_10 : decode cX9_countOf 10 = .ok (.iload_n 1, 1) := by decide +kernel
theorem dX9_countOf_11 : decode cX9_countOf 11 = .ok (.iload_n 0, 1) := by decide +kernel
theorem dX9_countOf_12 : decode cX9_countOf 12 = .ok (.iload_n 2, 1) := by decide +kernel
theorem dX9_countOf_13 : decode cX9_countOf 13 = .ok (.ishr, 1) := by decide +kernel
theorem dX9_countOf_14 : decode cX9_countOf 14 = .ok (.iconst 1, 1) := by decide +kernel
theorem dX9_countOf_15 : decode cX9_countOf 15 = .ok (.iand, 1) := by decide +kernel
theorem dX9_countOf_16 : decode cX9_countOf 16 = .ok (.iadd, 1) := by decide +kernel
theorem dX9_countOf_17 : decode cX9_countOf 17 = .ok (.istore_n 1, 1) := by decide +kernel
theorem dX9_countOf_18 : decode cX9_countOf 18 = .ok (.iinc 2 1, 3) := by decide +kernel
theorem dX9_countOf_21 : decode cX9_countOf 21 = .ok (.goto (-17), 3) := by decide +kernel
theorem dX9_countOf_24 : decode cX9_countOf 24 = .ok (.iload_n 1, 1) := by decide +kernel
theorem dX9_countOf_25 : decode cX9_countOf 25 = .ok (.ireturn, 1) := by decide +kernel
theorem dX9_clear_0 : decode cX9_clear 0 = .ok (.aload_n 0, 1) := by decide +kernel
theorem dX9_clear_1 : decode cX9_clear 1 = .ok (.iload_n 1, 1) := by decide +kernel
theorem dX9_clear_2 : decode cX9_clear 2 = .ok (.invokevirtual 162, 3) := by decide +kernel
theorem dX9_clear_5 : decode cX9_clear 5 = .ok (.ifCond .ne 5, 3) := by decide +kernel
theorem dX9_clear_8 : decode cX9_clear 8 = .ok (.iconst (-1), 1) := by decide +kernel
theorem dX9_clear_9 : decode cX9_clear 9 = .ok (.ireturn, 1) := by decide +kernel
theorem dX9_clear_10 : decode cX9_clear 10 = .ok (.iconst 0, 1) := by decide +kernel
theorem dX9_clear_11 : decode cX9_clear 11 = .ok (.istore_n 2, 1) := by decide +kernel
theorem dX9_clear_12 : decode cX9_clear 12 = .ok (.iconst 0, 1) := by decide +kernel
theorem dX9_clear_13 : decode cX9_clear 13 = .ok (.istore_n 3, 1) := by decide +kernel
theorem dX9_clear_14 : decode cX9_clear 14 = .ok (.iload_n 3, 1) := by decide +kernel
theorem dX9_clear_15 : decode cX9_clear 15 = .ok (.bipush 108, 2) := by decide +kernel
theorem dX9_clear_17 : decode cX9_clear 17 = .ok (.if_icmp .ge 88, 3) := by decide +kernel
theorem dX9_clear_20 : decode cX9_clear 20 = .ok (.aload_n 0, 1) := by decide +kernel
theorem dX9_clear_21 : decode cX9_clear 21 = .ok (.getfield 31, 3) := by decide +kernel
theorem dX9_clear_24 : decode cX9_clear 24 = .ok (.iload_n 3, 1) := by decide +kernel
theorem dX9_clear_25 : decode cX9_clear 25 = .ok (.aload_n 0, 1) := by decide +kernel
theorem dX9_clear_26 : decode cX9_clear 26 = .ok (.iload_n 1, 1) := by decide +kernel
theorem dX9_clear_27 : decode cX9_clear 27 = .ok (.iload_n 3, 1) := by decide +kernel
theorem dX9_clear_28 : decode cX9_clear 28 = .ok (.bipush 9, 2) := by decide +kernel
theorem dX9_clear_30 : decode cX9_clear 30 = .ok (.idiv, 1) := by decide +kernel
theorem dX9_clear_31 : decode cX9_clear 31 = .ok (.iload_n 3, 1) := by decide +kernel
theorem dX9_clear_32 : decode cX9_clear 32 = .ok (.bipush 9, 2) := by decide +kernel
theorem dX9_clear_34 : decode cX9_clear 34 = .ok (.irem, 1) := by decide +kernel
theorem dX9_clear_35 : decode cX9_clear 35 = .ok (.aload_n 0, 1) := by decide +kernel
theorem dX9_clear_36 : decode cX9_clear 36 = .ok (.getfield 9, 3) := by decide +kernel
theorem dX9_clear_39 : decode cX9_clear 39 = .ok (.bipush 19, 2) := by decide +kernel
theorem dX9_clear_41 : decode cX9_clear 41 = .ok (.iload_n 3, 1) := by decide +kernel
theorem dX9_clear_42 : decode cX9_clear 42 = .ok (.bipush 9, 2) := by decide +kernel
theorem dX9_clear_44 : decode cX9_clear 44 = .ok (.idiv, 1) := by decide +kernel
theorem dX9_clear_45 : decode cX9_clear 45 = .ok (.iadd, 1) := by decide +kernel
theorem dX9_clear_46 : decode cX9_clear 46 = .ok (.iaload, 1) := by decide +kernel
theorem dX9_clear_47 : decode cX9_clear 47 = .ok (.invokevirtual 138, 3) := by decide +kernel
theorem dX9_clear_50 : decode cX9_clear 50 = .ok (.iastore, 1) := by decide +kernel
theorem dX9_clear_51 : decode cX9_clear 51 = .ok (.aload_n 0, 1) := by decide +kernel
theorem dX9_clear_52 : decode cX9_clear 52 = .ok (.getfield 34, 3) := by decide +kernel
theorem dX9_clear_55 : decode cX9_clear 55 = .ok (.iload_n 3, 1) := by decide +kernel
theorem dX9_clear_56 : decode cX9_clear 56 = .ok (.aload_n 0, 1) := by decide +kernel
theorem dX9_clear_57 : decode cX9_clear 57 = .ok (.iload_n 1, 1) := by decide +kernel
theorem dX9_clear_58 : decode cX9_clear 58 = .ok (.iload_n 3, 1) := by decide +kernel
theorem dX9_clear_59 : decode cX9_clear 59 = .ok (.bipush 9, 2) := by decide +kernel
theorem dX9_clear_61 : decode cX9_clear 61 = .ok (.idiv, 1) := by decide +kernel
theorem dX9_clear_62 : decode cX9_clear 62 = .ok (.iload_n 3, 1) := by decide +kernel
theorem dX9_clear_63 : decode cX9_clear 63 = .ok (.bipush 9, 2) := by decide +kernel
theorem dX9_clear_65 : decode cX9_clear 65 = .ok (.irem, 1) := by decide +kernel
theorem dX9_clear_66 : decode cX9_clear 66 = .ok (.iconst 0, 1) := by decide +kernel
theorem dX9_clear_67 : decode cX9_clear 67 = .ok (.invokevirtual 138, 3) := by decide +kernel
theorem dX9_clear_70 : decode cX9_clear 70 = .ok (.iastore, 1) := by decide +kernel
theorem dX9_clear_71 : decode cX9_clear 71 = .ok (.iload_n 2, 1) := by decide +kernel
theorem dX9_clear_72 : decode cX9_clear 72 = .ok (.aload_n 0, 1) := by decide +kernel
theorem dX9_clear_73 : decode cX9_clear 73 = .ok (.getfield 9, 3) := by decide +kernel
theorem dX9_clear_76 : decode cX9_clear 76 = .ok (.bipush 19, 2) := by decide +kernel
theorem dX9_clear_78 : decode cX9_clear 78 = .ok (.iload_n 3, 1) := by decide +kernel
theorem dX9_clear_79 : decode cX9_clear 79 = .ok (.bipush 9, 2) := by decide +kernel
theorem dX9_clear_81 : decode cX9_clear 81 = .ok (.idiv, 1) := by decide +kernel
theorem dX9_clear_82 : decode cX9_clear 82 = .ok (.iadd, 1) := by decide +kernel
theorem dX9_clear_83 : decode cX9_clear 83 = .ok (.iaload, 1) := by decide +kernel
theorem dX9_clear_84 : decode cX9_clear 84 = .ok (.ifCond .le 12, 3) := by decide +kernel
theorem dX9_clear_87 : decode cX9_clear 87 = .ok (.iconst 1, 1) := by decide +kernel
theorem dX9_clear_88 : decode cX9_clear 88 = .ok (.iload_n 3, 1) := by decide +kernel
theorem dX9_clear_89 : decode cX9_clear 89 = .ok (.bipush 9, 2) := by decide +kernel
theorem dX9_clear_91 : decode cX9_clear 91 = .ok (.idiv, 1) := by decide +kernel
theorem dX9_clear_92 : decode cX9_clear 92 = .ok (.ishl, 1) := by decide +kernel
theorem dX9_clear_93 : decode cX9_clear 93 = .ok (.goto 4, 3) := by decide +kernel
theorem dX9_clear_96 : decode cX9_clear 96 = .ok (.iconst 0, 1) := by decide +kernel
theorem dX9_clear_97 : decode cX9_clear 97 = .ok (.ior, 1) := by decide +kernel
theorem dX9_clear_98 : decode cX9_clear 98 = .ok (.istore_n 2, 1) := by decide +kernel
theorem dX9_clear_99 : decode cX9_clear 99 = .ok (.iinc 3 1, 3) := by decide +kernel
theorem dX9_clear_102 : decode cX9_clear 102 = .ok (.goto (-88), 3) := by decide +kernel
theorem dX9_clear_105 : decode cX9_clear 105 = .ok (.bipush (-5), 2) := by decide +kernel
theorem dX9_clear_107 : decode cX9_clear 107 = .ok (.istore_n 3, 1) := by decide +kernel
theorem dX9_clear_108 : decode cX9_clear 108 = .ok (.iconst 0, 1) := by decide +kernel
theorem dX9_clear_109 : decode cX9_clear 109 = .ok (.istore 4, 2) := by decide +kernel
theorem dX9_clear_111 : decode cX9_clear 111 = .ok (.iload 4, 2) := by decide +kernel
theorem dX9_clear_113 : decode cX9_clear 113 = .ok (.sipush 4096, 3) := by decide +kernel
theorem dX9_clear_116 : decode cX9_clear 116 = .ok (.if_icmp .ge 74, 3) := by decide +kernel
theorem dX9_clear_119 : decode cX9_clear 119 = .ok (.iload 4, 2) := by decide +kernel
theorem dX9_clear_121 : decode cX9_clear 121 = .ok (.iload_n 2, 1) := by decide +kernel
theorem dX9_clear_122 : decode cX9_clear 122 = .ok (.iconst (-1), 1) := by decide +kernel
theorem dX9_clear_123 : decode cX9_clear 123 = .ok (.ixor, 1) := by decide +kernel
theorem dX9_clear_124 : decode cX9_clear 124 = .ok (.iand, 1) := by decide +kernel
theorem dX9_clear_125 : decode cX9_clear 125 = .ok (.ifCond .ne 25, 3) := by decide +kernel
theorem dX9_clear_128 : decode cX9_clear 128 = .ok (.iload_n 3, 1) := by decide +kernel
theorem dX9_clear_129 : decode cX9_clear 129 = .ok (.bipush (-5), 2) := by decide +kernel
theorem dX9_clear_131 : decode cX9_clear 131 = .ok (.if_icmp .eq 15, 3) := by decide +kernel
theorem dX9_clear_134 : decode cX9_clear 134 = .ok (.iload 4, 2) := by decide +kernel
theorem dX9_clear_136 : decode cX9_clear 136 = .ok (.invokestatic 200, 3) := by decide +kernel
theorem dX9_clear_139 : decode cX9_clear 139 = .ok (.iload_n 3, 1) := by decide +kernel
theorem dX9_clear_140 : decode cX9_clear 140 = .ok (.invokestatic 200, 3) := by decide +kernel
theorem dX9_clear_143 : decode cX9_clear 143 = .ok (.if_icmp .ge 7, 3) := by decide +kernel
theorem dX9_clear_146 : decode cX9_clear 146 = .ok (.iconst 1, 1) := by decide +kernel
theorem dX9_clear_147 : decode cX9_clear 147 = .ok (.goto 4, 3) := by decide +kernel
theorem dX9_clear_150 : decode cX9_clear 150 = .ok (.iconst 0, 1) := by decide +kernel
theorem dX9_clear_151 : decode cX9_clear 151 = .ok (.istore 5, 2) := by decide +kernel
theorem dX9_clear_153 : decode cX9_clear 153 = .ok (.iload 5, 2) := by decide +kernel
theorem dX9_clear_155 : decode cX9_clear 155 = .ok (.ifCond .eq 27, 3) := by decide +kernel
theorem dX9_clear_158 : decode cX9_clear 158 = .ok (.aload_n 0, 1) := by decide +kernel
theorem dX9_clear_159 : decode cX9_clear 159 = .ok (.iload_n 1, 1) := by decide +kernel
theorem dX9_clear_160 : decode cX9_clear 160 = .ok (.iload 4, 2) := by decide +kernel
theorem dX9_clear_162 : decode cX9_clear 162 = .ok (.invokevirtual 203, 3) := by decide +kernel
theorem dX9_clear_165 : decode cX9_clear 165 = .ok (.aload_n 0, 1) := by decide +kernel
theorem dX9_clear_166 : decode cX9_clear 166 = .ok (.sipush 238, 3) := by decide +kernel
theorem dX9_clear_169 : decode cX9_clear 169 = .ok (.bipush 30, 2) := by decide +kernel
theorem dX9_clear_171 : decode cX9_clear 171 = .ok (.invokevirtual 124, 3) := by decide +kernel
theorem dX9_clear_174 : decode cX9_clear 174 = .ok (.if_icmp .lt 8, 3) := by decide +kernel
theorem dX9_clear_177 : decode cX9_clear 177 = .ok (.iload 4, 2) := by decide +kernel
theorem dX9_clear_179 : decode cX9_clear 179 = .ok (.goto 4, 3) := by decide +kernel
theorem dX9_clear_182 : decode cX9_clear 182 = .ok (.iload_n 3, 1) := by decide +kernel
theorem dX9_clear_183 : decode cX9_clear 183 = .ok (.istore_n 3, 1) := by decide +kernel
theorem dX9_clear_184 : decode cX9_clear 184 = .ok (.iinc 4 1, 3) := by decide +kernel
theorem dX9_clear_187 : decode cX9_clear 187 = .ok (.goto (-76), 3) := by decide +kernel
theorem dX9_clear_190 : decode cX9_clear 190 = .ok (.iload_n 3, 1) := by decide +kernel
theorem dX9_clear_191 : decode cX9_clear 191 = .ok (.ireturn, 1) := by decide +kernel
theorem dX9_bar_0 : decode cX9_bar 0 = .ok (.iload_n 1, 1) := by decide +kernel
theorem dX9_bar_1 : decode cX9_bar 1 = .ok (.iconst 0, 1) := by decide +kernel
theorem dX9_bar_2 : decode cX9_bar 2 = .ok (.bipush 6, 2) := by decide +kernel
theorem dX9_bar_4 : decode cX9_bar 4 = .ok (.invokestatic 44, 3) := by decide +kernel
theorem dX9_bar_7 : decode cX9_bar 7 = .ok (.ifCond .ne 6, 3) := by decide +kernel
theorem dX9_bar_10 : decode cX9_bar 10 = .ok (.bipush (-2), 2) := by decide +kernel
theorem dX9_bar_12 : decode cX9_bar 12 = .ok (.ireturn, 1) := by decide +kernel
theorem dX9_bar_13 : decode cX9_bar 13 = .ok (.iconst 0, 1) := by decide +kernel
theorem dX9_bar_14 : decode cX9_bar 14 = .ok (.istore_n 2, 1) := by decide +kernel
theorem dX9_bar_15 : decode cX9_bar 15 = .ok (.iload_n 2, 1) := by decide +kernel
theorem dX9_bar_16 : decode cX9_bar 16 = .ok (.bipush 60, 2) := by decide +kernel
theorem dX9_bar_18 : decode cX9_bar 18 = .ok (.if_icmp .gt 70, 3) := by decide +kernel
theorem dX9_bar_21 : decode cX9_bar 21 = .ok (.iconst 0, 1) := by decide +kernel
theorem dX9_bar_22 : decode cX9_bar 22 = .ok (.istore_n 3, 1) := by decide +kernel
theorem dX9_bar_23 : decode cX9_bar 23 = .ok (.iconst 0, 1) := by decide +kernel
theorem dX9_bar_24 : decode cX9_bar 24 = .ok (.istore 4, 2) := by decide +kernel
theorem dX9_bar_26 : decode cX9_bar 26 = .ok (.iload 4, 2) := by decide +kernel
theorem dX9_bar_28 : decode cX9_bar 28 = .ok (.aload_n 0, 1) := by decide +kernel
theorem dX9_bar_29 : decode cX9_bar 29 = .ok (.getfield 9, 3) := by decide +kernel
theorem dX9_bar_32 : decode cX9_bar 32 = .ok (.bipush 31, 2) := by decide +kernel
theorem dX9_bar_34 : decode cX9_bar 34 = .ok (.iaload, 1) := by decide +kernel
theorem dX9_bar_35 : decode cX9_bar 35 = .ok (.if_icmp .ge 40, 3) := by decide +kernel
theorem dX9_bar_38 : decode cX9_bar 38 = .ok (.iload_n 3, 1) := by decide +kernel
theorem dX9_bar_39 : decode cX9_bar 39 = .ok (.aload_n 0, 1) := by decide +kernel
theorem dX9_bar_40 : decode cX9_bar 40 = .ok (.getfield 9, 3) := by decide +kernel
theorem dX9_bar_43 : decode cX9_bar 43 = .ok (.bipush 7, 2) := by decide +kernel
theorem dX9_bar_45 : decode cX9_bar 45 = .ok (.iload 4, 2) := by decide +kernel
theorem dX9_bar_47 : decode cX9_bar 47 = .ok (.iadd, 1) := by decide +kernel
theorem dX9_bar_48 : decode cX9_bar 48 = .ok (.iaload, 1) := by decide +kernel
theorem dX9_bar_49 : decode cX9_bar 49 = .ok (.ifCond .ne 17, 3) := by decide +kernel
theorem dX9_bar_52 : decode cX9_bar 52 = .ok (.aload_n 0, 1) := by decide +kernel
theorem dX9_bar_53 : decode cX9_bar 53 = .ok (.iload 4, 2) := by decide +kernel
theorem dX9_bar_55 : decode cX9_bar 55 = .ok (.invokevirtual 154, 3) := by decide +kernel
theorem dX9_bar_58 : decode cX9_bar 58 = .ok (.iload_n 2, 1) := by decide +kernel
theorem dX9_bar_59 : decode cX9_bar 59 = .ok (.if_icmp .lt 7, 3) := by decide +kernel
theorem dX9_bar_62 : decode cX9_bar 62 = .ok (.iconst 1, 1) := by decide +kernel
theorem dX9_bar_63 : decode cX9_bar 63 = .ok (.goto 4, 3) := by decide +kernel
theorem dX9_bar_66 : decode cX9_bar 66 = .ok (.iconst 0, 1) := by decide +kernel
theorem dX9_bar_67 : decode cX9_bar 67 = .ok (.iadd, 1) := by decide +kernel
theorem dX9_bar_68 : decode cX9_bar 68 = .ok (.istore_n 3, 1) := by decide +kernel
theorem dX9_bar_69 : decode cX9_bar 69 = .ok (.iinc 4 1, 3) := by decide +kernel
theorem dX9_bar_72 : decode cX9_bar 72 = .ok (.goto (-46), 3) := by decide +kernel
theorem dX9_bar_75 : decode cX9_bar 75 = .ok (.iload_n 3, 1) := by decide +kernel
theorem dX9_bar_76 : decode cX9_bar 76 = .ok (.iload_n 1, 1) := by decide +kernel
theorem dX9_bar_77 : decode cX9_bar 77 = .ok (.if_icmp .gt 5, 3) := by decide +kernel
theorem dX9_bar_80 : decode cX9_bar 80 = .ok (.iload_n 2, 1) := by decide +kernel
theorem dX9_bar_81 : decode cX9_bar 81 = .ok (.ireturn, 1) := by decide +kernel
theorem dX9_bar_82 : decode cX9_bar 82 = .ok (.iinc 2 1, 3) := by decide +kernel
theorem dX9_bar_85 : decode cX9_bar 85 = .ok (.goto (-70), 3) := by decide +kernel
theorem dX9_bar_88 : decode cX9_bar 88 = .ok (.bipush (-5), 2) := by decide +kernel
theorem dX9_bar_90 : decode cX9_bar 90 = .ok (.ireturn, 1) := by decide +kernel
theorem dX9_see_0 : decode cX9_see 0 = .ok (.iload_n 1, 1) := by decide +kernel
theorem dX9_see_1 : decode cX9_see 1 = .ok (.iconst (-1), 1) := by decide +kernel
theorem dX9_see_2 : decode cX9_see 2 = .ok (.if_icmp .ne 13, 3) := by decide +kernel
theorem dX9_see_5 : decode cX9_see 5 = .ok (.aload_n 0, 1) := by decide +kernel
theorem dX9_see_6 : decode cX9_see 6 = .ok (.getfield 9, 3) := by decide +kernel
theorem dX9_see_9 : decode cX9_see 9 = .ok (.bipush 34, 2) := by decide +kernel
theorem dX9_see_11 : decode cX9_see 11 = .ok (.iconst 0, 1) := by decide +kernel
theorem dX9_see_12 : decode cX9_see 12 = .ok (.iastore, 1) := by decide +kernel
theorem dX9_see_13 : decode cX9_see 13 = .ok (.iconst 0, 1) := by decide +kernel
theorem dX9_see_14 : decode cX9_see 14 = .ok (.ireturn, 1) := by decide +kernel
theorem dX9_see_15 : decode cX9_see 15 = .ok (.aload_n 0, 1) := by decide +kernel
theorem dX9_see_16 : decode cX9_see 16 = .ok (.iload_n 1, 1) := by decide +kernel
theorem dX9_see_17 : decode cX9_see 17 = .ok (.invokevirtual 162, 3) := by decide +kernel
theorem dX9_see_20 : decode cX9_see 20 = .ok (.ifCond .eq 20, 3) := by decide +kernel
theorem dX9_see_23 : decode cX9_see 23 = .ok (.iload_n 2, 1) := by decide +kernel
theorem dX9_see_24 : decode cX9_see 24 = .ok (.iconst 0, 1) := by decide +kernel
theorem dX9_see_25 : decode cX9_see 25 = .ok (.bipush 12, 2) := by decide +kernel
theorem dX9_see_27 : decode cX9_see 27 = .ok (.invokestatic 44, 3) := by decide +kernel
theorem dX9_see_30 : decode cX9_see 30 = .ok (.ifCond .eq 10, 3) := by decide +kernel
theorem dX9_see_33 : decode cX9_see 33 = .ok (.iload_n 3, 1) := by decide +kernel
theorem dX9_see_34 : decode cX9_see 34 = .ok (.invokestatic 158, 3) := by decide +kernel
theorem dX9_see_37 : decode cX9_see 37 = .ok (.ifCond .ne 5, 3) := by decide +kernel
theorem dX9_see_40 : decode cX9_see 40 = .ok (.iconst (-1), 1) := by decide +kernel
theorem dX9_see_41 : decode cX9_see 41 = .ok (.ireturn, 1) := by decide +kernel
theorem dX9_see_42 : decode cX9_see 42 = .ok (.aload_n 0, 1) := by decide +kernel
theorem dX9_see_43 : decode cX9_see 43 = .ok (.getfield 9, 3) := by decide +kernel
theorem dX9_see_46 : decode cX9_see 46 = .ok (.bipush 34, 2) := by decide +kernel
theorem dX9_see_48 : decode cX9_see 48 = .ok (.iaload, 1) := by decide +kernel
theorem dX9_see_49 : decode cX9_see 49 = .ok (.iconst 5, 1) := by decide +kernel
theorem dX9_see_50 : decode cX9_see 50 = .ok (.if_icmp .ne 6, 3) := by decide +kernel
theorem dX9_see_53 : decode cX9_see 53 = .ok (.bipush (-4), 2) := by decide +kernel
theorem dX9_see_55 : decode cX9_see 55 = .ok (.ireturn, 1) := by decide +kernel
theorem dX9_see_56 : decode cX9_see 56 = .ok (.aload_n 0, 1) := by decide +kernel
theorem dX9_see_57 : decode cX9_see 57 = .ok (.getfield 9, 3) := by decide +kernel
theorem dX9_see_60 : decode cX9_see 60 = .ok (.bipush 91, 2) := by decide +kernel
theorem dX9_see_62 : decode cX9_see 62 = .ok (.aload_n 0, 1) := by decide +kernel
theorem dX9_see_63 : decode cX9_see 63 = .ok (.getfield 9, 3) := by decide +kernel
theorem dX9_see_66 : decode cX9_see 66 = .ok (.bipush 34, 2) := by decide +kernel
theorem dX9_see_68 : decode cX9_see 68 = .ok (.iaload, 1) := by decide +kernel
theorem dX9_see_69 : decode cX9_see 69 = .ok (.iadd, 1) := by decide +kernel
theorem dX9_see_70 : decode cX9_see 70 = .ok (.iload_n 1, 1) := by decide +kernel
theorem dX9_see_71 : decode cX9_see 71 = .ok (.iastore, 1) := by decide +kernel
theorem dX9_see_72 : decode cX9_see 72 = .ok (.aload_n 0, 1) := by decide +kernel
theorem dX9_see_73 : decode cX9_see 73 = .ok (.getfield 9, 3) := by decide +kernel
theorem dX9_see_76 : decode cX9_see 76 = .ok (.bipush 96, 2) := by decide +kernel
theorem dX9_see_78 : decode cX9_see 78 = .ok (.aload_n 0, 1) := by decide +kernel
theorem dX9_see_79 : decode cX9_see 79 = .ok (.getfield 9, 3) := by decide +kernel
theorem dX9_see_82 : decode cX9_see 82 = .ok (.bipush 34, 2) := by decide +kernel
theorem dX9_see_84 : decode cX9_see 84 = .ok (.iaload, 1) := by decide +kernel
theorem dX9_see_85 : decode cX9_see 85 = .ok (.iadd, 1) := by decide +kernel
theorem dX9_see_86 : decode cX9_see 86 = .ok (.iload_n 2, 1) := by decide +kernel
theorem dX9_see_87 : decode cX9_see 87 = .ok (.iastore, 1) := by decide +kernel
theorem dX9_see_88 : decode cX9_see 88 = .ok (.aload_n 0, 1) := by decide +kernel
theorem dX9_see_89 : decode cX9_see 89 = .ok (.getfield 9, 3) := by decide +kernel
theorem dX9_see_92 : decode cX9_see 92 = .ok (.bipush 101, 2) := by decide +kernel
theorem dX9_see_94 : decode cX9_see 94 = .ok (.aload_n 0, 1) := by decide +kernel
theorem dX9_see_95 : decode cX9_see 95 = .ok (.getfield 9, 3) := by decide +kernel
theorem dX9_see_98 : decode cX9_see 98 = .ok (.bipush 34, 2) := by decide +kernel
theorem dX9_see_100 : decode cX9_see 100 = .ok (.iaload, 1) := by decide +kernel
theorem dX9_see_101 : decode cX9_see 101 = .ok (.iadd, 1) := by decide +kernel
theorem dX9_see_102 : decode cX9_see 102 = .ok (.iload_n 3, 1) := by decide +kernel
theorem dX9_see_103 : decode cX9_see 103 = .ok (.iastore, 1) := by decide +kernel
theorem dX9_see_104 : decode cX9_see 104 = .ok (.aload_n 0, 1) := by decide +kernel
theorem dX9_see_105 : decode cX9_see 105 = .ok (.getfield 9, 3) := by decide +kernel
theorem dX9_see_108 : decode cX9_see 108 = .ok (.bipush 34, 2) := by decide +kernel
theorem dX9_see_110 : decode cX9_see 110 = .ok (.dup2, 1) := by decide +kernel
theorem dX9_see_111 : decode cX9_see 111 = .ok (.iaload, 1) := by decide +kernel
theorem dX9_see_112 : decode cX9_see 112 = .ok (.iconst 1, 1) := by decide +kernel
theorem dX9_see_113 : decode cX9_see 113 = .ok (.iadd, 1) := by decide +kernel
theorem dX9_see_114 : decode cX9_see 114 = .ok (.iastore, 1) := by decide +kernel
theorem dX9_see_115 : decode cX9_see 115 = .ok (.aload_n 0, 1) := by decide +kernel
theorem dX9_see_116 : decode cX9_see 116 = .ok (.getfield 9, 3) := by decide +kernel
theorem dX9_see_119 : decode cX9_see 119 = .ok (.bipush 34, 2) := by decide +kernel
theorem dX9_see_121 : decode cX9_see 121 = .ok (.iaload, 1) := by decide +kernel
theorem dX9_see_122 : decode cX9_see 122 = .ok (.ireturn, 1) := by decide +kernel
theorem dX9_isAsSeen_0 : decode cX9_isAsSeen 0 = .ok (.aload_n 0, 1) := by decide +kernel
theorem dX9_isAsSeen_1 : decode cX9_isAsSeen 1 = .ok (.iload_n 1, 1) := by decide +kernel
theorem dX9_isAsSeen_2 : decode cX9_isAsSeen 2 = .ok (.iload_n 2, 1) := by decide +kernel
theorem dX9_isAsSeen_3 : decode cX9_isAsSeen 3 = .ok (.invokevirtual 150, 3) := by decide +kernel
theorem dX9_isAsSeen_6 : decode cX9_isAsSeen 6 = .ok (.pop, 1) := by decide +kernel
theorem dX9_isAsSeen_7 : decode cX9_isAsSeen 7 = .ok (.iconst 1, 1) := by decide +kernel
theorem dX9_isAsSeen_8 : decode cX9_isAsSeen 8 = .ok (.istore_n 3, 1) := by decide +kernel
theorem dX9_isAsSeen_9 : decode cX9_isAsSeen 9 = .ok (.iconst 0, 1) := by decide +kernel
theorem dX9_isAsSeen_10 : decode cX9_isAsSeen 10 = .ok (.istore 4, 2) := by decide +kernel
theorem dX9_isAsSeen_12 : decode cX9_isAsSeen 12 = .ok (.iload 4, 2) := by decide +kernel
theorem dX9_isAsSeen_14 : decode cX9_isAsSeen 14 = .ok (.aload_n 0, 1) := by decide +kernel
theorem dX9_isAsSeen_15 : decode cX9_isAsSeen 15 = .ok (.getfield 9, 3) := by decide +kernel
theorem dX9_isAsSeen_18 : decode cX9_isAsSeen 18 = .ok (.bipush 34, 2) := by decide +kernel
theorem dX9_isAsSeen_20 : decode cX9_isAsSeen 20 = .ok (.iaload, 1) := by decide +kernel
theorem dX9_isAsSeen_21 : decode cX9_isAsSeen 21 = .ok (.if_icmp .ge 61, 3) := by decide +kernel
theorem dX9_isAsSeen_24 : decode cX9_isAsSeen 24 = .ok (.iload_n 3, 1) := by decide +kernel
theorem dX9_isAsSeen_25 : decode cX9_isAsSeen 25 = .ok (.ifCond .eq 49, 3) := by decide +kernel
theorem dX9_isAsSeen_28 : decode cX9_isAsSeen 28 = .ok (.aload_n 0, 1) := by decide +kernel
theorem dX9_isAsSeen_29 : decode cX9_isAsSeen 29 = .ok (.getfield 9, 3) := by decide +kernel
theorem dX9_isAsSeen_32 : decode cX9_isAsSeen 32 = .ok (.bipush 91, 2) := by decide +kernel
theorem dX9_isAsSeen_34 : decode cX9_isAsSeen 34 = .ok (.iload 4, 2) := by decide +kernel
theorem dX9_isAsSeen_36 : decode cX9_isAsSeen 36 = .ok (.iadd, 1) := by decide +kernel
theorem dX9_isAsSeen_37 : decode cX9_isAsSeen 37 = .ok (.iaload, 1) := by decide +kernel
theorem dX9_isAsSeen_38 : decode cX9_isAsSeen 38 = .ok (.iload_n 1, 1) := by decide +kernel
theorem dX9_isAsSeen_39 : decode cX9_isAsSeen 39 = .ok (.if_icmp .ne 31, 3) := by decide +kernel
theorem dX9_isAsSeen_42 : decode cX9_isAsSeen 42 = .ok (.aload_n 0, 1) := by decide +kernel
theorem dX9_isAsSeen_43 : decode cX9_isAsSeen 43 = .ok (.getfield 28, 3) := by decide +kernel
theorem dX9_isAsSeen_46 : decode cX9_isAsSeen 46 = .ok (.aload_n 0, 1) := by decide +kernel
theorem dX9_isAsSeen_47 : decode cX9_isAsSeen 47 = .ok (.getfield 9, 3) := by decide +kernel
theorem dX9_isAsSeen_50 : decode cX9_isAsSeen 50 = .ok (.bipush 96, 2) := by decide +kernel
theorem dX9_isAsSeen_52 : decode cX9_isAsSeen 52 = .ok (.iload 4, 2) := by decide +kernel
theorem dX9_isAsSeen_54 : decode cX9_isAsSeen 54 = .ok (.iadd, 1) := by decide +kernel
theorem dX9_isAsSeen_55 : decode cX9_isAsSeen 55 = .ok (.iaload, 1) := by decide +kernel
theorem dX9_isAsSeen_56 : decode cX9_isAsSeen 56 = .ok (.iaload, 1) := by decide +kernel
theorem dX9_isAsSeen_57 : decode cX9_isAsSeen 57 = .ok (.aload_n 0, 1) := by decide +kernel
theorem dX9_isAsSeen_58 : decode cX9_isAsSeen 58 = .ok (.getfield 9, 3) := by decide +kernel
theorem dX9_isAsSeen_61 : decode cX9_isAsSeen 61 = .ok (.bipush 101, 2) := by decide +kernel
theorem dX9_isAsSeen_63 : decode cX9_isAsSeen 63 = .ok (.iload 4, 2) := by decide +kernel
theorem dX9_isAsSeen_65 : decode cX9_isAsSeen 65 = .ok (.iadd, 1) := by decide +kernel
theorem dX9_isAsSeen_66 : decode cX9_isAsSeen 66 = .ok (.iaload, 1) := by decide +kernel
theorem dX9_isAsSeen_67 : decode cX9_isAsSeen 67 = .ok (.if_icmp .ne 7, 3) := by decide +kernel
theorem dX9_isAsSeen_70 : decode cX9_isAsSeen 70 = .ok (.iconst 1, 1) := by decide +kernel
theorem dX9_isAsSeen_71 : decode cX9_isAsSeen 71 = .ok (.goto 4, 3) := by decide +kernel
theorem dX9_isAsSeen_74 : decode cX9_isAsSeen 74 = .ok (.iconst 0, 1) := by decide +kernel
theorem dX9_isAsSeen_75 : decode cX9_isAsSeen 75 = .ok (.istore_n 3, 1) := by decide +kernel
theorem dX9_isAsSeen_76 : decode cX9_isAsSeen 76 = .ok (.iinc 4 1, 3) := by decide +kernel
theorem dX9_isAsSeen_79 : decode cX9_isAsSeen 79 = .ok (.goto (-67), 3) := by decide +kernel
theorem dX9_isAsSeen_82 : decode cX9_isAsSeen 82 = .ok (.iload_n 3, 1) := by decide +kernel
theorem dX9_isAsSeen_83 : decode cX9_isAsSeen 83 = .ok (.ireturn, 1) := by decide +kernel
theorem dX9_from_0 : decode cX9_from 0 = .ok (.aload_n 0, 1) := by decide +kernel
theorem dX9_from_1 : decode cX9_from 1 = .ok (.iload_n 1, 1) := by decide +kernel
theorem dX9_from_2 : decode cX9_from 2 = .ok (.invokevirtual 162, 3) := by decide +kernel
theorem dX9_from_5 : decode cX9_from 5 = .ok (.ifCond .ne 5, 3) := by decide +kernel
theorem dX9_from_8 : decode cX9_from 8 = .ok (.iconst (-1), 1) := by decide +kernel
theorem dX9_from_9 : decode cX9_from 9 = .ok (.ireturn, 1) := by decide +kernel
theorem dX9_from_10 : decode cX9_from 10 = .ok (.iconst 0, 1) := by decide +kernel
theorem dX9_from_11 : decode cX9_from 11 = .ok (.istore_n 2, 1) := by decide +kernel
theorem dX9_from_12 : decode cX9_from 12 = .ok (.iconst 0, 1) := by decide +kernel
theorem dX9_from_13 : decode cX9_from 13 = .ok (.istore_n 3, 1) := by decide +kernel
theorem dX9_from_14 : decode cX9_from 14 = .ok (.iload_n 3, 1) := by decide +kernel
theorem dX9_from_15 : decode cX9_from 15 = .ok (.bipush 9, 2) := by decide +kernel
theorem dX9_from_17 : decode cX9_from 17 = .ok (.if_icmp .ge 28, 3) := by decide +kernel
theorem dX9_from_20 : decode cX9_from 20 = .ok (.iload_n 2, 1) := by decide +kernel
theorem dX9_from_21 : decode cX9_from 21 = .ok (.aload_n 0, 1) := by decide +kernel
theorem dX9_from_22 : decode cX9_from 22 = .ok (.iload_n 1, 1) := by decide +kernel
theorem dX9_from_23 : decode cX9_from 23 = .ok (.iload_n 3, 1) := by decide +kernel
theorem dX9_from_24 : decode cX9_from 24 = .ok (.invokevirtual 206, 3) := by decide +kernel
theorem dX9_from_27 : decode cX9_from 27 = .ok (.ifCond .eq 9, 3) := by decide +kernel
theorem dX9_from_30 : decode cX9_from 30 = .ok (.iconst 1, 1) := by decide +kernel
theorem dX9_from_31 : decode cX9_from 31 = .ok (.iload_n 3, 1) := by decide +kernel
theorem dX9_from_32 : decode cX9_from 32 = .ok (.ishl, 1) := by decide +kernel
theorem dX9_from_33 : decode cX9_from 33 = .ok (.goto 4, 3) := by decide +kernel
theorem dX9_from_36 : decode cX9_from 36 = .ok (.iconst 0, 1) := by decide +kernel
theorem dX9_from_37 : decode cX9_from 37 = .ok (.ior, 1) := by decide +kernel
theorem dX9_from_38 : decode cX9_from 38 = .ok (.istore_n 2, 1) := by decide +kernel
theorem dX9_from_39 : decode cX9_from 39 = .ok (.iinc 3 1, 3) := by decide +kernel
theorem dX9_from_42 : decode cX9_from 42 = .ok (.goto (-28), 3) := by decide +kernel
theorem dX9_from_45 : decode cX9_from 45 = .ok (.iload_n 2, 1) := by decide +kernel
theorem dX9_from_46 : decode cX9_from 46 = .ok (.ireturn, 1) := by decide +kernel
theorem dX9_firm_0 : decode cX9_firm 0 = .ok (.aload_n 0, 1) := by decide +kernel
theorem dX9_firm_1 : decode cX9_firm 1 = .ok (.iload_n 1, 1) := by decide +kernel
theorem dX9_firm_2 : decode cX9_firm 2 = .ok (.invokevirtual 162, 3) := by decide +kernel
theorem dX9_firm_5 : decode cX9_firm 5 = .ok (.ifCond .eq 12, 3) := by decide +kernel
theorem dX9_firm_8 : decode cX9_firm 8 = .ok (.iload_n 2, 1) := by decide +kernel
theorem dX9_firm_9 : decode cX9_firm 9 = .ok (.iconst 0, 1) := by decide +kernel
theorem dX9_firm_10 : decode cX9_firm 10 = .ok (.iconst 1, 1) := by decide +kernel
theorem dX9_firm_11 : decode cX9_firm 11 = .ok (.invokestatic 44, 3) := by decide +kernel
theorem dX9_firm_14 : decode cX9_firm 14 = .ok (.ifCond .ne 5, 3) := by decide +kernel
theorem dX9_firm_17 : decode cX9_firm 17 = .ok (.iconst (-1), 1) := by decide +kernel
theorem dX9_firm_18 : decode cX9_firm 18 = .ok (.ireturn, 1) := by decide +kernel
theorem dX9_firm_19 : decode cX9_firm 19 = .ok (.aload_n 0, 1) := by decide +kernel
theorem dX9_firm_20 : decode cX9_firm 20 = .ok (.getfield 9, 3) := by decide +kernel
theorem dX9_firm_23 : decode cX9_firm 23 = .ok (.bipush 45, 2) := by decide +kernel
theorem dX9_firm_25 : decode cX9_firm 25 = .ok (.iload_n 1, 1) := by decide +kernel
theorem dX9_firm_26 : decode cX9_firm 26 = .ok (.iadd, 1) := by decide +kernel
theorem dX9_firm_27 : decode cX9_firm 27 = .ok (.iaload, 1) := by decide +kernel
theorem dX9_firm_28 : decode cX9_firm 28 = .ok (.istore_n 3, 1) := by decide +kernel
theorem dX9_firm_29 : decode cX9_firm 29 = .ok (.iconst 0, 1) := by decide +kernel
theorem dX9_firm_30 : decode cX9_firm 30 = .ok (.istore 4, 2) := by decide +kernel
theorem dX9_firm_32 : decode cX9_firm 32 = .ok (.bipush (-5), 2) := by decide +kernel
theorem dX9_firm_34 : decode cX9_firm 34 = .ok (.istore 5, 2) := by decide +kernel
theorem dX9_firm_36 : decode cX9_firm 36 = .ok (.bipush 9, 2) := by decide +kernel
theorem dX9_firm_38 : decode cX9_firm 38 = .ok (.istore 6, 2) := by decide +kernel
theorem dX9_firm_40 : decode cX9_firm 40 = .ok (.iload 6, 2) := by decide +kernel
theorem dX9_firm_42 : decode cX9_firm 42 = .ok (.ifCond .lt 65, 3) := by decide +kernel
theorem dX9_firm_45 : decode cX9_firm 45 = .ok (.aload_n 0, 1) := by decide +kernel
theorem dX9_firm_46 : decode cX9_firm 46 = .ok (.getfield 9, 3) := by decide +kernel
theorem dX9_firm_49 : decode cX9_firm 49 = .ok (.bipush 45, 2) := by decide +kernel
theorem dX9_firm_51 : decode cX9_firm 51 = .ok (.iload_n 1, 1) := by decide +kernel
theorem dX9_firm_52 : decode cX9_firm 52 = .ok (.iadd, 1) := by decide +kernel
theorem dX9_firm_53 : decode cX9_firm 53 = .ok (.iload 6, 2) := by decide +kernel
theorem dX9_firm_55 : decode cX9_firm 55 = .ok (.iastore, 1) := by decide +kernel
theorem dX9_firm_56 : decode cX9_firm 56 = .ok (.aload_n 0, 1) := by decide +kernel
theorem dX9_firm_57 : decode cX9_firm 57 = .ok (.iload_n 1, 1) := by decide +kernel
theorem dX9_firm_58 : decode cX9_firm 58 = .ok (.aload_n 0, 1) := by decide +kernel
theorem dX9_firm_59 : decode cX9_firm 59 = .ok (.getfield 9, 3) := by decide +kernel
theorem dX9_firm_62 : decode cX9_firm 62 = .ok (.bipush 51, 2) := by decide +kernel
theorem dX9_firm_64 : decode cX9_firm 64 = .ok (.iload_n 1, 1) := by decide +kernel
theorem dX9_firm_65 : decode cX9_firm 65 = .ok (.iadd, 1) := by decide +kernel
theorem dX9_firm_66 : decode cX9_firm 66 = .ok (.iaload, 1) := by decide +kernel
theorem dX9_firm_67 : decode cX9_firm 67 = .ok (.invokevirtual 206, 3) := by decide +kernel
theorem dX9_firm_70 : decode cX9_firm 70 = .ok (.istore 7, 2) := by decide +kernel
theorem dX9_firm_72 : decode cX9_firm 72 = .ok (.iload 4, 2) := by decide +kernel
theorem dX9_firm_74 : decode cX9_firm 74 = .ok (.iload 7, 2) := by decide +kernel
theorem dX9_firm_76 : decode cX9_firm 76 = .ok (.ifCond .eq 7, 3) := by decide +kernel
theorem dX9_firm_79 : decode cX9_firm 79 = .ok (.iconst 1, 1) := by decide +kernel
theorem dX9_firm_80 : decode cX9_firm 80 = .ok (.goto 4, 3) := by decide +kernel
theorem dX9_firm_83 : decode cX9_firm 83 = .ok (.iconst 0, 1) := by decide +kernel
theorem dX9_firm_84 : decode cX9_firm 84 = .ok (.iadd, 1) := by decide +kernel
theorem dX9_firm_85 : decode cX9_firm 85 = .ok (.istore 4, 2) := by decide +kernel
theorem dX9_firm_87 : decode cX9_firm 87 = .ok (.iload 7, 2) := by decide +kernel
theorem dX9_firm_89 : decode cX9_firm 89 = .ok (.ifCond .eq 8, 3) := by decide +kernel
theorem dX9_firm_92 : decode cX9_firm 92 = .ok (.iload 6, 2) := by decide +kernel
theorem dX9_firm_94 : decode cX9_firm 94 = .ok (.goto 5, 3) := by decide +kernel
theorem dX9_firm_97 : decode cX9_firm 97 = .ok (.iload 5, 2) := by decide +kernel
theorem dX9_firm_99 : decode cX9_firm 99 = .ok (.istore 5, 2) := by decide +kernel
theorem dX9_firm_101 : decode cX9_firm 101 = .ok (.iinc 6 (-1), 3) := by decide +kernel
theorem dX9_firm_104 : decode cX9_firm 104 = .ok (.goto (-64), 3) := by decide +kernel
theorem dX9_firm_107 : decode cX9_firm 107 = .ok (.aload_n 0, 1) := by decide +kernel
theorem dX9_firm_108 : decode cX9_firm 108 = .ok (.getfield 9, 3) := by decide +kernel
theorem dX9_firm_111 : decode cX9_firm 111 = .ok (.bipush 45, 2) := by decide +kernel
theorem dX9_firm_113 : decode cX9_firm 113 = .ok (.iload_n 1, 1) := by decide +kernel
theorem dX9_firm_114 : decode cX9_firm 114 = .ok (.iadd, 1) := by decide +kernel
theorem dX9_firm_115 : decode cX9_firm 115 = .ok (.iload_n 3, 1) := by decide +kernel
theorem dX9_firm_116 : decode cX9_firm 116 = .ok (.iastore, 1) := by decide +kernel
theorem dX9_firm_117 : decode cX9_firm 117 = .ok (.iload_n 2, 1) := by decide +kernel
theorem dX9_firm_118 : decode cX9_firm 118 = .ok (.ifCond .ne 8, 3) := by decide +kernel
theorem dX9_firm_121 : decode cX9_firm 121 = .ok (.iload 4, 2) := by decide +kernel
theorem dX9_firm_123 : decode cX9_firm 123 = .ok (.goto 5, 3) := by decide +kernel
theorem dX9_firm_126 : decode cX9_firm 126 = .ok (.iload 5, 2) := by decide +kernel
theorem dX9_firm_128 : decode cX9_firm 128 = .ok (.ireturn, 1) := by decide +kernel
theorem dX9_lowest_0 : decode cX9_lowest 0 = .ok (.lload_n 0, 1) := by decide +kernel
theorem dX9_lowest_1 : decode cX9_lowest 1 = .ok (.lconst 0, 1) := by decide +kernel
theorem dX9_lowest_2 : decode cX9_lowest 2 = .ok (.lcmp, 1) := by decide +kernel
theorem dX9_lowest_3 : decode cX9_lowest 3 = .ok (.ifCond .ge 8, 3) := by decide +kernel
theorem dX9_lowest_6 : decode cX9_lowest 6 = .ok (.lload_n 0, 1) := by decide +kernel
theorem dX9_lowest_7 : decode cX9_lowest 7 = .ok (.lneg, 1) := by decide +kernel
theorem dX9_lowest_8 : decode cX9_lowest 8 = .ok (.goto 4, 3) := by decide +kernel
theorem dX9_lowest_11 : decode cX9_lowest 11 = .ok (.lload_n 0, 1) := by decide +kernel
theorem dX9_lowest_12 : decode cX9_lowest 12 = .ok (.lstore 5, 2) := by decide +kernel
theorem dX9_lowest_14 : decode cX9_lowest 14 = .ok (.lload_n 2, 1) := by decide +kernel
theorem dX9_lowest_15 : decode cX9_lowest 15 = .ok (.lstore 7, 2) := by decide +kernel
theorem dX9_lowest_17 : decode cX9_lowest 17 = .ok (.lload 7, 2) := by decide +kernel
theorem dX9_lowest_19 : decode cX9_lowest 19 = .ok (.lconst 0, 1) := by decide +kernel
theorem dX9_lowest_20 : decode cX9_lowest 20 = .ok (.lcmp, 1) := by decide +kernel
theorem dX9_lowest_21 : decode cX9_lowest 21 = .ok (.ifCond .eq 21, 3) := by decide +kernel
theorem dX9_lowest_24 : decode cX9_lowest 24 = .ok (.lload 5, 2) := by decide +kernel
theorem dX9_lowest_26 : decode cX9_lowest 26 = .ok (.lload 7, 2) := by decide +kernel
theorem dX9_lowest_28 : decode cX9_lowest 28 = .ok (.lrem, 1) := by decide +kernel
theorem dX9_lowest_29 : decode cX9_lowest 29 = .ok (.lstore 9, 2) := by decide +kernel
theorem dX9_lowest_31 : decode cX9_lowest 31 = .ok (.lload 7, 2) := by decide +kernel
theorem dX9_lowest_33 : decode cX9_lowest 33 = .ok (.lstore 5, 2) := by decide +kernel
theorem dX9_lowest_35 : decode cX9_lowest 35 = .ok (.lload 9, 2) := by decide +kernel
theorem dX9_lowest_37 : decode cX9_lowest 37 = .ok (.lstore 7, 2) := by decide +kernel
theorem dX9_lowest_39 : decode cX9_lowest 39 = .ok (.goto (-22), 3) := by decide +kernel
theorem dX9_lowest_42 : decode cX9_lowest 42 = .ok (.iload 4, 2) := by decide +kernel
theorem dX9_lowest_44 : decode cX9_lowest 44 = .ok (.ifCond .ne 7, 3) := by decide +kernel
theorem dX9_lowest_47 : decode cX9_lowest 47 = .ok (.lload_n 0, 1) := by decide +kernel
theorem dX9_lowest_48 : decode cX9_lowest 48 = .ok (.goto 4, 3) := by decide +kernel
theorem dX9_lowest_51 : decode cX9_lowest 51 = .ok (.lload_n 2, 1) := by decide +kernel
theorem dX9_lowest_52 : decode cX9_lowest 52 = .ok (.lload 5, 2) := by decide +kernel
theorem dX9_lowest_54 : decode cX9_lowest 54 = .ok (.ldiv, 1) := by decide +kernel
theorem dX9_lowest_55 : decode cX9_lowest 55 = .ok (.lreturn, 1) := by decide +kernel
theorem dX9_odds_0 : decode cX9_odds 0 = .ok (.aload_n 0, 1) := by decide +kernel
theorem dX9_odds_1 : decode cX9_odds 1 = .ok (.iload_n 1, 1) := by decide +kernel
theorem dX9_odds_2 : decode cX9_odds 2 = .ok (.invokevirtual 162, 3) := by decide +kernel
theorem dX9_odds_5 : decode cX9_odds 5 = .ok (.ifCond .eq 22, 3) := by decide +kernel
theorem dX9_odds_8 : decode cX9_odds 8 = .ok (.iload_n 2, 1) := by decide +kernel
theorem dX9_odds_9 : decode cX9_odds 9 = .ok (.iconst 1, 1) := by decide +kernel
theorem dX9_odds_10 : decode cX9_odds 10 = .ok (.bipush 9, 2) := by decide +kernel
theorem dX9_odds_12 : decode cX9_odds 12 = .ok (.invokestatic 44, 3) := by decide +kernel
theorem dX9_odds_15 : decode cX9_odds 15 = .ok (.ifCond .eq 12, 3) := by decide +kernel
theorem dX9_odds_18 : decode cX9_odds 18 = .ok (.iload_n 3, 1) := by decide +kernel
theorem dX9_odds_19 : decode cX9_odds 19 = .ok (.iconst 0, 1) := by decide +kernel
theorem dX9_odds_20 : decode cX9_odds 20 = .ok (.iconst 1, 1) := by decide +kernel
theorem dX9_odds_21 : decode cX9_odds 21 = .ok (.invokestatic 44, 3) := by decide +kernel
theorem dX9_odds_24 : decode cX9_odds 24 = .ok (.ifCond .ne 7, 3) := by decide +kernel
theorem dX9_odds_27 : decode cX9_odds 27 = .ok (.ldc2_w 210, 3) := by decide +kernel
theorem dX9_odds_30 : decode cX9_odds 30 = .ok (.lreturn, 1) := by decide +kernel
theorem dX9_odds_31 : decode cX9_odds 31 = .ok (.lconst 0, 1) := by decide +kernel
theorem dX9_odds_32 : decode cX9_odds 32 = .ok (.lstore 4, 2) := by decide +kernel
theorem dX9_odds_34 : decode cX9_odds 34 = .ok (.iconst 0, 1) := by decide +kernel
theorem dX9_odds_35 : decode cX9_odds 35 = .ok (.istore 6, 2) := by decide +kernel
theorem dX9_odds_37 : decode cX9_odds 37 = .ok (.iload 6, 2) := by decide +kernel
theorem dX9_odds_39 : decode cX9_odds 39 = .ok (.bipush 12, 2) := by decide +kernel
theorem dX9_odds_41 : decode cX9_odds 41 = .ok (.if_icmp .ge 39, 3) := by decide +kernel
theorem dX9_odds_44 : decode cX9_odds 44 = .ok (.lload 4, 2) := by decide +kernel
theorem dX9_odds_46 : decode cX9_odds 46 = .ok (.aload_n 0, 1) := by decide +kernel
theorem dX9_odds_47 : decode cX9_odds 47 = .ok (.iload_n 1, 1) := by decide +kernel
theorem dX9_odds_48 : decode cX9_odds 48 = .ok (.iload 6, 2) := by decide +kernel
theorem dX9_odds_50 : decode cX9_odds 50 = .ok (.iload_n 2, 1) := by decide +kernel
theorem dX9_odds_51 : decode cX9_odds 51 = .ok (.invokevirtual 196, 3) := by decide +kernel
theorem dX9_odds_54 : decode cX9_odds 54 = .ok (.aload_n 0, 1) := by decide +kernel
theorem dX9_odds_55 : decode cX9_odds 55 = .ok (.sipush 238, 3) := by decide +kernel
theorem dX9_odds_58 : decode cX9_odds 58 = .ok (.bipush 30, 2) := by decide +kernel
theorem dX9_odds_60 : decode cX9_odds 60 = .ok (.invokevirtual 124, 3) := by decide +kernel
theorem dX9_odds_63 : decode cX9_odds 63 = .ok (.if_icmp .lt 7, 3) := by decide +kernel
theorem dX9_odds_66 : decode cX9_odds 66 = .ok (.lconst 1, 1) := by decide +kernel
theorem dX9_odds_67 : decode cX9_odds 67 = .ok (.goto 4, 3) := by decide +kernel
theorem dX9_odds_70 : decode cX9_odds 70 = .ok (.lconst 0, 1) := by decide +kernel
theorem dX9_odds_71 : decode cX9_odds 71 = .ok (.ladd, 1) := by decide +kernel
theorem dX9_odds_72 : decode cX9_odds 72 = .ok (.lstore 4, 2) := by decide +kernel
theorem dX9_odds_74 : decode cX9_odds 74 = .ok (.iinc 6 1, 3) := by decide +kernel
theorem dX9_odds_77 : decode cX9_odds 77 = .ok (.goto (-40), 3) := by decide +kernel
theorem dX9_odds_80 : decode cX9_odds 80 = .ok (.lload 4, 2) := by decide +kernel
theorem dX9_odds_82 : decode cX9_odds 82 = .ok (.ldc2_w 212, 3) := by decide +kernel
theorem dX9_odds_85 : decode cX9_odds 85 = .ok (.iload_n 3, 1) := by decide +kernel
theorem dX9_odds_86 : decode cX9_odds 86 = .ok (.invokestatic 214, 3) := by decide +kernel
theorem dX9_odds_89 : decode cX9_odds 89 = .ok (.lreturn, 1) := by decide +kernel
theorem dX9_mean_0 : decode cX9_mean 0 = .ok (.lconst 0, 1) := by decide +kernel
theorem dX9_mean_1 : decode cX9_mean 1 = .ok (.lstore_n 2, 1) := by decide +kernel
theorem dX9_mean_2 : decode cX9_mean 2 = .ok (.lconst 0, 1) := by decide +kernel
theorem dX9_mean_3 : decode cX9_mean 3 = .ok (.lstore 4, 2) := by decide +kernel
theorem dX9_mean_5 : decode cX9_mean 5 = .ok (.iconst 0, 1) := by decide +kernel
theorem dX9_mean_6 : decode cX9_mean 6 = .ok (.istore 6, 2) := by decide +kernel
theorem dX9_mean_8 : decode cX9_mean 8 = .ok (.iload 6, 2) := by decide +kernel
theorem dX9_mean_10 : decode cX9_mean 10 = .ok (.aload_n 0, 1) := by decide +kernel
theorem dX9_mean_11 : decode cX9_mean 11 = .ok (.getfield 9, 3) := by decide +kernel
theorem dX9_mean_14 : decode cX9_mean 14 = .ok (.bipush 31, 2) := by decide +kernel
theorem dX9_mean_16 : decode cX9_mean 16 = .ok (.iaload, 1) := by decide +kernel
theorem dX9_mean_17 : decode cX9_mean 17 = .ok (.if_icmp .ge 63, 3) := by decide +kernel
theorem dX9_mean_20 : decode cX9_mean 20 = .ok (.aload_n 0, 1) := by decide +kernel
theorem dX9_mean_21 : decode cX9_mean 21 = .ok (.getfield 9, 3) := by decide +kernel
theorem dX9_mean_24 : decode cX9_mean 24 = .ok (.bipush 7, 2) := by decide +kernel
theorem dX9_mean_26 : decode cX9_mean 26 = .ok (.iload 6, 2) := by decide +kernel
theorem dX9_mean_28 : decode cX9_mean 28 = .ok (.iadd, 1) := by decide +kernel
theorem dX9_mean_29 : decode cX9_mean 29 = .ok (.iaload, 1) := by decide +kernel
theorem dX9_mean_30 : decode cX9_mean 30 = .ok (.ifCond .ne 7, 3) := by decide +kernel
theorem dX9_mean_33 : decode cX9_mean 33 = .ok (.iconst 1, 1) := by decide +kernel
theorem dX9_mean_34 : decode cX9_mean 34 = .ok (.goto 4, 3) := by decide +kernel
theorem dX9_mean_37 : decode cX9_mean 37 = .ok (.iconst 0, 1) := by decide +kernel
theorem dX9_mean_38 : decode cX9_mean 38 = .ok (.istore 7, 2) := by decide +kernel
theorem dX9_mean_40 : decode cX9_mean 40 = .ok (.lload_n 2, 1) := by decide +kernel
theorem dX9_mean_41 : decode cX9_mean 41 = .ok (.iload 7, 2) := by decide +kernel
theorem dX9_mean_43 : decode cX9_mean 43 = .ok (.ifCond .eq 13, 3) := by decide +kernel
theorem dX9_mean_46 : decode cX9_mean 46 = .ok (.aload_n 0, 1) := by decide +kernel
theorem dX9_mean_47 : decode cX9_mean 47 = .ok (.iload 6, 2) := by decide +kernel
theorem dX9_mean_49 : decode cX9_mean 49 = .ok (.invokevirtual 154, 3) := by decide +kernel
theorem dX9_mean_52 : decode cX9_mean 52 = .ok (.i2l, 1) := by decide +kernel
theorem dX9_mean_53 : decode cX9_mean 53 = .ok (.goto 4, 3) := by decide +kernel
theorem dX9_mean_56 : decode cX9_mean 56 = .ok (.lconst 0, 1) := by decide +kernel
theorem dX9_mean_57 : decode cX9_mean 57 = .ok (.ladd, 1) := by decide +kernel
theorem dX9_mean_58 : decode cX9_mean 58 = .ok (.lstore_n 2, 1) := by decide +kernel
theorem dX9_mean_59 : decode cX9_mean 59 = .ok (.lload 4, 2) := by decide +kernel
theorem dX9_mean_61 : decode cX9_mean 61 = .ok (.iload 7, 2) := by decide +kernel
theorem dX9_mean_63 : decode cX9_mean 63 = .ok (.ifCond .eq 7, 3) := by decide +kernel
theorem dX9_mean_66 : decode cX9_mean 66 = .ok (.lconst 1, 1) := by decide +kernel
theorem dX9_mean_67 : decode cX9_mean 67 = .ok (.goto 4, 3) := by decide +kernel
theorem dX9_mean_70 : decode cX9_mean 70 = .ok (.lconst 0, 1) := by decide +kernel
theorem dX9_mean_71 : decode cX9_mean 71 = .ok (.ladd, 1) := by decide +kernel
theorem dX9_mean_72 : decode cX9_mean 72 = .ok (.lstore 4, 2) := by decide +kernel
theorem dX9_mean_74 : decode cX9_mean 74 = .ok (.iinc 6 1, 3) := by decide +kernel
theorem dX9_mean_77 : decode cX9_mean 77 = .ok (.goto (-69), 3) := by decide +kernel
theorem dX9_mean_80 : decode cX9_mean 80 = .ok (.iload_n 1, 1) := by decide +kernel
theorem dX9_mean_81 : decode cX9_mean 81 = .ok (.iconst 0, 1) := by decide +kernel
theorem dX9_mean_82 : decode cX9_mean 82 = .ok (.iconst 1, 1) := by decide +kernel
theorem dX9_mean_83 : decode cX9_mean 83 = .ok (.invokestatic 44, 3) := by decide +kernel
theorem dX9_mean_86 : decode cX9_mean 86 = .ok (.ifCond .eq 10, 3) := by decide +kernel
theorem dX9_mean_89 : decode cX9_mean 89 = .ok (.lload 4, 2) := by decide +kernel
theorem dX9_mean_91 : decode cX9_mean 91 = .ok (.lconst 0, 1) := by decide +kernel
theorem dX9_mean_92 : decode cX9_mean 92 = .ok (.lcmp, 1) := by decide +kernel
theorem dX9_mean_93 : decode cX9_mean 93 = .ok (.ifCond .ne 9, 3) := by decide +kernel
theorem dX9_mean_96 : decode cX9_mean 96 = .ok (.ldc2_w 210, 3) := by decide +kernel
theorem dX9_mean_99 : decode cX9_mean 99 = .ok (.goto 10, 3) := by decide +kernel
theorem dX9_mean_102 : decode cX9_mean 102 = .ok (.lload_n 2, 1) := by decide +kernel
theorem dX9_mean_103 : decode cX9_mean 103 = .ok (.lload 4, 2) := by decide +kernel
theorem dX9_mean_105 : decode cX9_mean 105 = .ok (.iload_n 1, 1) := by decide +kernel
theorem dX9_mean_106 : decode cX9_mean 106 = .ok (.invokestatic 214, 3) := by decide +kernel
theorem dX9_mean_109 : decode cX9_mean 109 = .ok (.lreturn, 1) := by decide +kernel
theorem dX9_plan_0 : decode cX9_plan 0 = .ok (.iload_n 1, 1) := by decide +kernel
theorem dX9_plan_1 : decode cX9_plan 1 = .ok (.iconst (-1), 1) := by decide +kernel
theorem dX9_plan_2 : decode cX9_plan 2 = .ok (.if_icmp .ne 13, 3) := by decide +kernel
theorem dX9_plan_5 : decode cX9_plan 5 = .ok (.aload_n 0, 1) := by decide +kernel
theorem dX9_plan_6 : decode cX9_plan 6 = .ok (.getfield 9, 3) := by decide +kernel
theorem dX9_plan_9 : decode cX9_plan 9 = .ok (.bipush 35, 2) := by decide +kernel
theorem dX9_plan_11 : decode cX9_plan 11 = .ok (.iconst 0, 1) := by decide +kernel
theorem dX9_plan_12 : decode cX9_plan 12 = .ok (.iastore, 1) := by decide +kernel
theorem dX9_plan_13 : decode cX9_plan 13 = .ok (.iconst 0, 1) := by decide +kernel
theorem dX9_plan_14 : decode cX9_plan 14 = .ok (.ireturn, 1) := by decide +kernel
theorem dX9_plan_15 : decode cX9_plan 15 = .ok (.iload_n 1, 1) := by decide +kernel
theorem dX9_plan_16 : decode cX9_plan 16 = .ok (.iconst 0, 1) := by decide +kernel
theorem dX9_plan_17 : decode cX9_plan 17 = .ok (.iconst 3, 1) := by decide +kernel
theorem dX9_plan_18 : decode cX9_plan 18 = .ok (.invokestatic 44, 3) := by decide +kernel
theorem dX9_plan_21 : decode cX9_plan 21 = .ok (.ifCond .eq 32, 3) := by decide +kernel
theorem dX9_plan_24 : decode cX9_plan 24 = .ok (.iload_n 1, 1) := by decide +kernel
theorem dX9_plan_25 : decode cX9_plan 25 = .ok (.iconst 1, 1) := by decide +kernel
theorem dX9_plan_26 : decode cX9_plan 26 = .ok (.iconst 2, 1) := by decide +kernel
theorem dX9_plan_27 : decode cX9_plan 27 = .ok (.invokestatic 44, 3) := by decide +kernel
theorem dX9_plan_30 : decode cX9_plan 30 = .ok (.ifCond .eq 11, 3) := by decide +kernel
theorem dX9_plan_33 : decode cX9_plan 33 = .ok (.aload_n 0, 1) := by decide +kernel
theorem dX9_plan_34 : decode cX9_plan 34 = .ok (.iload_n 2, 1) := by decide +kernel
theorem dX9_plan_35 : decode cX9_plan 35 = .ok (.invokevirtual 162, 3) := by decide +kernel
theorem dX9_plan_38 : decode cX9_plan 38 = .ok (.ifCond .eq 15, 3) := by decide +kernel
theorem dX9_plan_41 : decode cX9_plan 41 = .ok (.iload_n 1, 1) := by decide +kernel
theorem dX9_plan_42 : decode cX9_plan 42 = .ok (.iconst 3, 1) := by decide +kernel
theorem dX9_plan_43 : decode cX9_plan 43 = .ok (.if_icmp .ne 12, 3) := by decide +kernel
theorem dX9_plan_46 : decode cX9_plan 46 = .ok (.iload_n 2, 1) := by decide +kernel
theorem dX9_plan_47 : decode cX9_plan 47 = .ok (.invokestatic 169, 3) := by decide +kernel
theorem dX9_plan_50 : decode cX9_plan 50 = .ok (.ifCond .ne 5, 3) := by decide +kernel
theorem dX9_plan_53 : decode cX9_plan 53 = .ok (.iconst (-1), 1) := by decide +kernel
theorem dX9_plan_54 : decode cX9_plan 54 = .ok (.ireturn, 1) := by decide +kernel
theorem dX9_plan_55 : decode cX9_plan 55 = .ok (.aload_n 0, 1) := by decide +kernel
theorem dX9_plan_56 : decode cX9_plan 56 = .ok (.getfield 9, 3) := by decide +kernel
theorem dX9_plan_59 : decode cX9_plan 59 = .ok (.bipush 35, 2) := by decide +kernel
theorem dX9_plan_61 : decode cX9_plan 61 = .ok (.iaload, 1) := by decide +kernel
theorem dX9_plan_62 : decode cX9_plan 62 = .ok (.bipush 8, 2) := by decide +kernel
theorem dX9_plan_64 : decode cX9_plan 64 = .ok (.if_icmp .ne 6, 3) := by decide +kernel
theorem dX9_plan_67 : decode cX9_plan 67 = .ok (.bipush (-4), 2) := by decide +kernel
theorem dX9_plan_69 : decode cX9_plan 69 = .ok (.ireturn, 1) := by decide +kernel
theorem dX9_plan_70 : decode cX9_plan 70 = .ok (.aload_n 0, 1) := by decide +kernel
theorem dX9_plan_71 : decode cX9_plan 71 = .ok (.getfield 9, 3) := by decide +kernel
theorem dX9_plan_74 : decode cX9_plan 74 = .ok (.bipush 106, 2) := by decide +kernel
theorem dX9_plan_76 : decode cX9_plan 76 = .ok (.aload_n 0, 1) := by decide +kernel
theorem dX9_plan_77 : decode cX9_plan 77 = .ok (.getfield 9, 3) := by decide +kernel
theorem dX9_plan_80 : decode cX9_plan 80 = .ok (.bipush 35, 2) := by decide +kernel
theorem dX9_plan_82 : decode cX9_plan 82 = .ok (.iaload, 1) := by decide +kernel
theorem dX9_plan_83 : decode cX9_plan 83 = .ok (.iadd, 1) := by decide +kernel
theorem dX9_plan_84 : decode cX9_plan 84 = .ok (.iload_n 1, 1) := by decide +kernel
theorem dX9_plan_85 : decode cX9_plan 85 = .ok (.iastore, 1) := by decide +kernel
theorem dX9_plan_86 : decode cX9_plan 86 = .ok (.aload_n 0, 1) := by decide +kernel
theorem dX9_plan_87 : decode cX9_plan 87 = .ok (.getfield 9, 3) := by decide +kernel
theorem dX9_plan_90 : decode cX9_plan 90 = .ok (.bipush 114, 2) := by decide +kernel
theorem dX9_plan_92 : decode cX9_plan 92 = .ok (.aload_n 0, 1) := by decide +kernel
theorem dX9_plan_93 : decode cX9_plan 93 = .ok (.getfield 9, 3) := by decide +kernel
theorem dX9_plan_96 : decode cX9_plan 96 = .ok (.bipush 35, 2) := by decide +kernel
theorem dX9_plan_98 : decode cX9_plan 98 = .ok (.iaload, 1) := by decide +kernel
theorem dX9_plan_99 : decode cX9_plan 99 = .ok (.iadd, 1) := by decide +kernel
theorem dX9_plan_100 : decode cX9_plan 100 = .ok (.iload_n 2, 1) := by decide +kernel
theorem dX9_plan_101 : decode cX9_plan 101 = .ok (.iastore, 1) := by decide +kernel
theorem dX9_plan_102 : decode cX9_plan 102 = .ok (.aload_n 0, 1) := by decide +kernel
theorem dX9_plan_103 : decode cX9_plan 103 = .ok (.getfield 9, 3) := by decide +kernel
theorem dX9_plan_106 : decode cX9_plan 106 = .ok (.bipush 35, 2) := by decide +kernel
theorem dX9_plan_108 : decode cX9_plan 108 = .ok (.dup2, 1) := by decide +kernel
theorem dX9_plan_109 : decode cX9_plan 109 = .ok (.iaload, 1) := by decide +kernel
theorem dX9_plan_110 : decode cX9_plan 110 = .ok (.iconst 1, 1) := by decide +kernel
theorem dX9_plan_111 : decode cX9_plan 111 = .ok (.iadd, 1) := by decide +kernel
theorem dX9_plan_112 : decode cX9_plan 112 = .ok (.iastore, 1) := by decide +kernel
theorem dX9_plan_113 : decode cX9_plan 113 = .ok (.aload_n 0, 1) := by decide +kernel
theorem dX9_plan_114 : decode cX9_plan 114 = .ok (.getfield 9, 3) := by decide +kernel
theorem dX9_plan_117 : decode cX9_plan 117 = .ok (.bipush 35, 2) := by decide +kernel
theorem dX9_plan_119 : decode cX9_plan 119 = .ok (.iaload, 1) := by decide +kernel
theorem dX9_plan_120 : decode cX9_plan 120 = .ok (.ireturn, 1) := by decide +kernel
theorem dX9_goesBy_0 : decode cX9_goesBy 0 = .ok (.iload_n 1, 1) := by decide +kernel
theorem dX9_goesBy_1 : decode cX9_goesBy 1 = .ok (.ifCond .ne 10, 3) := by decide +kernel
theorem dX9_goesBy_4 : decode cX9_goesBy 4 = .ok (.aload_n 0, 1) := by decide +kernel
theorem dX9_goesBy_5 : decode cX9_goesBy 5 = .ok (.invokevirtual 184, 3) := by decide +kernel
theorem dX9_goesBy_8 : decode cX9_goesBy 8 = .ok (.goto 40, 3) := by decide +kernel
theorem dX9_goesBy_11 : decode cX9_goesBy 11 = .ok (.iload_n 1, 1) := by decide +kernel
theorem dX9_goesBy_12 : decode cX9_goesBy 12 = .ok (.iconst 3, 1) := by decide +kernel
theorem dX9_goesBy_13 : decode cX9_goesBy 13 = .ok (.if_icmp .ne 16, 3) := by decide +kernel
theorem dX9_goesBy_16 : decode cX9_goesBy 16 = .ok (.aload_n 0, 1) := by decide +kernel
theorem dX9_goesBy_17 : decode cX9_goesBy 17 = .ok (.getfield 9, 3) := by decide +kernel
theorem dX9_goesBy_20 : decode cX9_goesBy 20 = .ok (.bipush 19, 2) := by decide +kernel
theorem dX9_goesBy_22 : decode cX9_goesBy 22 = .ok (.iload_n 2, 1) := by decide +kernel
theorem dX9_goesBy_23 : decode cX9_goesBy 23 = .ok (.iadd, 1) := by decide +kernel
theorem dX9_goesBy_24 : decode cX9_goesBy 24 = .ok (.iconst 0, 1) := by decide +kernel
theorem dX9_goesBy_25 : decode cX9_goesBy 25 = .ok (.iastore, 1) := by decide +kernel
theorem dX9_goesBy_26 : decode cX9_goesBy 26 = .ok (.goto 22, 3) := by decide +kernel
theorem dX9_goesBy_29 : decode cX9_goesBy 29 = .ok (.aload_n 0, 1) := by decide +kernel
theorem dX9_goesBy_30 : decode cX9_goesBy 30 = .ok (.getfield 9, 3) := by decide +kernel
theorem dX9_goesBy_33 : decode cX9_goesBy 33 = .ok (.bipush 7, 2) := by decide +kernel
theorem dX9_goesBy_35 : decode cX9_goesBy 35 = .ok (.iload_n 2, 1) := by decide +kernel
theorem dX9_goesBy_36 : decode cX9_goesBy 36 = .ok (.iadd, 1) := by decide +kernel
theorem dX9_goesBy_37 : decode cX9_goesBy 37 = .ok (.iload_n 1, 1) := by decide +kernel
theorem dX9_goesBy_38 : decode cX9_goesBy 38 = .ok (.iconst 1, 1) := by decide +kernel
theorem dX9_goesBy_39 : decode cX9_goesBy 39 = .ok (.if_icmp .ne 7, 3) := by decide +kernel
theorem dX9_goesBy_42 : decode cX9_goesBy 42 = .ok (.iconst 1, 1) := by decide +kernel
theorem dX9_goesBy_43 : decode cX9_goesBy 43 = .ok (.goto 4, 3) := by decide +kernel
theorem dX9_goesBy_46 : decode cX9_goesBy 46 = .ok (.iconst 0, 1) := by decide +kernel
theorem dX9_goesBy_47 : decode cX9_goesBy 47 = .ok (.iastore, 1) := by decide +kernel
theorem dX9_goesBy_48 : decode cX9_goesBy 48 = .ok (.return_, 1) := by decide +kernel
theorem dX9_done_0 : decode cX9_done 0 = .ok (.iload_n 1, 1) := by decide +kernel
theorem dX9_done_1 : decode cX9_done 1 = .ok (.iconst 0, 1) := by decide +kernel
theorem dX9_done_2 : decode cX9_done 2 = .ok (.iconst 1, 1) := by decide +kernel
theorem dX9_done_3 : decode cX9_done 3 = .ok (.invokestatic 44, 3) := by decide +kernel
theorem dX9_done_6 : decode cX9_done 6 = .ok (.ifCond .ne 5, 3) := by decide +kernel
theorem dX9_done_9 : decode cX9_done 9 = .ok (.iconst (-1), 1) := by decide +kernel
theorem dX9_done_10 : decode cX9_done 10 = .ok (.ireturn, 1) := by decide +kernel
theorem dX9_done_11 : decode cX9_done 11 = .ok (.aload_n 0, 1) := by decide +kernel
theorem dX9_done_12 : decode cX9_done 12 = .ok (.invokevirtual 190, 3) := by decide +kernel
theorem dX9_done_15 : decode cX9_done 15 = .ok (.iconst 0, 1) := by decide +kernel
theorem dX9_done_16 : decode cX9_done 16 = .ok (.istore_n 2, 1) := by decide +kernel
theorem dX9_done_17 : decode cX9_done 17 = .ok (.iload_n 2, 1) := by decide +kernel
theorem dX9_done_18 : decode cX9_done 18 = .ok (.aload_n 0, 1) := by decide +kernel
theorem dX9_done_19 : decode cX9_done 19 = .ok (.getfield 9, 3) := by decide +kernel
theorem dX9_done_22 : decode cX9_done 22 = .ok (.bipush 35, 2) := by decide +kernel
theorem dX9_done_24 : decode cX9_done 24 = .ok (.iaload, 1) := by decide +kernel
theorem dX9_done_25 : decode cX9_done 25 = .ok (.if_icmp .ge 31, 3) := by decide +kernel
theorem dX9_done_28 : decode cX9_done 28 = .ok (.aload_n 0, 1) := by decide +kernel
theorem dX9_done_29 : decode cX9_done 29 = .ok (.aload_n 0, 1) := by decide +kernel
theorem dX9_done_30 : decode cX9_done 30 = .ok (.getfield 9, 3) := by decide +kernel
theorem dX9_done_33 : decode cX9_done 33 = .ok (.bipush 106, 2) := by decide +kernel
theorem dX9_done_35 : decode cX9_done 35 = .ok (.iload_n 2, 1) := by decide +kernel
theorem dX9_done_36 : decode cX9_done 36 = .ok (.iadd, 1) := by decide +kernel
theorem dX9_done_37 : decode cX9_done 37 = .ok (.iaload, 1) := by decide +kernel
theorem dX9_done_38 : decode cX9_done 38 = .ok (.aload_n 0, 1) := by decide +kernel
theorem dX9_done_39 : decode cX9_done 39 = .ok (.getfield 9, 3) := by decide +kernel
theorem dX9_done_42 : decode cX9_done 42 = .ok (.bipush 114, 2) := by decide +kernel
theorem dX9_done_44 : decode cX9_done 44 = .ok (.iload_n 2, 1) := by decide +kernel
theorem dX9_done_45 : decode cX9_done 45 = .ok (.iadd, 1) := by decide +kernel
theorem dX9_done_46 : decode cX9_done 46 = .ok (.iaload, 1) := by decide +kernel
theorem dX9_done_47 : decode cX9_done 47 = .ok (.invokevirtual 218, 3) := by decide +kernel
theorem dX9_done_50 : decode cX9_done 50 = .ok (.iinc 2 1, 3) := by decide +kernel
theorem dX9_done_53 : decode cX9_done 53 = .ok (.goto (-36), 3) := by decide +kernel
theorem dX9_done_56 : decode cX9_done 56 = .ok (.iconst 0, 1) := by decide +kernel
theorem dX9_done_57 : decode cX9_done 57 = .ok (.istore_n 2, 1) := by decide +kernel
theorem dX9_done_58 : decode cX9_done 58 = .ok (.iconst 0, 1) := by decide +kernel
theorem dX9_done_59 : decode cX9_done 59 = .ok (.istore_n 3, 1) := by decide +kernel
theorem dX9_done_60 : decode cX9_done 60 = .ok (.iload_n 3, 1) := by decide +kernel
theorem dX9_done_61 : decode cX9_done 61 = .ok (.aload_n 0, 1) := by decide +kernel
theorem dX9_done_62 : decode cX9_done 62 = .ok (.getfield 9, 3) := by decide +kernel
theorem dX9_done_65 : decode cX9_done 65 = .ok (.bipush 31, 2) := by decide +kernel
theorem dX9_done_67 : decode cX9_done 67 = .ok (.iaload, 1) := by decide +kernel
theorem dX9_done_68 : decode cX9_done 68 = .ok (.if_icmp .ge 21, 3) := by decide +kernel
theorem dX9_done_71 : decode cX9_done 71 = .ok (.iload_n 2, 1) := by decide +kernel
theorem dX9_done_72 : decode cX9_done 72 = .ok (.aload_n 0, 1) := by decide +kernel
theorem dX9_done_73 : decode cX9_done 73 = .ok (.getfield 9, 3) := by decide +kernel
theorem dX9_done_76 : decode cX9_done 76 = .ok (.bipush 13, 2) := by decide +kernel
theorem dX9_done_78 : decode cX9_done 78 = .ok (.iload_n 3, 1) := by decide +kernel
theorem dX9_done_79 : decode cX9_done 79 = .ok (.iadd, 1) := by decide +kernel
theorem dX9_done_80 : decode cX9_done 80 = .ok (.iaload, 1) := by decide +kernel
theorem dX9_done_81 : decode cX9_done 81 = .ok (.iadd, 1) := by decide +kernel
theorem dX9_done_82 : decode cX9_done 82 = .ok (.istore_n 2, 1) := by decide +kernel
theorem dX9_done_83 : decode cX9_done 83 = .ok (.iinc 3 1, 3) := by decide +kernel
theorem dX9_done_86 : decode cX9_done 86 = .ok (.goto (-26), 3) := by decide +kernel
theorem dX9_done_89 : decode cX9_done 89 = .ok (.iload_n 1, 1) := by decide +kernel
theorem dX9_done_90 : decode cX9_done 90 = .ok (.ifCond .ne 11, 3) := by decide +kernel
theorem dX9_done_93 : decode cX9_done 93 = .ok (.aload_n 0, 1) := by decide +kernel
theorem dX9_done_94 : decode cX9_done 94 = .ok (.iconst 1, 1) := by decide +kernel
theorem dX9_done_95 : decode cX9_done 95 = .ok (.invokevirtual 172, 3) := by decide +kernel
theorem dX9_done_98 : decode cX9_done 98 = .ok (.goto 4, 3) := by decide +kernel
theorem dX9_done_101 : decode cX9_done 101 = .ok (.iload_n 2, 1) := by decide +kernel
theorem dX9_done_102 : decode cX9_done 102 = .ok (.istore_n 3, 1) := by decide +kernel
theorem dX9_done_103 : decode cX9_done 103 = .ok (.aload_n 0, 1) := by decide +kernel
theorem dX9_done_104 : decode cX9_done 104 = .ok (.invokevirtual 193, 3) := by decide +kernel
theorem dX9_done_107 : decode cX9_done 107 = .ok (.iload_n 3, 1) := by decide +kernel
theorem dX9_done_108 : decode cX9_done 108 = .ok (.ireturn, 1) := by decide +kernel
theorem dX9_book_0 : decode cX9_book 0 = .ok (.iload_n 1, 1) := by decide +kernel
theorem dX9_book_1 : decode cX9_book 1 = .ok (.iconst (-1), 1) := by decide +kernel
theorem dX9_book_2 : decode cX9_book 2 = .ok (.if_icmp .ne 13, 3) := by decide +kernel
theorem dX9_book_5 : decode cX9_book 5 = .ok (.aload_n 0, 1) := by decide +kernel
theorem dX9_book_6 : decode cX9_book 6 = .ok (.getfield 9, 3) := by decide +kernel
theorem dX9_book_9 : decode cX9_book 9 = .ok (.bipush 36, 2) := by decide +kernel
theorem dX9_book_11 : decode cX9_book 11 = .ok (.iconst 0, 1) := by decide +kernel
theorem dX9_book_12 : decode cX9_book 12 = .ok (.iastore, 1) := by decide +kernel
theorem dX9_book_13 : decode cX9_book 13 = .ok (.iconst 0, 1) := by decide +kernel
theorem dX9_book_14 : decode cX9_book 14 = .ok (.ireturn, 1) := by decide +kernel
theorem dX9_book_15 : decode cX9_book 15 = .ok (.aload_n 0, 1) := by decide +kernel
theorem dX9_book_16 : decode cX9_book 16 = .ok (.iload_n 1, 1) := by decide +kernel
theorem dX9_book_17 : decode cX9_book 17 = .ok (.invokevirtual 162, 3) := by decide +kernel
theorem dX9_book_20 : decode cX9_book 20 = .ok (.ifCond .eq 10, 3) := by decide +kernel
theorem dX9_book_23 : decode cX9_book 23 = .ok (.iload_n 2, 1) := by decide +kernel
theorem dX9_book_24 : decode cX9_book 24 = .ok (.invokestatic 158, 3) := by decide +kernel
theorem dX9_book_27 : decode cX9_book 27 = .ok (.ifCond .ne 5, 3) := by decide +kernel
theorem dX9_book_30 : decode cX9_book 30 = .ok (.iconst (-1), 1) := by decide +kernel
theorem dX9_book_31 : decode cX9_book 31 = .ok (.ireturn, 1) := by decide +kernel
theorem dX9_book_32 : decode cX9_book 32 = .ok (.aload_n 0, 1) := by decide +kernel
theorem dX9_book_33 : decode cX9_book 33 = .ok (.getfield 9, 3) := by decide +kernel
theorem dX9_book_36 : decode cX9_book 36 = .ok (.bipush 36, 2) := by decide +kernel
theorem dX9_book_38 : decode cX9_book 38 = .ok (.iaload, 1) := by decide +kernel
theorem dX9_book_39 : decode cX9_book 39 = .ok (.bipush 8, 2) := by decide +kernel
theorem dX9_book_41 : decode cX9_book 41 = .ok (.if_icmp .ne 6, 3) := by decide +kernel
theorem dX9_book_44 : decode cX9_book 44 = .ok (.bipush (-4), 2) := by decide +kernel
theorem dX9_book_46 : decode cX9_book 46 = .ok (.ireturn, 1) := by decide +kernel
theorem dX9_book_47 : decode cX9_book 47 = .ok (.aload_n 0, 1) := by decide +kernel
theorem dX9_book_48 : decode cX9_book 48 = .ok (.getfield 9, 3) := by decide +kernel
theorem dX9_book_51 : decode cX9_book 51 = .ok (.bipush 122, 2) := by decide +kernel
theorem dX9_book_53 : decode cX9_book 53 = .ok (.aload_n 0, 1) := by decide +kernel
theorem dX9_book_54 : decode cX9_book 54 = .ok (.getfield 9, 3) := by decide +kernel
theorem dX9_book_57 : decode cX9_book 57 = .ok (.bipush 36, 2) := by decide +kernel
theorem dX9_book_59 : decode cX9_book 59 = .ok (.iaload, 1) := by decide +kernel
theorem dX9_book_60 : decode cX9_book 60 = .ok (.iadd, 1) := by decide +kernel
theorem dX9_book_61 : decode cX9_book 61 = .ok (.iload_n 1, 1) := by decide +kernel
theorem dX9_book_62 : decode cX9_book 62 = .ok (.iastore, 1) := by decide +kernel
theorem dX9_book_63 : decode cX9_book 63 = .ok (.aload_n 0, 1) := by decide +kernel
theorem dX9_book_64 : decode cX9_book 64 = .ok (.getfield 9, 3) := by decide +kernel
theorem dX9_book_67 : decode cX9_book 67 = .ok (.sipush 130, 3) := by decide +kernel
theorem dX9_book_70 : decode cX9_book 70 = .ok (.aload_n 0, 1) := by decide +kernel
theorem dX9_book_71 : decode cX9_book 71 = .ok (.getfield 9, 3) := by decide +kernel
theorem dX9_book_74 : decode cX9_book 74 = .ok (.bipush 36, 2) := by decide +kernel
theorem dX9_book_76 : decode cX9_book 76 = .ok (.iaload, 1) := by decide +kernel
theorem dX9_book_77 : decode cX9_book 77 = .ok (.iadd, 1) := by decide +kernel
theorem dX9_book_78 : decode cX9_book 78 = .ok (.iload_n 2, 1) := by decide +kernel
theorem dX9_book_79 : decode cX9_book 79 = .ok (.iastore, 1) := by decide +kernel
theorem dX9_book_80 : decode cX9_book 80 = .ok (.aload_n 0, 1) := by decide +kernel
theorem dX9_book_81 : decode cX9_book 81 = .ok (.getfield 9, 3) := by decide +kernel
theorem dX9_book_84 : decode cX9_book 84 = .ok (.bipush 36, 2) := by decide +kernel
theorem dX9_book_86 : decode cX9_book 86 = .ok (.dup2, 1) := by decide +kernel
theorem dX9_book_87 : decode cX9_book 87 = .ok (.iaload, 1) := by decide +kernel
theorem dX9_book_88 : decode cX9_book 88 = .ok (.iconst 1, 1) := by decide +kernel
theorem dX9_book_89 : decode cX9_book 89 = .ok (.iadd, 1) := by decide +kernel
theorem dX9_book_90 : decode cX9_book 90 = .ok (.iastore, 1) := by decide +kernel
theorem dX9_book_91 : decode cX9_book 91 = .ok (.aload_n 0, 1) := by decide +kernel
theorem dX9_book_92 : decode cX9_book 92 = .ok (.getfield 9, 3) := by decide +kernel
theorem dX9_book_95 : decode cX9_book 95 = .ok (.bipush 36, 2) := by decide +kernel
theorem dX9_book_97 : decode cX9_book 97 = .ok (.iaload, 1) := by decide +kernel
theorem dX9_book_98 : decode cX9_book 98 = .ok (.ireturn, 1) := by decide +kernel
theorem dX9_looked_0 : decode cX9_looked 0 = .ok (.iconst 0, 1) := by decide +kernel
theorem dX9_looked_1 : decode cX9_looked 1 = .ok (.istore_n 1, 1) := by decide +kernel
theorem dX9_looked_2 : decode cX9_looked 2 = .ok (.iload_n 1, 1) := by decide +kernel
theorem dX9_looked_3 : decode cX9_looked 3 = .ok (.aload_n 0, 1) := by decide +kernel
theorem dX9_looked_4 : decode cX9_looked 4 = .ok (.getfield 9, 3) := by decide +kernel
theorem dX9_looked_7 : decode cX9_looked 7 = .ok (.bipush 36, 2) := by decide +kernel
theorem dX9_looked_9 : decode cX9_looked 9 = .ok (.iaload, 1) := by decide +kernel
theorem dX9_looked_10 : decode cX9_looked 10 = .ok (.if_icmp .ge 41, 3) := by decide +kernel
theorem dX9_looked_13 : decode cX9_looked 13 = .ok (.aload_n 0, 1) := by decide +kernel
theorem dX9_looked_14 : decode cX9_looked 14 = .ok (.getfield 9, 3) := by decide +kernel
theorem dX9_looked_17 : decode cX9_looked 17 = .ok (.bipush 51, 2) := by decide +kernel
theorem dX9_looked_19 : decode cX9_looked 19 = .ok (.aload_n 0, 1) := by decide +kernel
theorem dX9_looked_20 : decode cX9_looked 20 = .ok (.getfield 9, 3) := by decide +kernel
theorem dX9_looked_23 : decode cX9_looked 23 = .ok (.bipush 122, 2) := by decide +kernel
theorem dX9_looked_25 : decode cX9_looked 25 = .ok (.iload_n 1, 1) := by decide +kernel
theorem dX9_looked_26 : decode cX9_looked 26 = .ok (.iadd, 1) := by decide +kernel
theorem dX9_looked_27 : decode cX9_looked 27 = .ok (.iaload, 1) := by decide +kernel
theorem dX9_looked_28 : decode cX9_looked 28 = .ok (.iadd, 1) := by decide +kernel
theorem dX9_looked_29 : decode cX9_looked 29 = .ok (.iaload, 1) := by decide +kernel
theorem dX9_looked_30 : decode cX9_looked 30 = .ok (.aload_n 0, 1) := by decide +kernel
theorem dX9_looked_31 : decode cX9_looked 31 = .ok (.getfield 9, 3) := by decide +kernel
theorem dX9_looked_34 : decode cX9_looked 34 = .ok (.sipush 130, 3) := by decide +kernel
theorem dX9_looked_37 : decode cX9_looked 37 = .ok (.iload_n 1, 1) := by decide +kernel
theorem dX9_looked_38 : decode cX9_looked 38 = .ok (.iadd, 1) := by decide +kernel
theorem dX9_looked_39 : decode cX9_looked 39 = .ok (.iaload, 1) := by decide +kernel
theorem dX9_looked_40 : decode cX9_looked 40 = .ok (.if_icmp .eq 5, 3) := by decide +kernel
theorem dX9_looked_43 : decode cX9_looked 43 = .ok (.iload_n 1, 1) := by decide +kernel
theorem dX9_looked_44 : decode cX9_looked 44 = .ok (.ireturn, 1) := by decide +kernel
theorem dX9_looked_45 : decode cX9_looked 45 = .ok (.iinc 1 1, 3) := by decide +kernel
theorem dX9_looked_48 : decode cX9_looked 48 = .ok (.goto (-46), 3) := by decide +kernel
theorem dX9_looked_51 : decode cX9_looked 51 = .ok (.bipush (-5), 2) := by decide +kernel
theorem dX9_looked_53 : decode cX9_looked 53 = .ok (.ireturn, 1) := by decide +kernel
theorem dX9_ranBody_0 : decode cX9_ranBody 0 = .ok (.aload_n 0, 1) := by decide +kernel
theorem dX9_ranBody_1 : decode cX9_ranBody 1 = .ok (.getfield 222, 3) := by decide +kernel
theorem dX9_ranBody_4 : decode cX9_ranBody 4 = .ok (.bipush 20, 2) := by decide +kernel
theorem dX9_ranBody_6 : decode cX9_ranBody 6 = .ok (.if_icmp .ge 13, 3) := by decide +kernel
theorem dX9_ranBody_9 : decode cX9_ranBody 9 = .ok (.aload_n 0, 1) := by decide +kernel
theorem dX9_ranBody_10 : decode cX9_ranBody 10 = .ok (.getfield 37, 3) := by decide +kernel
theorem dX9_ranBody_13 : decode cX9_ranBody 13 = .ok (.aload_n 0, 1) := by decide +kernel
theorem dX9_ranBody_14 : decode cX9_ranBody 14 = .ok (.getfield 222, 3) := by decide +kernel
theorem dX9_ranBody_17 : decode cX9_ranBody 17 = .ok (.iload_n 1, 1) := by decide +kernel
theorem dX9_ranBody_18 : decode cX9_ranBody 18 = .ok (.iastore, 1) := by decide +kernel
theorem dX9_ranBody_19 : decode cX9_ranBody 19 = .ok (.aload_n 0, 1) := by decide +kernel
theorem dX9_ranBody_20 : decode cX9_ranBody 20 = .ok (.dup, 1) := by decide +kernel
theorem dX9_ranBody_21 : decode cX9_ranBody 21 = .ok (.getfield 222, 3) := by decide +kernel
theorem dX9_ranBody_24 : decode cX9_ranBody 24 = .ok (.iconst 1, 1) := by decide +kernel
theorem dX9_ranBody_25 : decode cX9_ranBody 25 = .ok (.iadd, 1) := by decide +kernel
theorem dX9_ranBody_26 : decode cX9_ranBody 26 = .ok (.putfield 222, 3) := by decide +kernel
theorem dX9_ranBody_29 : decode cX9_ranBody 29 = .ok (.return_, 1) := by decide +kernel
theorem dX9_isUnder_0 : decode cX9_isUnder 0 = .ok (.iload_n 1, 1) := by decide +kernel
theorem dX9_isUnder_1 : decode cX9_isUnder 1 = .ok (.ifCond .eq 24, 3) := by decide +kernel
theorem dX9_isUnder_4 : decode cX9_isUnder 4 = .ok (.iload_n 1, 1) := by decide +kernel
theorem dX9_isUnder_5 : decode cX9_isUnder 5 = .ok (.iload_n 0, 1) := by decide +kernel
theorem dX9_isUnder_6 : decode cX9_isUnder 6 = .ok (.if_icmp .eq 19, 3) := by decide +kernel
theorem dX9_isUnder_9 : decode cX9_isUnder 9 = .ok (.iload_n 1, 1) := by decide +kernel
theorem dX9_isUnder_10 : decode cX9_isUnder 10 = .ok (.ifCond .le 19, 3) := by decide +kernel
theorem dX9_isUnder_13 : decode cX9_isUnder 13 = .ok (.iload_n 1, 1) := by decide +kernel
theorem dX9_isUnder_14 : decode cX9_isUnder 14 = .ok (.iconst 4, 1) := by decide +kernel
theorem dX9_isUnder_15 : decode cX9_isUnder 15 = .ok (.if_icmp .ge 14, 3) := by decide +kernel
theorem dX9_isUnder_18 : decode cX9_isUnder 18 = .ok (.iload_n 0, 1) := by decide +kernel
theorem dX9_isUnder_19 : decode cX9_isUnder 19 = .ok (.iload_n 1, 1) := by decide +kernel
theorem dX9_isUnder_20 : decode cX9_isUnder 20 = .ok (.iconst 3, 1) := by decide +kernel
theorem dX9_isUnder_21 : decode cX9_isUnder 21 = .ok (.iadd, 1) := by decide +kernel
theorem dX9_isUnder_22 : decode cX9_isUnder 22 = .ok (.if_icmp .ne 7, 3) := by decide +kernel
theorem dX9_isUnder_25 : decode cX9_isUnder 25 = .ok (.iconst 1, 1) := by decide +kernel
theorem dX9_isUnder_26 : decode cX9_isUnder 26 = .ok (.goto 4, 3) := by decide +kernel
theorem dX9_isUnder_29 : decode cX9_isUnder 29 = .ok (.iconst 0, 1) := by decide +kernel
theorem dX9_isUnder_30 : decode cX9_isUnder 30 = .ok (.ireturn, 1) := by decide +kernel
theorem dX9_plainPloughs_0 : decode cX9_plainPloughs 0 = .ok (.aload_n 0, 1) := by decide +kernel
theorem dX9_plainPloughs_1 : decode cX9_plainPloughs 1 = .ok (.iconst 1, 1) := by decide +kernel
theorem dX9_plainPloughs_2 : decode cX9_plainPloughs 2 = .ok (.invokevirtual 225, 3) := by decide +kernel
theorem dX9_plainPloughs_5 : decode cX9_plainPloughs 5 = .ok (.iload_n 1, 1) := by decide +kernel
theorem dX9_plainPloughs_6 : decode cX9_plainPloughs 6 = .ok (.aload_n 0, 1) := by decide +kernel
theorem dX9_plainPloughs_7 : decode cX9_plainPloughs 7 = .ok (.getfield 228, 3) := by decide +kernel
theorem dX9_plainPloughs_10 : decode cX9_plainPloughs 10 = .ok (.iadd, 1) := by decide +kernel
theorem dX9_plainPloughs_11 : decode cX9_plainPloughs 11 = .ok (.ireturn, 1) := by decide +kernel
theorem dX9_ploughsActs_0 : decode cX9_ploughsActs 0 = .ok (.aload_n 0, 1) := by decide +kernel
theorem dX9_ploughsActs_1 : decode cX9_ploughsActs 1 = .ok (.getfield 231, 3) := by decide +kernel
theorem dX9_ploughsActs_4 : decode cX9_ploughsActs 4 = .ok (.iconst 1, 1) := by decide +kernel
theorem dX9_ploughsActs_5 : decode cX9_ploughsActs 5 = .ok (.invokestatic 234, 3) := by decide +kernel
theorem dX9_ploughsActs_8 : decode cX9_ploughsActs 8 = .ok (.ifCond .eq 17, 3) := by decide +kernel
theorem dX9_ploughsActs_11 : decode cX9_ploughsActs 11 = .ok (.aload_n 0, 1) := by decide +kernel
theorem dX9_ploughsActs_12 : decode cX9_ploughsActs 12 = .ok (.bipush 11, 2) := by decide +kernel
theorem dX9_ploughsActs_14 : decode cX9_ploughsActs 14 = .ok (.invokevirtual 225, 3) := by decide +kernel
theorem dX9_ploughsActs_17 : decode cX9_ploughsActs 17 = .ok (.aload_n 0, 1) := by decide +kernel
theorem dX9_ploughsActs_18 : decode cX9_ploughsActs 18 = .ok (.iload_n 1, 1) := by decide +kernel
theorem dX9_ploughsActs_19 : decode cX9_ploughsActs 19 = .ok (.iconst 3, 1) := by decide +kernel
theorem dX9_ploughsActs_20 : decode cX9_ploughsActs 20 = .ok (.imul, 1) := by decide +kernel
theorem dX9_ploughsActs_21 : decode cX9_ploughsActs 21 = .ok (.invokevirtual 237, 3) := by decide +kernel
theorem dX9_ploughsActs_24 : decode cX9_ploughsActs 24 = .ok (.ireturn, 1) := by decide +kernel
theorem dX9_ploughsActs_25 : decode cX9_ploughsActs 25 = .ok (.aload_n 0, 1) := by decide +kernel
theorem dX9_ploughsActs_26 : decode cX9_ploughsActs 26 = .ok (.getfield 231, 3) := by decide +kernel
theorem dX9_ploughsActs_29 : decode cX9_ploughsActs 29 = .ok (.iconst 5, 1) := by decide +kernel
theorem dX9_ploughsActs_30 : decode cX9_ploughsActs 30 = .ok (.if_icmp .ne 20, 3) := by decide +kernel
theorem dX9_ploughsActs_33 : decode cX9_ploughsActs 33 = .ok (.aload_n 0, 1) := by decide +kernel
theorem dX9_ploughsActs_34 : decode cX9_ploughsActs 34 = .ok (.bipush 51, 2) := by decide +kernel
theorem dX9_ploughsActs_36 : decode cX9_ploughsActs 36 = .ok (.invokevirtual 225, 3) := by decide +kernel
theorem dX9_ploughsActs_39 : decode cX9_ploughsActs 39 = .ok (.aload_n 0, 1) := by decide +kernel
theorem dX9_ploughsActs_40 : decode cX9_ploughsActs 40 = .ok (.iload_n 1, 1) := by decide +kernel
theorem dX9_ploughsActs_41 : decode cX9_ploughsActs 41 = .ok (.invokevirtual 237, 3) := by decide +kernel
theorem dX9_ploughsActs_44 : decode cX9_ploughsActs 44 = .ok (.aload_n 0, 1) := by decide +kernel
theorem dX9_ploughsActs_45 : decode cX9_ploughsActs 45 = .ok (.getfield 228, 3) := by decide +kernel
theorem dX9_ploughsActs_48 : decode cX9_ploughsActs 48 = .ok (.ixor, 1) := by decide +kernel
theorem dX9_ploughsActs_49 : decode cX9_ploughsActs 49 = .ok (.ireturn, 1) := by decide +kernel
theorem dX9_ploughsActs_50 : decode cX9_ploughsActs 50 = .ok (.aload_n 0, 1) := by decide +kernel
theorem dX9_ploughsActs_51 : decode cX9_ploughsActs 51 = .ok (.iload_n 1, 1) := by decide +kernel
theorem dX9_ploughsActs_52 : decode cX9_ploughsActs 52 = .ok (.invokevirtual 237, 3) := by decide +kernel
theorem dX9_ploughsActs_55 : decode cX9_ploughsActs 55 = .ok (.ireturn, 1) := by decide +kernel
theorem dX9_plainLooks_0 : decode cX9_plainLooks 0 = .ok (.aload_n 0, 1) := by decide +kernel
theorem dX9_plainLooks_1 : decode cX9_plainLooks 1 = .ok (.iconst 2, 1) := by decide +kernel
theorem dX9_plainLooks_2 : decode cX9_plainLooks 2 = .ok (.invokevirtual 225, 3) := by decide +kernel
theorem dX9_plainLooks_5 : decode cX9_plainLooks 5 = .ok (.aload_n 0, 1) := by decide +kernel
theorem dX9_plainLooks_6 : decode cX9_plainLooks 6 = .ok (.iload_n 1, 1) := by decide +kernel
theorem dX9_plainLooks_7 : decode cX9_plainLooks 7 = .ok (.invokevirtual 240, 3) := by decide +kernel
theorem dX9_plainLooks_10 : decode cX9_plainLooks 10 = .ok (.aload_n 0, 1) := by decide +kernel
theorem dX9_plainLooks_11 : decode cX9_plainLooks 11 = .ok (.getfield 243, 3) := by decide +kernel
theorem dX9_plainLooks_14 : decode cX9_plainLooks 14 = .ok (.isub, 1) := by decide +kernel
theorem dX9_plainLooks_15 : decode cX9_plainLooks 15 = .ok (.ireturn, 1) := by decide +kernel
theorem dX9_looksActs_0 : decode cX9_looksActs 0 = .ok (.aload_n 0, 1) := by decide +kernel
theorem dX9_looksActs_1 : decode cX9_looksActs 1 = .ok (.getfield 231, 3) := by decide +kernel
theorem dX9_looksActs_4 : decode cX9_looksActs 4 = .ok (.iconst 2, 1) := by decide +kernel
theorem dX9_looksActs_5 : decode cX9_looksActs 5 = .ok (.invokestatic 234, 3) := by decide +kernel
theorem dX9_looksActs_8 : decode cX9_looksActs 8 = .ok (.ifCond .eq 16, 3) := by decide +kernel
theorem dX9_looksActs_11 : decode cX9_looksActs 11 = .ok (.aload_n 0, 1) := by decide +kernel
theorem dX9_looksActs_12 : decode cX9_looksActs 12 = .ok (.bipush 21, 2) := by decide +kernel
theorem dX9_looksActs_14 : decode cX9_looksActs 14 = .ok (.invokevirtual 225, 3) := by decide +kernel
theorem dX9_looksActs_17 : decode cX9_looksActs 17 = .ok (.aload_n 0, 1) := by decide +kernel
theorem dX9_looksActs_18 : decode cX9_looksActs 18 = .ok (.iload_n 1, 1) := by decide +kernel
theorem dX9_looksActs_19 : decode cX9_looksActs 19 = .ok (.invokevirtual 246, 3) := by decide +kernel
theorem dX9_looksActs_22 : decode cX9_looksActs 22 = .ok (.ineg, 1) := by decide +kernel
theorem dX9_looksActs_23 : decode cX9_looksActs 23 = .ok (.ireturn, 1) := by decide +kernel
theorem dX9_looksActs_24 : decode cX9_looksActs 24 = .ok (.aload_n 0, 1) := by decide +kernel
theorem dX9_looksActs_25 : decode cX9_looksActs 25 = .ok (.getfield 231, 3) := by decide +kernel
theorem dX9_looksActs_28 : decode cX9_looksActs 28 = .ok (.bipush 6, 2) := by decide +kernel
theorem dX9_looksActs_30 : decode cX9_looksActs 30 = .ok (.if_icmp .ne 20, 3) := by decide +kernel
theorem dX9_looksActs_33 : decode cX9_looksActs 33 = .ok (.aload_n 0, 1) := by decide +kernel
theorem dX9_looksActs_34 : decode cX9_looksActs 34 = .ok (.bipush 61, 2) := by decide +kernel
theorem dX9_looksActs_36 : decode cX9_looksActs 36 = .ok (.invokevirtual 225, 3) := by decide +kernel
theorem dX9_looksActs_39 : decode cX9_looksActs 39 = .ok (.aload_n 0, 1) := by decide +kernel
theorem dX9_looksActs_40 : decode cX9_looksActs 40 = .ok (.iload_n 1, 1) := by decide +kernel
theorem dX9_looksActs_41 : decode cX9_looksActs 41 = .ok (.invokevirtual 246, 3) := by decide +kernel
theorem dX9_looksActs_44 : decode cX9_looksActs 44 = .ok (.aload_n 0, 1) := by decide +kernel
theorem dX9_looksActs_45 : decode cX9_looksActs 45 = .ok (.getfield 243, 3) := by decide +kernel
theorem dX9_looksActs_48 : decode cX9_looksActs 48 = .ok (.iadd, 1) := by decide +kernel
theorem dX9_looksActs_49 : decode cX9_looksActs 49 = .ok (.ireturn, 1) := by decide +kernel
theorem dX9_looksActs_50 : decode cX9_looksActs 50 = .ok (.aload_n 0, 1) := by decide +kernel
theorem dX9_looksActs_51 : decode cX9_looksActs 51 = .ok (.iload_n 1, 1) := by decide +kernel
theorem dX9_looksActs_52 : decode cX9_looksActs 52 = .ok (.invokevirtual 246, 3) := by decide +kernel
theorem dX9_looksActs_55 : decode cX9_looksActs 55 = .ok (.ireturn, 1) := by decide +kernel
theorem dX9_plainTelling_0 : decode cX9_plainTelling 0 = .ok (.aload_n 0, 1) := by decide +kernel
theorem dX9_plainTelling_1 : decode cX9_plainTelling 1 = .ok (.iconst 3, 1) := by decide +kernel
theorem dX9_plainTelling_2 : decode cX9_plainTelling 2 = .ok (.invokevirtual 225, 3) := by decide +kernel
theorem dX9_plainTelling_5 : decode cX9_plainTelling 5 = .ok (.aload_n 0, 1) := by decide +kernel
theorem dX9_plainTelling_6 : decode cX9_plainTelling 6 = .ok (.iload_n 1, 1) := by decide +kernel
theorem dX9_plainTelling_7 : decode cX9_plainTelling 7 = .ok (.invokevirtual 249, 3) := by decide +kernel
theorem dX9_plainTelling_10 : decode cX9_plainTelling 10 = .ok (.iconst 2, 1) := by decide +kernel
theorem dX9_plainTelling_11 : decode cX9_plainTelling 11 = .ok (.imul, 1) := by decide +kernel
theorem dX9_plainTelling_12 : decode cX9_plainTelling 12 = .ok (.ireturn, 1) := by decide +kernel
theorem dX9_swearsActs_0 : decode cX9_swearsActs 0 = .ok (.aload_n 0, 1) := by decide +kernel
theorem dX9_swearsActs_1 : decode cX9_swearsActs 1 = .ok (.getfield 231, 3) := by decide +kernel
theorem dX9_swearsActs_4 : decode cX9_swearsActs 4 = .ok (.iconst 3, 1) := by decide +kernel
theorem dX9_swearsActs_5 : decode cX9_swearsActs 5 = .ok (.invokestatic 234, 3) := by decide +kernel
theorem dX9_swearsActs_8 : decode cX9_swearsActs 8 = .ok (.ifCond .eq 18, 3) := by decide +kernel
theorem dX9_swearsActs_11 : decode cX9_swearsActs 11 = .ok (.aload_n 0, 1) := by decide +kernel
theorem dX9_swearsActs_12 : decode cX9_swearsActs 12 = .ok (.bipush 31, 2) := by decide +kernel
theorem dX9_swearsActs_14 : decode cX9_swearsActs 14 = .ok (.invokevirtual 225, 3) := by decide +kernel
theorem dX9_swearsActs_17 : decode cX9_swearsActs 17 = .ok (.aload_n 0, 1) := by decide +kernel
theorem dX9_swearsActs_18 : decode cX9_swearsActs 18 = .ok (.iload_n 1, 1) := by decide +kernel
theorem dX9_swearsActs_19 : decode cX9_swearsActs 19 = .ok (.invokevirtual 252, 3) := by decide +kernel
theorem dX9_swearsActs_22 : decode cX9_swearsActs 22 = .ok (.bipush 7, 2) := by decide +kernel
theorem dX9_swearsActs_24 : decode cX9_swearsActs 24 = .ok (.ixor, 1) := by decide +kernel
theorem dX9_swearsActs_25 : decode cX9_swearsActs 25 = .ok (.ireturn, 1) := by decide +kernel
theorem dX9_swearsActs_26 : decode cX9_swearsActs 26 = .ok (.aload_n 0, 1) := by decide +kernel
theorem dX9_swearsActs_27 : decode cX9_swearsActs 27 = .ok (.getfield 231, 3) := by decide +kernel
theorem dX9_swearsActs_30 : decode cX9_swearsActs 30 = .ok (.iconst 4, 1) := by decide +kernel
theorem dX9_swearsActs_31 : decode cX9_swearsActs 31 = .ok (.if_icmp .ne 25, 3) := by decide +kernel
theorem dX9_swearsActs_34 : decode cX9_swearsActs 34 = .ok (.aload_n 0, 1) := by decide +kernel
theorem dX9_swearsActs_35 : decode cX9_swearsActs 35 = .ok (.bipush 41, 2) := by decide +kernel
theorem dX9_swearsActs_37 : decode cX9_swearsActs 37 = .ok (.invokevirtual 225, 3) := by decide +kernel
theorem dX9_swearsActs_40 : decode cX9_swearsActs 40 = .ok (.aload_n 0, 1) := by decide +kernel
theorem dX9_swearsActs_41 : decode cX9_swearsActs 41 = .ok (.iload_n 1, 1) := by decide +kernel
theorem dX9_swearsActs_42 : decode cX9_swearsActs 42 = .ok (.iconst 1, 1) := by decide +kernel
theorem dX9_swearsActs_43 : decode cX9_swearsActs 43 = .ok (.isub, 1) := by decide +kernel
theorem dX9_swearsActs_44 : decode cX9_swearsActs 44 = .ok (.invokevirtual 252, 3) := by decide +kernel
theorem dX9_swearsActs_47 : decode cX9_swearsActs 47 = .ok (.istore_n 2, 1) := by decide +kernel
theorem dX9_swearsActs_48 : decode cX9_swearsActs 48 = .ok (.iload_n 2, 1) := by decide +kernel
theorem dX9_swearsActs_49 : decode cX9_swearsActs 49 = .ok (.aload_n 0, 1) := by decide +kernel
theorem dX9_swearsActs_50 : decode cX9_swearsActs 50 = .ok (.iconst 2, 1) := by decide +kernel
theorem dX9_swearsActs_51 : decode cX9_swearsActs 51 = .ok (.invokevirtual 240, 3) := by decide +kernel
theorem dX9_swearsActs_54 : decode cX9_swearsActs 54 = .ok (.iadd, 1) := by decide +kernel
theorem dX9_swearsActs_55 : decode cX9_swearsActs 55 = .ok (.ireturn, 1) := by decide +kernel
theorem dX9_swearsActs_56 : decode cX9_swearsActs 56 = .ok (.aload_n 0, 1) := by decide +kernel
theorem dX9_swearsActs_57 : decode cX9_swearsActs 57 = .ok (.iload_n 1, 1) := by decide +kernel
theorem dX9_swearsActs_58 : decode cX9_swearsActs 58 = .ok (.invokevirtual 252, 3) := by decide +kernel
theorem dX9_swearsActs_61 : decode cX9_swearsActs 61 = .ok (.ireturn, 1) := by decide +kernel
theorem dX9_act_0 : decode cX9_act 0 = .ok (.aload_n 0, 1) := by decide +kernel
theorem dX9_act_1 : decode cX9_act 1 = .ok (.iconst 0, 1) := by decide +kernel
theorem dX9_act_2 : decode cX9_act 2 = .ok (.putfield 222, 3) := by decide +kernel
theorem dX9_act_5 : decode cX9_act 5 = .ok (.aload_n 0, 1) := by decide +kernel
theorem dX9_act_6 : decode cX9_act 6 = .ok (.iload_n 1, 1) := by decide +kernel
theorem dX9_act_7 : decode cX9_act 7 = .ok (.invokevirtual 162, 3) := by decide +kernel
theorem dX9_act_10 : decode cX9_act 10 = .ok (.ifCond .eq 12, 3) := by decide +kernel
theorem dX9_act_13 : decode cX9_act 13 = .ok (.iload_n 2, 1) := by decide +kernel
theorem dX9_act_14 : decode cX9_act 14 = .ok (.iconst 0, 1) := by decide +kernel
theorem dX9_act_15 : decode cX9_act 15 = .ok (.iconst 2, 1) := by decide +kernel
theorem dX9_act_16 : decode cX9_act 16 = .ok (.invokestatic 44, 3) := by decide +kernel
theorem dX9_act_19 : decode cX9_act 19 = .ok (.ifCond .ne 5, 3) := by decide +kernel
theorem dX9_act_22 : decode cX9_act 22 = .ok (.iconst 0, 1) := by decide +kernel
theorem dX9_act_23 : decode cX9_act 23 = .ok (.ireturn, 1) := by decide +kernel
theorem dX9_act_24 : decode cX9_act 24 = .ok (.aload_n 0, 1) := by decide +kernel
theorem dX9_act_25 : decode cX9_act 25 = .ok (.aload_n 0, 1) := by decide +kernel
theorem dX9_act_26 : decode cX9_act 26 = .ok (.getfield 9, 3) := by decide +kernel
theorem dX9_act_29 : decode cX9_act 29 = .ok (.bipush 39, 2) := by decide +kernel
theorem dX9_act_31 : decode cX9_act 31 = .ok (.iload_n 1, 1) := by decide +kernel
theorem dX9_act_32 : decode cX9_act 32 = .ok (.iadd, 1) := by decide +kernel
theorem dX9_act_33 : decode cX9_act 33 = .ok (.iaload, 1) := by decide +kernel
theorem dX9_act_34 : decode cX9_act 34 = .ok (.putfield 231, 3) := by decide +kernel
theorem dX9_act_37 : decode cX9_act 37 = .ok (.aload_n 0, 1) := by decide +kernel
theorem dX9_act_38 : decode cX9_act 38 = .ok (.iload_n 1, 1) := by decide +kernel
theorem dX9_act_39 : decode cX9_act 39 = .ok (.putfield 228, 3) := by decide +kernel
theorem dX9_act_42 : decode cX9_act 42 = .ok (.aload_n 0, 1) := by decide +kernel
theorem dX9_act_43 : decode cX9_act 43 = .ok (.aload_n 0, 1) := by decide +kernel
theorem dX9_act_44 : decode cX9_act 44 = .ok (.getfield 9, 3) := by decide +kernel
theorem dX9_act_47 : decode cX9_act 47 = .ok (.bipush 45, 2) := by decide +kernel
theorem dX9_act_49 : decode cX9_act 49 = .ok (.iload_n 1, 1) := by decide +kernel
theorem dX9_act_50 : decode cX9_act 50 = .ok (.iadd, 1) := by decide +kernel
theorem dX9_act_51 : decode cX9_act 51 = .ok (.iaload, 1) := by decide +kernel
theorem dX9_act_52 : decode cX9_act 52 = .ok (.putfield 243, 3) := by decide +kernel
theorem dX9_act_55 : decode cX9_act 55 = .ok (.iload_n 2, 1) := by decide +kernel
theorem dX9_act_56 : decode cX9_act 56 = .ok (.ifCond .ne 11, 3) := by decide +kernel
theorem dX9_act_59 : decode cX9_act 59 = .ok (.aload_n 0, 1) := by decide +kernel
theorem dX9_act_60 : decode cX9_act 60 = .ok (.iload_n 3, 1) := by decide +kernel
theorem dX9_act_61 : decode cX9_act 61 = .ok (.invokevirtual 240, 3) := by decide +kernel
theorem dX9_act_64 : decode cX9_act 64 = .ok (.goto 21, 3) := by decide +kernel
theorem dX9_act_67 : decode cX9_act 67 = .ok (.iload_n 2, 1) := by decide +kernel
theorem dX9_act_68 : decode cX9_act 68 = .ok (.iconst 1, 1) := by decide +kernel
theorem dX9_act_69 : decode cX9_act 69 = .ok (.if_icmp .ne 11, 3) := by decide +kernel
theorem dX9_act_72 : decode cX9_act 72 = .ok (.aload_n 0, 1) := by decide +kernel
theorem dX9_act_73 : decode cX9_act 73 = .ok (.iload_n 3, 1) := by decide +kernel
theorem dX9_act_74 : decode cX9_act 74 = .ok (.invokevirtual 249, 3) := by decide +kernel
theorem dX9_act_77 : decode cX9_act 77 = .ok (.goto 8, 3) := by decide +kernel
theorem dX9_act_80 : decode cX9_act 80 = .ok (.aload_n 0, 1) := by decide +kernel
theorem dX9_act_81 : decode cX9_act 81 = .ok (.iload_n 3, 1) := by decide +kernel
theorem dX9_act_82 : decode cX9_act 82 = .ok (.invokevirtual 255, 3) := by decide +kernel
theorem dX9_act_85 : decode cX9_act 85 = .ok (.ireturn, 1) := by decide +kernel
theorem dX9_trace_0 : decode cX9_trace 0 = .ok (.iload_n 1, 1) := by decide +kernel
theorem dX9_trace_1 : decode cX9_trace 1 = .ok (.iconst 0, 1) := by decide +kernel
theorem dX9_trace_2 : decode cX9_trace 2 = .ok (.aload_n 0, 1) := by decide +kernel
theorem dX9_trace_3 : decode cX9_trace 3 = .ok (.getfield 222, 3) := by decide +kernel
theorem dX9_trace_6 : decode cX9_trace 6 = .ok (.bipush 20, 2) := by decide +kernel
theorem dX9_trace_8 : decode cX9_trace 8 = .ok (.if_icmp .ge 10, 3) := by decide +kernel
theorem dX9_trace_11 : decode cX9_trace 11 = .ok (.aload_n 0, 1) := by decide +kernel
theorem dX9_trace_12 : decode cX9_trace 12 = .ok (.getfield 222, 3) := by decide +kernel
theorem dX9_trace_15 : decode cX9_trace 15 = .ok (.goto 5, 3) := by decide +kernel
theorem dX9_trace_18 : decode cX9_trace 18 = .ok (.bipush 20, 2) := by decide +kernel
theorem dX9_trace_20 : decode cX9_trace 20 = .ok (.iconst 1, 1) := by decide +kernel
theorem dX9_trace_21 : decode cX9_trace 21 = .ok (.isub, 1) := by decide +kernel
theorem dX9_trace_22 : decode cX9_trace 22 = .ok (.invokestatic 44, 3) := by decide +kernel
theorem dX9_trace_25 : decode cX9_trace 25 = .ok (.ifCond .eq 12, 3) := by decide +kernel
theorem dX9_trace_28 : decode cX9_trace 28 = .ok (.aload_n 0, 1) := by decide +kernel
theorem dX9_trace_29 : decode cX9_trace 29 = .ok (.getfield 37, 3) := by decide +kernel
theorem dX9_trace_32 : decode cX9_trace 32 = .ok (.iload_n 1, 1) := by decide +kernel
theorem dX9_trace_33 : decode cX9_trace 33 = .ok (.iaload, 1) := by decide +kernel
theorem dX9_trace_34 : decode cX9_trace 34 = .ok (.goto 4, 3) := by decide +kernel
theorem dX9_trace_37 : decode cX9_trace 37 = .ok (.iconst (-1), 1) := by decide +kernel
theorem dX9_trace_38 : decode cX9_trace 38 = .ok (.ireturn, 1) := by decide +kernel
theorem dX9_as_0 : decode cX9_as 0 = .ok (.aload_n 0, 1) := by decide +kernel
theorem dX9_as_1 : decode cX9_as 1 = .ok (.iload_n 1, 1) := by decide +kernel
theorem dX9_as_2 : decode cX9_as 2 = .ok (.invokevirtual 162, 3) := by decide +kernel
theorem dX9_as_5 : decode cX9_as 5 = .ok (.ifCond .eq 13, 3) := by decide +kernel
theorem dX9_as_8 : decode cX9_as 8 = .ok (.iload_n 2, 1) := by decide +kernel
theorem dX9_as_9 : decode cX9_as 9 = .ok (.iconst 0, 1) := by decide +kernel
theorem dX9_as_10 : decode cX9_as 10 = .ok (.bipush 6, 2) := by decide +kernel
theorem dX9_as_12 : decode cX9_as 12 = .ok (.invokestatic 44, 3) := by decide +kernel
theorem dX9_as_15 : decode cX9_as 15 = .ok (.ifCond .ne 5, 3) := by decide +kernel
theorem dX9_as_18 : decode cX9_as 18 = .ok (.iconst (-1), 1) := by decide +kernel
theorem dX9_as_19 : decode cX9_as 19 = .ok (.ireturn, 1) := by decide +kernel
theorem dX9_as_20 : decode cX9_as 20 = .ok (.aload_n 0, 1) := by decide +kernel
theorem dX9_as_21 : decode cX9_as 21 = .ok (.getfield 9, 3) := by decide +kernel
theorem dX9_as_24 : decode cX9_as 24 = .ok (.bipush 39, 2) := by decide +kernel
theorem dX9_as_26 : decode cX9_as 26 = .ok (.iload_n 1, 1) := by decide +kernel
theorem dX9_as_27 : decode cX9_as 27 = .ok (.iadd, 1) := by decide +kernel
theorem dX9_as_28 : decode cX9_as 28 = .ok (.iaload, 1) := by decide +kernel
theorem dX9_as_29 : decode cX9_as 29 = .ok (.iload_n 2, 1) := by decide +kernel
theorem dX9_as_30 : decode cX9_as 30 = .ok (.invokestatic 234, 3) := by decide +kernel
theorem dX9_as_33 : decode cX9_as 33 = .ok (.ifCond .eq 15, 3) := by decide +kernel
theorem dX9_as_36 : decode cX9_as 36 = .ok (.aload_n 0, 1) := by decide +kernel
theorem dX9_as_37 : decode cX9_as 37 = .ok (.getfield 9, 3) := by decide +kernel
theorem dX9_as_40 : decode cX9_as 40 = .ok (.bipush 45, 2) := by decide +kernel
theorem dX9_as_42 : decode cX9_as 42 = .ok (.iload_n 1, 1) := by decide +kernel
theorem dX9_as_43 : decode cX9_as 43 = .ok (.iadd, 1) := by decide +kernel
theorem dX9_as_44 : decode cX9_as 44 = .ok (.iaload, 1) := by decide +kernel
theorem dX9_as_45 : decode cX9_as 45 = .ok (.goto 5, 3) := by decide +kernel
theorem dX9_as_48 : decode cX9_as 48 = .ok (.bipush (-6), 2) := by decide +kernel
theorem dX9_as_50 : decode cX9_as 50 = .ok (.ireturn, 1) := by decide +kernel
theorem dX9_image_0 : decode cX9_image 0 = .ok (.iconst 0, 1) := by decide +kernel
theorem dX9_image_1 : decode cX9_image 1 = .ok (.istore_n 1, 1) := by decide +kernel
theorem dX9_image_2 : decode cX9_image 2 = .ok (.iload_n 1, 1) := by decide +kernel
theorem dX9_image_3 : decode cX9_image 3 = .ok (.sipush 948, 3) := by decide +kernel
theorem dX9_image_6 : decode cX9_image 6 = .ok (.if_icmp .ge 21, 3) := by decide +kernel
theorem dX9_image_9 : decode cX9_image 9 = .ok (.aload_n 0, 1) := by decide +kernel
theorem dX9_image_10 : decode cX9_image 10 = .ok (.getfield 15, 3) := by decide +kernel
theorem dX9_image_13 : decode cX9_image 13 = .ok (.iload_n 1, 1) := by decide +kernel
theorem dX9_image_14 : decode cX9_image 14 = .ok (.aload_n 0, 1) := by decide +kernel
theorem dX9_image_15 : decode cX9_image 15 = .ok (.getfield 9, 3) := by decide +kernel
theorem dX9_image_18 : decode cX9_image 18 = .ok (.iload_n 1, 1) := by decide +kernel
theorem dX9_image_19 : decode cX9_image 19 = .ok (.iaload, 1) := by decide +kernel
theorem dX9_image_20 : decode cX9_image 20 = .ok (.iastore, 1) := by decide +kernel
theorem dX9_image_21 : decode cX9_image 21 = .ok (.iinc 1 1, 3) := by decide +kernel
theorem dX9_image_24 : decode cX9_image 24 = .ok (.goto (-22), 3) := by decide +kernel
theorem dX9_image_27 : decode cX9_image 27 = .ok (.aload_n 0, 1) := by decide +kernel
theorem dX9_image_28 : decode cX9_image 28 = .ok (.iconst 1, 1) := by decide +kernel
theorem dX9_image_29 : decode cX9_image 29 = .ok (.putfield 258, 3) := by decide +kernel
theorem dX9_image_32 : decode cX9_image 32 = .ok (.aload_n 0, 1) := by decide +kernel
theorem dX9_image_33 : decode cX9_image 33 = .ok (.getfield 9, 3) := by decide +kernel
theorem dX9_image_36 : decode cX9_image 36 = .ok (.bipush 31, 2) := by decide +kernel
theorem dX9_image_38 : decode cX9_image 38 = .ok (.iaload, 1) := by decide +kernel
theorem dX9_image_39 : decode cX9_image 39 = .ok (.ireturn, 1) := by decide +kernel
theorem dX9_undo_0 : decode cX9_undo 0 = .ok (.aload_n 0, 1) := by decide +kernel
theorem dX9_undo_1 : decode cX9_undo 1 = .ok (.getfield 258, 3) := by decide +kernel
theorem dX9_undo_4 : decode cX9_undo 4 = .ok (.ifCond .ne 6, 3) := by decide +kernel
theorem dX9_undo_7 : decode cX9_undo 7 = .ok (.bipush (-3), 2) := by decide +kernel
theorem dX9_undo_9 : decode cX9_undo 9 = .ok (.ireturn, 1) := by decide +kernel
theorem dX9_undo_10 : decode cX9_undo 10 = .ok (.iconst 0, 1) := by decide +kernel
theorem dX9_undo_11 : decode cX9_undo 11 = .ok (.istore_n 1, 1) := by decide +kernel
theorem dX9_undo_12 : decode cX9_undo 12 = .ok (.iload_n 1, 1) := by decide +kernel
theorem dX9_undo_13 : decode cX9_undo 13 = .ok (.sipush 948, 3) := by decide +kernel
theorem dX9_undo_16 : decode cX9_undo 16 = .ok (.if_icmp .ge 21, 3) := by decide +kernel
theorem dX9_undo_19 : decode cX9_undo 19 = .ok (.aload_n 0, 1) := by decide +kernel
theorem dX9_undo_20 : decode cX9_undo 20 = .ok (.getfield 9, 3) := by decide +kernel
theorem dX9_undo_23 : decode cX9_undo 23 = .ok (.iload_n 1, 1) := by decide +kernel
theorem dX9_undo_24 : decode cX9_undo 24 = .ok (.aload_n 0, 1) := by decide +kernel
theorem dX9_undo_25 : decode cX9_undo 25 = .ok (.getfield 15, 3) := by decide +kernel
theorem dX9_undo_28 : decode cX9_undo 28 = .ok (.iload_n 1, 1) := by decide +kernel
theorem dX9_undo_29 : decode cX9_undo 29 = .ok (.iaload, 1) := by decide +kernel
theorem dX9_undo_30 : decode cX9_undo 30 = .ok (.iastore, 1) := by decide +kernel
theorem dX9_undo_31 : decode cX9_undo 31 = .ok (.iinc 1 1, 3) := by decide +kernel
theorem dX9_undo_34 : decode cX9_undo 34 = .ok (.goto (-22), 3) := by decide +kernel
theorem dX9_undo_37 : decode cX9_undo 37 = .ok (.aload_n 0, 1) := by decide +kernel
theorem dX9_undo_38 : decode cX9_undo 38 = .ok (.getfield 9, 3) := by decide +kernel
theorem dX9_undo_41 : decode cX9_undo 41 = .ok (.bipush 31, 2) := by decide +kernel
theorem dX9_undo_43 : decode cX9_undo 43 = .ok (.iaload, 1) := by decide +kernel
theorem dX9_undo_44 : decode cX9_undo 44 = .ok (.ireturn, 1) := by decide +kernel
theorem dX9_count_0 : decode cX9_count 0 = .ok (.iload_n 1, 1) := by decide +kernel
theorem dX9_count_1 : decode cX9_count 1 = .ok (.bipush 7, 2) := by decide +kernel
theorem dX9_count_3 : decode cX9_count 3 = .ok (.if_icmp .ne 10, 3) := by decide +kernel
theorem dX9_count_6 : decode cX9_count 6 = .ok (.aload_n 0, 1) := by decide +kernel
theorem dX9_count_7 : decode cX9_count 7 = .ok (.getfield 222, 3) := by decide +kernel
theorem dX9_count_10 : decode cX9_count 10 = .ok (.goto 26, 3) := by decide +kernel
theorem dX9_count_13 : decode cX9_count 13 = .ok (.iload_n 1, 1) := by decide +kernel
theorem dX9_count_14 : decode cX9_count 14 = .ok (.iconst 0, 1) := by decide +kernel
theorem dX9_count_15 : decode cX9_count 15 = .ok (.bipush 6, 2) := by decide +kernel
theorem dX9_count_17 : decode cX9_count 17 = .ok (.invokestatic 44, 3) := by decide +kernel
theorem dX9_count_20 : decode cX9_count 20 = .ok (.ifCond .eq 15, 3) := by decide +kernel
theorem dX9_count_23 : decode cX9_count 23 = .ok (.aload_n 0, 1) := by decide +kernel
theorem dX9_count_24 : decode cX9_count 24 = .ok (.getfield 9, 3) := by decide +kernel
theorem dX9_count_27 : decode cX9_count 27 = .ok (.bipush 31, 2) := by decide +kernel
theorem dX9_count_29 : decode cX9_count 29 = .ok (.iload_n 1, 1) := by decide +kernel
theorem dX9_count_30 : decode cX9_count 30 = .ok (.iadd, 1) := by decide +kernel
theorem dX9_count_31 : decode cX9_count 31 = .ok (.iaload, 1) := by decide +kernel
theorem dX9_count_32 : decode cX9_count 32 = .ok (.goto 4, 3) := by decide +kernel
theorem dX9_count_35 : decode cX9_count 35 = .ok (.iconst (-1), 1) := by decide +kernel
theorem dX9_count_36 : decode cX9_count 36 = .ok (.ireturn, 1) := by decide +kernel
theorem dJ6_bitCount_0f7a4_0 : decode cJ6_bitCount_0f7a4 0 = .ok (.iload_n 0, 1) := by decide +kernel
theorem dJ6_bitCount_0f7a4_1 : decode cJ6_bitCount_0f7a4 1 = .ok (.iload_n 0, 1) := by decide +kernel
theorem dJ6_bitCount_0f7a4_2 : decode cJ6_bitCount_0f7a4 2 = .ok (.iconst 1, 1) := by decide +kernel
theorem dJ6_bitCount_0f7a4_3 : decode cJ6_bitCount_0f7a4 3 = .ok (.iushr, 1) := by decide +kernel
theorem dJ6_bitCount_0f7a4_4 : decode cJ6_bitCount_0f7a4 4 = .ok (.ldc_w 265, 3) := by decide +kernel
theorem dJ6_bitCount_0f7a4_7 : decode cJ6_bitCount_0f7a4 7 = .ok (.iand, 1) := by decide +kernel
theorem dJ6_bitCount_0f7a4_8 : decode cJ6_bitCount_0f7a4 8 = .ok (.isub, 1) := by decide +kernel
theorem dJ6_bitCount_0f7a4_9 : decode cJ6_bitCount_0f7a4 9 = .ok (.istore_n 0, 1) := by decide +kernel
theorem dJ6_bitCount_0f7a4_10 : decode cJ6_bitCount_0f7a4 10 = .ok (.iload_n 0, 1) := by decide +kernel
theorem dJ6_bitCount_0f7a4_11 : decode cJ6_bitCount_0f7a4 11 = .ok (.ldc_w 266, 3) := by decide +kernel
theorem dJ6_bitCount_0f7a4_14 : decode cJ6_bitCount_0f7a4 14 = .ok (.iand, 1) := by decide +kernel
theorem dJ6_bitCount_0f7a4_15 : decode cJ6_bitCount_0f7a4 15 = .ok (.iload_n 0, 1) := by decide +kernel
theorem dJ6_bitCount_0f7a4_16 : decode cJ6_bitCount_0f7a4 16 = .ok (.iconst 2, 1) := by decide +kernel
theorem dJ6_bitCount_0f7a4_17 : decode cJ6_bitCount_0f7a4 17 = .ok (.iushr, 1) := by decide +kernel
theorem dJ6_bitCount_0f7a4_18 : decode cJ6_bitCount_0f7a4 18 = .ok (.ldc_w 266, 3) := by decide +kernel
theorem dJ6_bitCount_0f7a4_21 : decode cJ6_bitCount_0f7a4 21 = .ok (.iand, 1) := by decide +kernel
theorem dJ6_bitCount_0f7a4_22 : decode cJ6_bitCount_0f7a4 22 = .ok (.iadd, 1) := by decide +kernel
theorem dJ6_bitCount_0f7a4_23 : decode cJ6_bitCount_0f7a4 23 = .ok (.istore_n 0, 1) := by decide +kernel
theorem dJ6_bitCount_0f7a4_24 : decode cJ6_bitCount_0f7a4 24 = .ok (.iload_n 0, 1) := by decide +kernel
theorem dJ6_bitCount_0f7a4_25 : decode cJ6_bitCount_0f7a4 25 = .ok (.iload_n 0, 1) := by decide +kernel
theorem dJ6_bitCount_0f7a4_26 : decode cJ6_bitCount_0f7a4 26 = .ok (.iconst 4, 1) := by decide +kernel
theorem dJ6_bitCount_0f7a4_27 : decode cJ6_bitCount_0f7a4 27 = .ok (.iushr, 1) := by decide +kernel
theorem dJ6_bitCount_0f7a4_28 : decode cJ6_bitCount_0f7a4 28 = .ok (.iadd, 1) := by decide +kernel
theorem dJ6_bitCount_0f7a4_29 : decode cJ6_bitCount_0f7a4 29 = .ok (.ldc_w 267, 3) := by decide +kernel
theorem dJ6_bitCount_0f7a4_32 : decode cJ6_bitCount_0f7a4 32 = .ok (.iand, 1) := by decide +kernel
theorem dJ6_bitCount_0f7a4_33 : decode cJ6_bitCount_0f7a4 33 = .ok (.istore_n 0, 1) := by decide +kernel
theorem dJ6_bitCount_0f7a4_34 : decode cJ6_bitCount_0f7a4 34 = .ok (.iload_n 0, 1) := by decide +kernel
theorem dJ6_bitCount_0f7a4_35 : decode cJ6_bitCount_0f7a4 35 = .ok (.iload_n 0, 1) := by decide +kernel
theorem dJ6_bitCount_0f7a4_36 : decode cJ6_bitCount_0f7a4 36 = .ok (.bipush 8, 2) := by decide +kernel
theorem dJ6_bitCount_0f7a4_38 : decode cJ6_bitCount_0f7a4 38 = .ok (.iushr, 1) := by decide +kernel
theorem dJ6_bitCount_0f7a4_39 : decode cJ6_bitCount_0f7a4 39 = .ok (.iadd, 1) := by decide +kernel
theorem dJ6_bitCount_0f7a4_40 : decode cJ6_bitCount_0f7a4 40 = .ok (.istore_n 0, 1) := by decide +kernel
theorem dJ6_bitCount_0f7a4_41 : decode cJ6_bitCount_0f7a4 41 = .ok (.iload_n 0, 1) := by decide +kernel
theorem dJ6_bitCount_0f7a4_42 : decode cJ6_bitCount_0f7a4 42 = .ok (.iload_n 0, 1) := by decide +kernel
theorem dJ6_bitCount_0f7a4_43 : decode cJ6_bitCount_0f7a4 43 = .ok (.bipush 16, 2) := by decide +kernel
theorem dJ6_bitCount_0f7a4_45 : decode cJ6_bitCount_0f7a4 45 = .ok (.iushr, 1) := by decide +kernel
theorem dJ6_bitCount_0f7a4_46 : decode cJ6_bitCount_0f7a4 46 = .ok (.iadd, 1) := by decide +kernel
theorem dJ6_bitCount_0f7a4_47 : decode cJ6_bitCount_0f7a4 47 = .ok (.istore_n 0, 1) := by decide +kernel
theorem dJ6_bitCount_0f7a4_48 : decode cJ6_bitCount_0f7a4 48 = .ok (.iload_n 0, 1) := by decide +kernel
theorem dJ6_bitCount_0f7a4_49 : decode cJ6_bitCount_0f7a4 49 = .ok (.bipush 63, 2) := by decide +kernel
theorem dJ6_bitCount_0f7a4_51 : decode cJ6_bitCount_0f7a4 51 = .ok (.iand, 1) := by decide +kernel
theorem dJ6_bitCount_0f7a4_52 : decode cJ6_bitCount_0f7a4 52 = .ok (.ireturn, 1) := by decide +kernel
theorem dJ9_abs_0f7a4_0 : decode cJ9_abs_0f7a4 0 = .ok (.iload_n 0, 1) := by decide +kernel
theorem dJ9_abs_0f7a4_1 : decode cJ9_abs_0f7a4 1 = .ok (.ifCond .ge 8, 3) := by decide +kernel
theorem dJ9_abs_0f7a4_4 : decode cJ9_abs_0f7a4 4 = .ok (.iload_n 0, 1) := by decide +kernel
theorem dJ9_abs_0f7a4_5 : decode cJ9_abs_0f7a4 5 = .ok (.ineg, 1) := by decide +kernel
theorem dJ9_abs_0f7a4_6 : decode cJ9_abs_0f7a4 6 = .ok (.goto 4, 3) := by decide +kernel
theorem dJ9_abs_0f7a4_9 : decode cJ9_abs_0f7a4 9 = .ok (.iload_n 0, 1) := by decide +kernel
theorem dJ9_abs_0f7a4_10 : decode cJ9_abs_0f7a4 10 = .ok (.ireturn, 1) := by decide +kernel
theorem dJ9_max_7cf53_0 : decode cJ9_max_7cf53 0 = .ok (.iload_n 0, 1) := by decide +kernel
theorem dJ9_max_7cf53_1 : decode cJ9_max_7cf53 1 = .ok (.iload_n 1, 1) := by decide +kernel
theorem dJ9_max_7cf53_2 : decode cJ9_max_7cf53 2 = .ok (.if_icmp .lt 7, 3) := by decide +kernel
theorem dJ9_max_7cf53_5 : decode cJ9_max_7cf53 5 = .ok (.iload_n 0, 1) := by decide +kernel
theorem dJ9_max_7cf53_6 : decode cJ9_max_7cf53 6 = .ok (.goto 4, 3) := by decide +kernel
theorem dJ9_max_7cf53_9 : decode cJ9_max_7cf53 9 = .ok (.iload_n 1, 1) := by decide +kernel
theorem dJ9_max_7cf53_10 : decode cJ9_max_7cf53 10 = .ok (.ireturn, 1) := by decide +kernel
theorem dJ9_min_7cf53_0 : decode cJ9_min_7cf53 0 = .ok (.iload_n 0, 1) := by decide +kernel
theorem dJ9_min_7cf53_1 : decode cJ9_min_7cf53 1 = .ok (.iload_n 1, 1) := by decide +kernel
theorem dJ9_min_7cf53_2 : decode cJ9_min_7cf53 2 = .ok (.if_icmp .gt 7, 3) := by decide +kernel
theorem dJ9_min_7cf53_5 : decode cJ9_min_7cf53 5 = .ok (.iload_n 0, 1) := by decide +kernel
theorem dJ9_min_7cf53_6 : decode cJ9_min_7cf53 6 = .ok (.goto 4, 3) := by decide +kernel
theorem dJ9_min_7cf53_9 : decode cJ9_min_7cf53 9 = .ok (.iload_n 1, 1) := by decide +kernel
theorem dJ9_min_7cf53_10 : decode cJ9_min_7cf53 10 = .ok (.ireturn, 1) := by decide +kernel
theorem dJ0_length_8abf5_0 : decode cJ0_length_8abf5 0 = .ok (.aload_n 0, 1) := by decide +kernel
theorem dJ0_length_8abf5_1 : decode cJ0_length_8abf5 1 = .ok (.getfield 9, 3) := by decide +kernel
theorem dJ0_length_8abf5_4 : decode cJ0_length_8abf5 4 = .ok (.arraylength, 1) := by decide +kernel
theorem dJ0_length_8abf5_5 : decode cJ0_length_8abf5 5 = .ok (.aload_n 0, 1) := by decide +kernel
theorem dJ0_length_8abf5_6 : decode cJ0_length_8abf5 6 = .ok (.invokevirtual 335, 3) := by decide +kernel
theorem dJ0_length_8abf5_9 : decode cJ0_length_8abf5 9 = .ok (.ishr, 1) := by decide +kernel
theorem dJ0_length_8abf5_10 : decode cJ0_length_8abf5 10 = .ok (.ireturn, 1) := by decide +kernel
theorem dJ0_charAt_5068e_0 : decode cJ0_charAt_5068e 0 = .ok (.aload_n 0, 1) := by decide +kernel
theorem dJ0_charAt_5068e_1 : decode cJ0_charAt_5068e 1 = .ok (.invokevirtual 492, 3) := by decide +kernel
theorem dJ0_charAt_5068e_4 : decode cJ0_charAt_5068e 4 = .ok (.ifCond .eq 12, 3) := by decide +kernel
theorem dJ0_charAt_5068e_7 : decode cJ0_charAt_5068e 7 = .ok (.aload_n 0, 1) := by decide +kernel
theorem dJ0_charAt_5068e_8 : decode cJ0_charAt_5068e 8 = .ok (.getfield 9, 3) := by decide +kernel
theorem dJ0_charAt_5068e_11 : decode cJ0_charAt_5068e 11 = .ok (.iload_n 1, 1) := by decide +kernel
theorem dJ0_charAt_5068e_12 : decode cJ0_charAt_5068e 12 = .ok (.invokestatic 495, 3) := by decide +kernel
theorem dJ0_charAt_5068e_15 : decode cJ0_charAt_5068e 15 = .ok (.ireturn, 1) := by decide +kernel
theorem dJ0_charAt_5068e_16 : decode cJ0_charAt_5068e 16 = .ok (.aload_n 0, 1) := by decide +kernel
theorem dJ0_charAt_5068e_17 : decode cJ0_charAt_5068e 17 = .ok (.getfield 9, 3) := by decide +kernel
theorem dJ0_charAt_5068e_20 : decode cJ0_charAt_5068e 20 = .ok (.iload_n 1, 1) := by decide +kernel
theorem dJ0_charAt_5068e_21 : decode cJ0_charAt_5068e 21 = .ok (.invokestatic 498, 3) := by decide +kernel
theorem dJ0_charAt_5068e_24 : decode cJ0_charAt_5068e 24 = .ok (.ireturn, 1) := by decide +kernel
theorem dJ0_coder_7d493_0 : decode cJ0_coder_7d493 0 = .ok (.getstatic 38, 3) := by decide +kernel
theorem dJ0_coder_7d493_3 : decode cJ0_coder_7d493 3 = .ok (.ifCond .eq 10, 3) := by decide +kernel
theorem dJ0_coder_7d493_6 : decode cJ0_coder_7d493 6 = .ok (.aload_n 0, 1) := by decide +kernel
theorem dJ0_coder_7d493_7 : decode cJ0_coder_7d493 7 = .ok (.getfield 15, 3) := by decide +kernel
theorem dJ0_coder_7d493_10 : decode cJ0_coder_7d493 10 = .ok (.goto 4, 3) := by decide +kernel
theorem dJ0_coder_7d493_13 : decode cJ0_coder_7d493 13 = .ok (.iconst 1, 1) := by decide +kernel
theorem dJ0_coder_7d493_14 : decode cJ0_coder_7d493 14 = .ok (.ireturn, 1) := by decide +kernel
theorem dJ0_isLatin1_aae02_0 : decode cJ0_isLatin1_aae02 0 = .ok (.getstatic 38, 3) := by decide +kernel
theorem dJ0_isLatin1_aae02_3 : decode cJ0_isLatin1_aae02 3 = .ok (.ifCond .eq 14, 3) := by decide +kernel
theorem dJ0_isLatin1_aae02_6 : decode cJ0_isLatin1_aae02 6 = .ok (.aload_n 0, 1) := by decide +kernel
theorem dJ0_isLatin1_aae02_7 : decode cJ0_isLatin1_aae02 7 = .ok (.getfield 15, 3) := by decide +kernel
theorem dJ0_isLatin1_aae02_10 : decode cJ0_isLatin1_aae02 10 = .ok (.ifCond .ne 7, 3) := by decide +kernel
theorem dJ0_isLatin1_aae02_13 : decode cJ0_isLatin1_aae02 13 = .ok (.iconst 1, 1) := by decide +kernel
theorem dJ0_isLatin1_aae02_14 : decode cJ0_isLatin1_aae02 14 = .ok (.goto 4, 3) := by decide +kernel
theorem dJ0_isLatin1_aae02_17 : decode cJ0_isLatin1_aae02 17 = .ok (.iconst 0, 1) := by decide +kernel
theorem dJ0_isLatin1_aae02_18 : decode cJ0_isLatin1_aae02 18 = .ok (.ireturn, 1) := by decide +kernel
theorem dJ0_checkIndex_df160_0 : decode cJ0_checkIndex_df160 0 = .ok (.iload_n 0, 1) := by decide +kernel
theorem dJ0_checkIndex_df160_1 : decode cJ0_checkIndex_df160 1 = .ok (.iload_n 1, 1) := by decide +kernel
theorem dJ0_checkIndex_df160_2 : decode cJ0_checkIndex_df160 2 = .ok (.getstatic 1053, 3) := by decide +kernel
theorem dJ0_checkIndex_df160_5 : decode cJ0_checkIndex_df160 5 = .ok (.invokestatic 1059, 3) := by decide +kernel
theorem dJ0_checkIndex_df160_8 : decode cJ0_checkIndex_df160 8 = .ok (.pop, 1) := by decide +kernel
theorem dJ0_checkIndex_df160_9 : decode cJ0_checkIndex_df160 9 = .ok (.return_, 1) := by decide +kernel
theorem dJ1_charAt_3b067_0 : decode cJ1_charAt_3b067 0 = .ok (.iload_n 1, 1) := by decide +kernel
theorem dJ1_charAt_3b067_1 : decode cJ1_charAt_3b067 1 = .ok (.aload_n 0, 1) := by decide +kernel
theorem dJ1_charAt_3b067_2 : decode cJ1_charAt_3b067 2 = .ok (.arraylength, 1) := by decide +kernel
theorem dJ1_charAt_3b067_3 : decode cJ1_charAt_3b067 3 = .ok (.invokestatic 9, 3) := by decide +kernel
theorem dJ1_charAt_3b067_6 : decode cJ1_charAt_3b067 6 = .ok (.aload_n 0, 1) := by decide +kernel
theorem dJ1_charAt_3b067_7 : decode cJ1_charAt_3b067 7 = .ok (.iload_n 1, 1) := by decide +kernel
theorem dJ1_charAt_3b067_8 : decode cJ1_charAt_3b067 8 = .ok (.baload, 1) := by decide +kernel
theorem dJ1_charAt_3b067_9 : decode cJ1_charAt_3b067 9 = .ok (.sipush 255, 3) := by decide +kernel
theorem dJ1_charAt_3b067_12 : decode cJ1_charAt_3b067 12 = .ok (.iand, 1) := by decide +kernel
theorem dJ1_charAt_3b067_13 : decode cJ1_charAt_3b067 13 = .ok (.i2c, 1) := by decide +kernel
theorem dJ1_charAt_3b067_14 : decode cJ1_charAt_3b067 14 = .ok (.ireturn, 1) := by decide +kernel
theorem dJ2_getChar_3b067_0 : decode cJ2_getChar_3b067 0 = .ok (.getstatic 44, 3) := by decide +kernel
theorem dJ2_getChar_3b067_3 : decode cJ2_getChar_3b067 3 = .ok (.ifCond .ne 25, 3) := by decide +kernel
theorem dJ2_getChar_3b067_6 : decode cJ2_getChar_3b067 6 = .ok (.iload_n 1, 1) := by decide +kernel
theorem dJ2_getChar_3b067_7 : decode cJ2_getChar_3b067 7 = .ok (.ifCond .lt 11, 3) := by decide +kernel
theorem dJ2_getChar_3b067_10 : decode cJ2_getChar_3b067 10 = .ok (.iload_n 1, 1) := by decide +kernel
theorem dJ2_getChar_3b067_11 : decode cJ2_getChar_3b067 11 = .ok (.aload_n 0, 1) := by decide +kernel
theorem dJ2_getChar_3b067_12 : decode cJ2_getChar_3b067 12 = .ok (.invokestatic 48, 3) := by decide +kernel
theorem dJ2_getChar_3b067_15 : decode cJ2_getChar_3b067 15 = .ok (.if_icmp .lt 13, 3) := by decide +kernel
theorem dJ2_getChar_3b067_18 : decode cJ2_getChar_3b067 18 = .ok (.new 52, 3) := by decide +kernel
theorem dJ2_getChar_3b067_21 : decode cJ2_getChar_3b067 21 = .ok (.dup, 1) := by decide +kernel
theorem dJ2_getChar_3b067_22 : decode cJ2_getChar_3b067 22 = .ok (.ldc 54, 2) := by decide +kernel
theorem dJ2_getChar_3b067_24 : decode cJ2_getChar_3b067 24 = .ok (.invokespecial 56, 3) := by decide +kernel
theorem dJ2_getChar_3b067_27 : decode cJ2_getChar_3b067 27 = .ok (.athrow, 1) := by decide +kernel
theorem dJ2_getChar_3b067_28 : decode cJ2_getChar_3b067 28 = .ok (.iload_n 1, 1) := by decide +kernel
theorem dJ2_getChar_3b067_29 : decode cJ2_getChar_3b067 29 = .ok (.iconst 1, 1) := by decide +kernel
theorem dJ2_getChar_3b067_30 : decode cJ2_getChar_3b067 30 = .ok (.ishl, 1) := by decide +kernel
theorem dJ2_getChar_3b067_31 : decode cJ2_getChar_3b067 31 = .ok (.istore_n 1, 1) := by decide +kernel
theorem dJ2_getChar_3b067_32 : decode cJ2_getChar_3b067 32 = .ok (.aload_n 0, 1) := by decide +kernel
theorem dJ2_getChar_3b067_33 : decode cJ2_getChar_3b067 33 = .ok (.iload_n 1, 1) := by decide +kernel
theorem dJ2_getChar_3b067_34 : decode cJ2_getChar_3b067 34 = .ok (.iinc 1 1, 3) := by decide +kernel
theorem dJ2_getChar_3b067_37 : decode cJ2_getChar_3b067 37 = .ok (.baload, 1) := by decide +kernel
theorem dJ2_getChar_3b067_38 : decode cJ2_getChar_3b067 38 = .ok (.sipush 255, 3) := by decide +kernel
theorem dJ2_getChar_3b067_41 : decode cJ2_getChar_3b067 41 = .ok (.iand, 1) := by decide +kernel
theorem dJ2_getChar_3b067_42 : decode cJ2_getChar_3b067 42 = .ok (.getstatic 59, 3) := by decide +kernel
theorem dJ2_getChar_3b067_45 : decode cJ2_getChar_3b067 45 = .ok (.ishl, 1) := by decide +kernel
theorem dJ2_getChar_3b067_46 : decode cJ2_getChar_3b067 46 = .ok (.aload_n 0, 1) := by decide +kernel
theorem dJ2_getChar_3b067_47 : decode cJ2_getChar_3b067 47 = .ok (.iload_n 1, 1) := by decide +kernel
theorem dJ2_getChar_3b067_48 : decode cJ2_getChar_3b067 48 = .ok (.baload, 1) := by decide +kernel
theorem dJ2_getChar_3b067_49 : decode cJ2_getChar_3b067 49 = .ok (.sipush 255, 3) := by decide +kernel
theorem dJ2_getChar_3b067_52 : decode cJ2_getChar_3b067 52 = .ok (.iand, 1) := by decide +kernel
theorem dJ2_getChar_3b067_53 : decode cJ2_getChar_3b067 53 = .ok (.getstatic 63, 3) := by decide +kernel
theorem dJ2_getChar_3b067_56 : decode cJ2_getChar_3b067 56 = .ok (.ishl, 1) := by decide +kernel
theorem dJ2_getChar_3b067_57 : decode cJ2_getChar_3b067 57 = .ok (.ior, 1) := by decide +kernel
theorem dJ2_getChar_3b067_58 : decode cJ2_getChar_3b067 58 = .ok (.i2c, 1) := by decide +kernel
theorem dJ2_getChar_3b067_59 : decode cJ2_getChar_3b067 59 = .ok (.ireturn, 1) := by decide +kernel
theorem dJ2_length_9d52b_0 : decode cJ2_length_9d52b 0 = .ok (.aload_n 0, 1) := by decide +kernel
theorem dJ2_length_9d52b_1 : decode cJ2_length_9d52b 1 = .ok (.arraylength, 1) := by decide +kernel
theorem dJ2_length_9d52b_2 : decode cJ2_length_9d52b 2 = .ok (.iconst 1, 1) := by decide +kernel
theorem dJ2_length_9d52b_3 : decode cJ2_length_9d52b 3 = .ok (.ishr, 1) := by decide +kernel
theorem dJ2_length_9d52b_4 : decode cJ2_length_9d52b 4 = .ok (.ireturn, 1) := by decide +kernel
theorem dJ2_charAt_3b067_0 : decode cJ2_charAt_3b067 0 = .ok (.iload_n 1, 1) := by decide +kernel
theorem dJ2_charAt_3b067_1 : decode cJ2_charAt_3b067 1 = .ok (.aload_n 0, 1) := by decide +kernel
theorem dJ2_charAt_3b067_2 : decode cJ2_charAt_3b067 2 = .ok (.invokestatic 67, 3) := by decide +kernel
theorem dJ2_charAt_3b067_5 : decode cJ2_charAt_3b067 5 = .ok (.aload_n 0, 1) := by decide +kernel
theorem dJ2_charAt_3b067_6 : decode cJ2_charAt_3b067 6 = .ok (.iload_n 1, 1) := by decide +kernel
theorem dJ2_charAt_3b067_7 : decode cJ2_charAt_3b067 7 = .ok (.invokestatic 71, 3) := by decide +kernel
theorem dJ2_charAt_3b067_10 : decode cJ2_charAt_3b067 10 = .ok (.ireturn, 1) := by decide +kernel
theorem dJ2_checkIndex_2214a_0 : decode cJ2_checkIndex_2214a 0 = .ok (.iload_n 0, 1) := by decide +kernel
theorem dJ2_checkIndex_2214a_1 : decode cJ2_checkIndex_2214a 1 = .ok (.aload_n 1, 1) := by decide +kernel
theorem dJ2_checkIndex_2214a_2 : decode cJ2_checkIndex_2214a 2 = .ok (.invokestatic 48, 3) := by decide +kernel
theorem dJ2_checkIndex_2214a_5 : decode cJ2_checkIndex_2214a 5 = .ok (.invokestatic 414, 3) := by decide +kernel
theorem dJ2_checkIndex_2214a_8 : decode cJ2_checkIndex_2214a 8 = .ok (.return_, 1) := by decide +kernel
theorem dJ7_fill_53178_0 : decode cJ7_fill_53178 0 = .ok (.iconst 0, 1) := by decide +kernel
theorem dJ7_fill_53178_1 : decode cJ7_fill_53178 1 = .ok (.istore_n 2, 1) := by decide +kernel
theorem dJ7_fill_53178_2 : decode cJ7_fill_53178 2 = .ok (.aload_n 0, 1) := by decide +kernel
theorem dJ7_fill_53178_3 : decode cJ7_fill_53178 3 = .ok (.arraylength, 1) := by decide +kernel
theorem dJ7_fill_53178_4 : decode cJ7_fill_53178 4 = .ok (.istore_n 3, 1) := by decide +kernel
theorem dJ7_fill_53178_5 : decode cJ7_fill_53178 5 = .ok (.iload_n 2, 1) := by decide +kernel
theorem dJ7_fill_53178_6 : decode cJ7_fill_53178 6 = .ok (.iload_n 3, 1) := by decide +kernel
theorem dJ7_fill_53178_7 : decode cJ7_fill_53178 7 = .ok (.if_icmp .ge 13, 3) := by decide +kernel
theorem dJ7_fill_53178_10 : decode cJ7_fill_53178 10 = .ok (.aload_n 0, 1) := by decide +kernel
theorem dJ7_fill_53178_11 : decode cJ7_fill_53178 11 = .ok (.iload_n 2, 1) := by decide +kernel
theorem dJ7_fill_53178_12 : decode cJ7_fill_53178 12 = .ok (.iload_n 1, 1) := by decide +kernel
theorem dJ7_fill_53178_13 : decode cJ7_fill_53178 13 = .ok (.iastore, 1) := by decide +kernel
theorem dJ7_fill_53178_14 : decode cJ7_fill_53178 14 = .ok (.iinc 2 1, 3) := by decide +kernel
theorem dJ7_fill_53178_17 : decode cJ7_fill_53178 17 = .ok (.goto (-12), 3) := by decide +kernel
theorem dJ7_fill_53178_20 : decode cJ7_fill_53178 20 = .ok (.return_, 1) := by decide +kernel
theorem dJ3_checkIndex_8e157_0 : decode cJ3_checkIndex_8e157 0 = .ok (.iload_n 0, 1) := by decide +kernel
theorem dJ3_checkIndex_8e157_1 : decode cJ3_checkIndex_8e157 1 = .ok (.ifCond .lt 8, 3) := by decide +kernel
theorem dJ3_checkIndex_8e157_4 : decode cJ3_checkIndex_8e157 4 = .ok (.iload_n 0, 1) := by decide +kernel
theorem dJ3_checkIndex_8e157_5 : decode cJ3_checkIndex_8e157 5 = .ok (.iload_n 1, 1) := by decide +kernel
theorem dJ3_checkIndex_8e157_6 : decode cJ3_checkIndex_8e157 6 = .ok (.if_icmp .lt 10, 3) := by decide +kernel
theorem dJ3_checkIndex_8e157_9 : decode cJ3_checkIndex_8e157 9 = .ok (.aload_n 2, 1) := by decide +kernel
theorem dJ3_checkIndex_8e157_10 : decode cJ3_checkIndex_8e157 10 = .ok (.iload_n 0, 1) := by decide +kernel
theorem dJ3_checkIndex_8e157_11 : decode cJ3_checkIndex_8e157 11 = .ok (.iload_n 1, 1) := by decide +kernel
theorem dJ3_checkIndex_8e157_12 : decode cJ3_checkIndex_8e157 12 = .ok (.invokestatic 95, 3) := by decide +kernel
theorem dJ3_checkIndex_8e157_15 : decode cJ3_checkIndex_8e157 15 = .ok (.athrow, 1) := by decide +kernel
theorem dJ3_checkIndex_8e157_16 : decode cJ3_checkIndex_8e157 16 = .ok (.iload_n 0, 1) := by decide +kernel
theorem dJ3_checkIndex_8e157_17 : decode cJ3_checkIndex_8e157 17 = .ok (.ireturn, 1) := by decide +kernel
theorem dL_law_0 : decode cL_law 0 = .ok (.new 7, 3) := by decide +kernel
theorem dL_law_3 : decode cL_law 3 = .ok (.dup, 1) := by decide +kernel
theorem dL_law_4 : decode cL_law 4 = .ok (.invokespecial 9, 3) := by decide +kernel
theorem dL_law_7 : decode cL_law 7 = .ok (.astore_n 1, 1) := by decide +kernel
theorem dL_law_8 : decode cL_law 8 = .ok (.new 10, 3) := by decide +kernel
theorem dL_law_11 : decode cL_law 11 = .ok (.dup, 1) := by decide +kernel
theorem dL_law_12 : decode cL_law 12 = .ok (.invokespecial 12, 3) := by decide +kernel
theorem dL_law_15 : decode cL_law 15 = .ok (.astore_n 2, 1) := by decide +kernel
theorem dL_law_16 : decode cL_law 16 = .ok (.iconst 0, 1) := by decide +kernel
theorem dL_law_17 : decode cL_law 17 = .ok (.istore_n 3, 1) := by decide +kernel
theorem dL_law_18 : decode cL_law 18 = .ok (.iload_n 3, 1) := by decide +kernel
theorem dL_law_19 : decode cL_law 19 = .ok (.aload_n 0, 1) := by decide +kernel
theorem dL_law_20 : decode cL_law 20 = .ok (.arraylength, 1) := by decide +kernel
theorem dL_law_21 : decode cL_law 21 = .ok (.iconst 4, 1) := by decide +kernel
theorem dL_law_22 : decode cL_law 22 = .ok (.isub, 1) := by decide +kernel
theorem dL_law_23 : decode cL_law 23 = .ok (.if_icmp .gt 1177, 3) := by decide +kernel
theorem dL_law_26 : decode cL_law 26 = .ok (.aload_n 0, 1) := by decide +kernel
theorem dL_law_27 : decode cL_law 27 = .ok (.iload_n 3, 1) := by decide +kernel
theorem dL_law_28 : decode cL_law 28 = .ok (.iaload, 1) := by decide +kernel
theorem dL_law_29 : decode cL_law 29 = .ok (.bipush 63, 2) := by decide +kernel
theorem dL_law_31 : decode cL_law 31 = .ok (.iand, 1) := by decide +kernel
theorem dL_law_32 : decode cL_law 32 = .ok (.tableswitch 1162 0 33 #[152, 175, 188, 231, 264, 307, 340, 389, 422, 455, 478, 501, 544, 587, 620, 643, 666, 699, 722, 745, 788, 811, 844, 888, 912, 945, 968, 1001, 1014, 1057, 1080, 1113, 1126, 1139], 152) := by decide +kernel
theorem dL_law_184 : decode cL_law 184 = .ok (.aload_n 1, 1) := by decide +kernel
theorem dL_law_185 : decode cL_law 185 = .ok (.aload_n 0, 1) := by decide +kernel
theorem dL_law_186 : decode cL_law 186 = .ok (.iload_n 3, 1) := by decide +kernel
theorem dL_law_187 : decode cL_law 187 = .ok (.iconst 1, 1) := by decide +kernel
theorem dL_law_188 : decode cL_law 188 = .ok (.iadd, 1) := by decide +kernel
theorem dL_law_189 : decode cL_law 189 = .ok (.iaload, 1) := by decide +kernel
theorem dL_law_190 : decode cL_law 190 = .ok (.invokevirtual 13, 3) := by decide +kernel
theorem dL_law_193 : decode cL_law 193 = .ok (.aload_n 2, 1) := by decide +kernel
theorem dL_law_194 : decode cL_law 194 = .ok (.aload_n 0, 1) := by decide +kernel
theorem dL_law_195 : decode cL_law 195 = .ok (.iload_n 3, 1) := by decide +kernel
theorem dL_law_196 : decode cL_law 196 = .ok (.iconst 1, 1) := by decide +kernel
theorem dL_law_197 : decode cL_law 197 = .ok (.iadd, 1) := by decide +kernel
theorem dL_law_198 : decode cL_law 198 = .ok (.iaload, 1) := by decide +kernel
theorem dL_law_199 : decode cL_law 199 = .ok (.invokevirtual 17, 3) := by decide +kernel
theorem dL_law_202 : decode cL_law 202 = .ok (.if_icmp .eq 992, 3) := by decide +kernel
theorem dL_law_205 : decode cL_law 205 = .ok (.iconst 0, 1) := by decide +kernel
theorem dL_law_206 : decode cL_law 206 = .ok (.ireturn, 1) := by decide +kernel
theorem dL_law_207 : decode cL_law 207 = .ok (.aload_n 1, 1) := by decide +kernel
theorem dL_law_208 : decode cL_law 208 = .ok (.invokevirtual 18, 3) := by decide +kernel
theorem dL_law_211 : decode cL_law 211 = .ok (.aload_n 2, 1) := by decide +kernel
theorem dL_law_212 : decode cL_law 212 = .ok (.invokevirtual 22, 3) := by decide +kernel
theorem dL_law_215 : decode cL_law 215 = .ok (.if_icmp .eq 979, 3) := by decide +kernel
theorem dL_law_218 : decode cL_law 218 = .ok (.iconst 0, 1) := by decide +kernel
theorem dL_law_219 : decode cL_law 219 = .ok (.ireturn, 1) := by decide +kernel
theorem dL_law_220 : decode cL_law 220 = .ok (.aload_n 1, 1) := by decide +kernel
theorem dL_law_221 : decode cL_law 221 = .ok (.aload_n 0, 1) := by decide +kernel
theorem dL_law_222 : decode cL_law 222 = .ok (.iload_n 3, 1) := by decide +kernel
theorem dL_law_223 : decode cL_law 223 = .ok (.iconst 1, 1) := by decide +kernel
theorem dL_law_224 : decode cL_law 224 = .ok (.iadd, 1) := by decide +kernel
theorem dL_law_225 : decode cL_law 225 = .ok (.iaload, 1) := by decide +kernel
theorem dL_law_226 : decode cL_law 226 = .ok (.aload_n 0, 1) := by decide +kernel
theorem dL_law_227 : decode cL_law 227 = .ok (.iload_n 3, 1) := by decide +kernel
theorem dL_law_228 : decode cL_law 228 = .ok (.iconst 2, 1) := by decide +kernel
theorem dL_law_229 : decode cL_law 229 = .ok (.iadd, 1) := by decide +kernel
theorem dL_law_230 : decode cL_law 230 = .ok (.iaload, 1) := by decide +kernel
theorem dL_law_231 : decode cL_law 231 = .ok (.aload_n 0, 1) := by decide +kernel
theorem dL_law_232 : decode cL_law 232 = .ok (.iload_n 3, 1) := by decide +kernel
theorem dL_law_233 : decode cL_law 233 = .ok (.iconst 3, 1) := by decide +kernel
theorem dL_law_234 : decode cL_law 234 = .ok (.iadd, 1) := by decide +kernel
theorem dL_law_235 : decode cL_law 235 = .ok (.iaload, 1) := by decide +kernel
theorem dL_law_236 : decode cL_law 236 = .ok (.invokevirtual 23, 3) := by decide +kernel
theorem dL_law_239 : decode cL_law 239 = .ok (.aload_n 2, 1) := by decide +kernel
theorem dL_law_240 : decode cL_law 240 = .ok (.aload_n 0, 1) := by decide +kernel
theorem dL_law_241 : decode cL_law 241 = .ok (.iload_n 3, 1) := by decide +kernel
theorem dL_law_242 : decode cL_law 242 = .ok (.iconst 1, 1) := by decide +kernel
theorem dL_law_243 : decode cL_law 243 = .ok (.iadd, 1) := by decide +kernel
theorem dL_law_244 : decode cL_law 244 = .ok (.iaload, 1) := by decide +kernel
theorem dL_law_245 : decode cL_law 245 = .ok (.aload_n 0, 1) := by decide +kernel
theorem dL_law_246 : decode cL_law 246 = .ok (.iload_n 3, 1) := by decide +kernel
theorem dL_law_247 : decode cL_law 247 = .ok (.iconst 2, 1) := by decide +kernel
theorem dL_law_248 : decode cL_law 248 = .ok (.iadd, 1) := by decide +kernel
theorem dL_law_249 : decode cL_law 249 = .ok (.iaload, 1) := by decide +kernel
theorem dL_law_250 : decode cL_law 250 = .ok (.aload_n 0, 1) := by decide +kernel
theorem dL_law_251 : decode cL_law 251 = .ok (.iload_n 3, 1) := by decide +kernel
theorem dL_law_252 : decode cL_law 252 = .ok (.iconst 3, 1) := by decide +kernel
theorem dL_law_253 : decode cL_law 253 = .ok (.iadd, 1) := by decide +kernel
theorem dL_law_254 : decode cL_law 254 = .ok (.iaload, 1) := by decide +kernel
theorem dL_law_255 : decode cL_law 255 = .ok (.invokevirtual 27, 3) := by decide +kernel
theorem dL_law_258 : decode cL_law 258 = .ok (.if_icmp .eq 936, 3) := by decide +kernel
theorem dL_law_261 : decode cL_law 261 = .ok (.iconst 0, 1) := by decide +kernel
theorem dL_law_262 : decode cL_law 262 = .ok (.ireturn, 1) := by decide +kernel
theorem dL_law_263 : decode cL_law 263 = .ok (.aload_n 1, 1) := by decide +kernel
theorem dL_law_264 : decode cL_law 264 = .ok (.aload_n 0, 1) := by decide +kernel
theorem dL_law_265 : decode cL_law 265 = .ok (.iload_n 3, 1) := by decide +kernel
theorem dL_law_266 : decode cL_law 266 = .ok (.iconst 1, 1) := by decide +kernel
theorem dL_law_267 : decode cL_law 267 = .ok (.iadd, 1) := by decide +kernel
theorem dL_law_268 : decode cL_law 268 = .ok (.iaload, 1) := by decide +kernel
theorem dL_law_269 : decode cL_law 269 = .ok (.aload_n 0, 1) := by decide +kernel
theorem dL_law_270 : decode cL_law 270 = .ok (.iload_n 3, 1) := by decide +kernel
theorem dL_law_271 : decode cL_law 271 = .ok (.iconst 2, 1) := by decide +kernel
theorem dL_law_272 : decode cL_law 272 = .ok (.iadd, 1) := by decide +kernel
theorem dL_law_273 : decode cL_law 273 = .ok (.iaload, 1) := by decide +kernel
theorem dL_law_274 : decode cL_law 274 = .ok (.invokevirtual 28, 3) := by decide +kernel
theorem dL_law_277 : decode cL_law 277 = .ok (.aload_n 2, 1) := by decide +kernel
theorem dL_law_278 : decode cL_law 278 = .ok (.aload_n 0, 1) := by decide +kernel
theorem dL_law_279 : decode cL_law 279 = .ok (.iload_n 3, 1) := by decide +kernel
theorem dL_law_280 : decode cL_law 280 = .ok (.iconst 1, 1) := by decide +kernel
theorem dL_law_281 : decode cL_law 281 = .ok (.iadd, 1) := by decide +kernel
theorem dL_law_282 : decode cL_law 282 = .ok (.iaload, 1) := by decide +kernel
theorem dL_law_283 : decode cL_law 283 = .ok (.aload_n 0, 1) := by decide +kernel
theorem dL_law_284 : decode cL_law 284 = .ok (.iload_n 3, 1) := by decide +kernel
theorem dL_law_285 : decode cL_law 285 = .ok (.iconst 2, 1) := by decide +kernel
theorem dL_law_286 : decode cL_law 286 = .ok (.iadd, 1) := by decide +kernel
theorem dL_law_287 : decode cL_law 287 = .ok (.iaload, 1) := by decide +kernel
theorem dL_law_288 : decode cL_law 288 = .ok (.invokevirtual 32, 3) := by decide +kernel
theorem dL_law_291 : decode cL_law 291 = .ok (.if_icmp .eq 903, 3) := by decide +kernel
theorem dL_law_294 : decode cL_law 294 = .ok (.iconst 0, 1) := by decide +kernel
theorem dL_law_295 : decode cL_law 295 = .ok (.ireturn, 1) := by decide +kernel
theorem dL_law_296 : decode cL_law 296 = .ok (.aload_n 1, 1) := by decide +kernel
theorem dL_law_297 : decode cL_law 297 = .ok (.aload_n 0, 1) := by decide +kernel
theorem dL_law_298 : decode cL_law 298 = .ok (.iload_n 3, 1) := by decide +kernel
theorem dL_law_299 : decode cL_law 299 = .ok (.iconst 1, 1) := by decide +kernel
theorem dL_law_300 : decode cL_law 300 = .ok (.iadd, 1) := by decide +kernel
theorem dL_law_301 : decode cL_law 301 = .ok (.iaload, 1) := by decide +kernel
theorem dL_law_302 : decode cL_law 302 = .ok (.aload_n 0, 1) := by decide +kernel
theorem dL_law_303 : decode cL_law 303 = .ok (.iload_n 3, 1) := by decide +kernel
theorem dL_law_304 : decode cL_law 304 = .ok (.iconst 2, 1) := by decide +kernel
theorem dL_law_305 : decode cL_law 305 = .ok (.iadd, 1) := by decide +kernel
theorem dL_law_306 : decode cL_law 306 = .ok (.iaload, 1) := by decide +kernel
theorem dL_law_307 : decode cL_law 307 = .ok (.aload_n 0, 1) := by decide +kernel
theorem dL_law_308 : decode cL_law 308 = .ok (.iload_n 3, 1) := by decide +kernel
theorem dL_law_309 : decode cL_law 309 = .ok (.iconst 3, 1) := by decide +kernel
theorem dL_law_310 : decode cL_law 310 = .ok (.iadd, 1) := by decide +kernel
theorem dL_law_311 : decode cL_law 311 = .ok (.iaload, 1) := by decide +kernel
theorem dL_law_312 : decode cL_law 312 = .ok (.invokevirtual 33, 3) := by decide +kernel
theorem dL_law_315 : decode cL_law 315 = .ok (.aload_n 2, 1) := by decide +kernel
theorem dL_law_316 : decode cL_law 316 = .ok (.aload_n 0, 1) := by decide +kernel
theorem dL_law_317 : decode cL_law 317 = .ok (.iload_n 3, 1) := by decide +kernel
theorem dL_law_318 : decode cL_law 318 = .ok (.iconst 1, 1) := by decide +kernel
theorem dL_law_319 : decode cL_law 319 = .ok (.iadd, 1) := by decide +kernel
theorem dL_law_320 : decode cL_law 320 = .ok (.iaload, 1) := by decide +kernel
theorem dL_law_321 : decode cL_law 321 = .ok (.aload_n 0, 1) := by decide +kernel
theorem dL_law_322 : decode cL_law 322 = .ok (.iload_n 3, 1) := by decide +kernel
theorem dL_law_323 : decode cL_law 323 = .ok (.iconst 2, 1) := by decide +kernel
theorem dL_law_324 : decode cL_law 324 = .ok (.iadd, 1) := by decide +kernel
theorem dL_law_325 : decode cL_law 325 = .ok (.iaload, 1) := by decide +kernel
theorem dL_law_326 : decode cL_law 326 = .ok (.aload_n 0, 1) := by decide +kernel
theorem dL_law_327 : decode cL_law 327 = .ok (.iload_n 3, 1) := by decide +kernel
theorem dL_law_328 : decode cL_law 328 = .ok (.iconst 3, 1) := by decide +kernel
theorem dL_law_329 : decode cL_law 329 = .ok (.iadd, 1) := by decide +kernel
theorem dL_law_330 : decode cL_law 330 = .ok (.iaload, 1) := by decide +kernel
theorem dL_law_331 : decode cL_law 331 = .ok (.invokevirtual 36, 3) := by decide +kernel
theorem dL_law_334 : decode cL_law 334 = .ok (.if_icmp .eq 860, 3) := by decide +kernel
theorem dL_law_337 : decode cL_law 337 = .ok (.iconst 0, 1) := by decide +kernel
theorem dL_law_338 : decode cL_law 338 = .ok (.ireturn, 1) := by decide +kernel
theorem dL_law_339 : decode cL_law 339 = .ok (.aload_n 1, 1) := by decide +kernel
theorem dL_law_340 : decode cL_law 340 = .ok (.aload_n 0, 1) := by decide +kernel
theorem dL_law_341 : decode cL_law 341 = .ok (.iload_n 3, 1) := by decide +kernel
theorem dL_law_342 : decode cL_law 342 = .ok (.iconst 1, 1) := by decide +kernel
theorem dL_law_343 : decode cL_law 343 = .ok (.iadd, 1) := by decide +kernel
theorem dL_law_344 : decode cL_law 344 = .ok (.iaload, 1) := by decide +kernel
theorem dL_law_345 : decode cL_law 345 = .ok (.aload_n 0, 1) := by decide +kernel
theorem dL_law_346 : decode cL_law 346 = .ok (.iload_n 3, 1) := by decide +kernel
theorem dL_law_347 : decode cL_law 347 = .ok (.iconst 2, 1) := by decide +kernel
theorem dL_law_348 : decode cL_law 348 = .ok (.iadd, 1) := by decide +kernel
theorem dL_law_349 : decode cL_law 349 = .ok (.iaload, 1) := by decide +kernel
theorem dL_law_350 : decode cL_law 350 = .ok (.invokevirtual 37, 3) := by decide +kernel
theorem dL_law_353 : decode cL_law 353 = .ok (.aload_n 2, 1) := by decide +kernel
theorem dL_law_354 : decode cL_law 354 = .ok (.aload_n 0, 1) := by decide +kernel
theorem dL_law_355 : decode cL_law 355 = .ok (.iload_n 3, 1) := by decide +kernel
theorem dL_law_356 : decode cL_law 356 = .ok (.iconst 1, 1) := by decide +kernel
theorem dL_law_357 : decode cL_law 357 = .ok (.iadd, 1) := by decide +kernel
theorem dL_law_358 : decode cL_law 358 = .ok (.iaload, 1) := by decide +kernel
theorem dL_law_359 : decode cL_law 359 = .ok (.aload_n 0, 1) := by decide +kernel
theorem dL_law_360 : decode cL_law 360 = .ok (.iload_n 3, 1) := by decide +kernel
theorem dL_law_361 : decode cL_law 361 = .ok (.iconst 2, 1) := by decide +kernel
theorem dL_law_362 : decode cL_law 362 = .ok (.iadd, 1) := by decide +kernel
theorem dL_law_363 : decode cL_law 363 = .ok (.iaload, 1) := by decide +kernel
theorem dL_law_364 : decode cL_law 364 = .ok (.invokevirtual 40, 3) := by decide +kernel
theorem dL_law_367 : decode cL_law 367 = .ok (.if_icmp .eq 827, 3) := by decide +kernel
theorem dL_law_370 : decode cL_law 370 = .ok (.iconst 0, 1) := by decide +kernel
theorem dL_law_371 : decode cL_law 371 = .ok (.ireturn, 1) := by decide +kernel
theorem dL_law_372 : decode cL_law 372 = .ok (.aload_n 1, 1) := by decide +kernel
theorem dL_law_373 : decode cL_law 373 = .ok (.aload_n 0, 1) := by decide +kernel
theorem dL_law_374 : decode cL_law 374 = .ok (.iload_n 3, 1) := by decide +kernel
theorem dL_law_375 : decode cL_law 375 = .ok (.iconst 1, 1) := by decide +kernel
theorem dL_law_376 : decode cL_law 376 = .ok (.iadd, 1) := by decide +kernel
theorem dL_law_377 : decode cL_law 377 = .ok (.iaload, 1) := by decide +kernel
theorem dL_law_378 : decode cL_law 378 = .ok (.aload_n 0, 1) := by decide +kernel
theorem dL_law_379 : decode cL_law 379 = .ok (.iload_n 3, 1) := by decide +kernel
theorem dL_law_380 : decode cL_law 380 = .ok (.iconst 2, 1) := by decide +kernel
theorem dL_law_381 : decode cL_law 381 = .ok (.iadd, 1) := by decide +kernel
theorem dL_law_382 : decode cL_law 382 = .ok (.iaload, 1) := by decide +kernel
theorem dL_law_383 : decode cL_law 383 = .ok (.ifCond .eq 7, 3) := by decide +kernel
theorem dL_law_386 : decode cL_law 386 = .ok (.iconst 1, 1) := by decide +kernel
theorem dL_law_387 : decode cL_law 387 = .ok (.goto 4, 3) := by decide +kernel
theorem dL_law_390 : decode cL_law 390 = .ok (.iconst 0, 1) := by decide +kernel
theorem dL_law_391 : decode cL_law 391 = .ok (.invokevirtual 41, 3) := by decide +kernel
theorem dL_law_394 : decode cL_law 394 = .ok (.aload_n 2, 1) := by decide +kernel
theorem dL_law_395 : decode cL_law 395 = .ok (.aload_n 0, 1) := by decide +kernel
theorem dL_law_396 : decode cL_law 396 = .ok (.iload_n 3, 1) := by decide +kernel
theorem dL_law_397 : decode cL_law 397 = .ok (.iconst 1, 1) := by decide +kernel
theorem dL_law_398 : decode cL_law 398 = .ok (.iadd, 1) := by decide +kernel
theorem dL_law_399 : decode cL_law 399 = .ok (.iaload, 1) := by decide +kernel
theorem dL_law_400 : decode cL_law 400 = .ok (.aload_n 0, 1) := by decide +kernel
theorem dL_law_401 : decode cL_law 401 = .ok (.iload_n 3, 1) := by decide +kernel
theorem dL_law_402 : decode cL_law 402 = .ok (.iconst 2, 1) := by decide +kernel
theorem dL_law_403 : decode cL_law 403 = .ok (.iadd, 1) := by decide +kernel
theorem dL_law_404 : decode cL_law 404 = .ok (.iaload, 1) := by decide +kernel
theorem dL_law_405 : decode cL_law 405 = .ok (.ifCond .eq 7, 3) := by decide +kernel
theorem dL_law_408 : decode cL_law 408 = .ok (.iconst 1, 1) := by decide +kernel
theorem dL_law_409 : decode cL_law 409 = .ok (.goto 4, 3) := by decide +kernel
theorem dL_law_412 : decode cL_law 412 = .ok (.iconst 0, 1) := by decide +kernel
theorem dL_law_413 : decode cL_law 413 = .ok (.invokevirtual 45, 3) := by decide +kernel
theorem dL_law_416 : decode cL_law 416 = .ok (.if_icmp .eq 778, 3) := by decide +kernel
theorem dL_law_419 : decode cL_law 419 = .ok (.iconst 0, 1) := by decide +kernel
theorem dL_law_420 : decode cL_law 420 = .ok (.ireturn, 1) := by decide +kernel
theorem dL_law_421 : decode cL_law 421 = .ok (.aload_n 1, 1) := by decide +kernel
theorem dL_law_422 : decode cL_law 422 = .ok (.aload_n 0, 1) := by decide +kernel
theorem dL_law_423 : decode cL_law 423 = .ok (.iload_n 3, 1) := by decide +kernel
theorem dL_law_424 : decode cL_law 424 = .ok (.iconst 1, 1) := by decide +kernel
theorem dL_law_425 : decode cL_law 425 = .ok (.iadd, 1) := by decide +kernel
theorem dL_law_426 : decode cL_law 426 = .ok (.iaload, 1) := by decide +kernel
theorem dL_law_427 : decode cL_law 427 = .ok (.aload_n 0, 1) := by decide +kernel
theorem dL_law_428 : decode cL_law 428 = .ok (.iload_n 3, 1) := by decide +kernel
theorem dL_law_429 : decode cL_law 429 = .ok (.iconst 2, 1) := by decide +kernel
theorem dL_law_430 : decode cL_law 430 = .ok (.iadd, 1) := by decide +kernel
theorem dL_law_431 : decode cL_law 431 = .ok (.iaload, 1) := by decide +kernel
theorem dL_law_432 : decode cL_law 432 = .ok (.invokevirtual 46, 3) := by decide +kernel
theorem dL_law_435 : decode cL_law 435 = .ok (.aload_n 2, 1) := by decide +kernel
theorem dL_law_436 : decode cL_law 436 = .ok (.aload_n 0, 1) := by decide +kernel
theorem dL_law_437 : decode cL_law 437 = .ok (.iload_n 3, 1) := by decide +kernel
theorem dL_law_438 : decode cL_law 438 = .ok (.iconst 1, 1) := by decide +kernel
theorem dL_law_439 : decode cL_law 439 = .ok (.iadd, 1) := by decide +kernel
theorem dL_law_440 : decode cL_law 440 = .ok (.iaload, 1) := by decide +kernel
theorem dL_law_441 : decode cL_law 441 = .ok (.aload_n 0, 1) := by decide +kernel
theorem dL_law_442 : decode cL_law 442 = .ok (.iload_n 3, 1) := by decide +kernel
theorem dL_law_443 : decode cL_law 443 = .ok (.iconst 2, 1) := by decide +kernel
theorem dL_law_444 : decode cL_law 444 = .ok (.iadd, 1) := by decide +kernel
theorem dL_law_445 : decode cL_law 445 = .ok (.iaload, 1) := by decide +kernel
theorem dL_law_446 : decode cL_law 446 = .ok (.invokevirtual 49, 3) := by decide +kernel
theorem dL_law_449 : decode cL_law 449 = .ok (.if_icmp .eq 745, 3) := by decide +kernel
theorem dL_law_452 : decode cL_law 452 = .ok (.iconst 0, 1) := by decide +kernel
theorem dL_law_453 : decode cL_law 453 = .ok (.ireturn, 1) := by decide +kernel
theorem dL_law_454 : decode cL_law 454 = .ok (.aload_n 1, 1) := by decide +kernel
theorem dL_law_455 : decode cL_law 455 = .ok (.aload_n 0, 1) := by decide +kernel
theorem dL_law_456 : decode cL_law 456 = .ok (.iload_n 3, 1) := by decide +kernel
theorem dL_law_457 : decode cL_law 457 = .ok (.iconst 1, 1) := by decide +kernel
theorem dL_law_458 : decode cL_law 458 = .ok (.iadd, 1) := by decide +kernel
theorem dL_law_459 : decode cL_law 459 = .ok (.iaload, 1) := by decide +kernel
theorem dL_law_460 : decode cL_law 460 = .ok (.aload_n 0, 1) := by decide +kernel
theorem dL_law_461 : decode cL_law 461 = .ok (.iload_n 3, 1) := by decide +kernel
theorem dL_law_462 : decode cL_law 462 = .ok (.iconst 2, 1) := by decide +kernel
theorem dL_law_463 : decode cL_law 463 = .ok (.iadd, 1) := by decide +kernel
theorem dL_law_464 : decode cL_law 464 = .ok (.iaload, 1) := by decide +kernel
theorem dL_law_465 : decode cL_law 465 = .ok (.invokevirtual 50, 3) := by decide +kernel
theorem dL_law_468 : decode cL_law 468 = .ok (.aload_n 2, 1) := by decide +kernel
theorem dL_law_469 : decode cL_law 469 = .ok (.aload_n 0, 1) := by decide +kernel
theorem dL_law_470 : decode cL_law 470 = .ok (.iload_n 3, 1) := by decide +kernel
theorem dL_law_471 : decode cL_law 471 = .ok (.iconst 1, 1) := by decide +kernel
theorem dL_law_472 : decode cL_law 472 = .ok (.iadd, 1) := by decide +kernel
theorem dL_law_473 : decode cL_law 473 = .ok (.iaload, 1) := by decide +kernel
theorem dL_law_474 : decode cL_law 474 = .ok (.aload_n 0, 1) := by decide +kernel
theorem dL_law_475 : decode cL_law 475 = .ok (.iload_n 3, 1) := by decide +kernel
theorem dL_law_476 : decode cL_law 476 = .ok (.iconst 2, 1) := by decide +kernel
theorem dL_law_477 : decode cL_law 477 = .ok (.iadd, 1) := by decide +kernel
theorem dL_law_478 : decode cL_law 478 = .ok (.iaload, 1) := by decide +kernel
theorem dL_law_479 : decode cL_law 479 = .ok (.invokevirtual 53, 3) := by decide +kernel
theorem dL_law_482 : decode cL_law 482 = .ok (.if_icmp .eq 712, 3) := by decide +kernel
theorem dL_law_485 : decode cL_law 485 = .ok (.iconst 0, 1) := by decide +kernel
theorem dL_law_486 : decode cL_law 486 = .ok (.ireturn, 1) := by decide +kernel
theorem dL_law_487 : decode cL_law 487 = .ok (.aload_n 1, 1) := by decide +kernel
theorem dL_law_488 : decode cL_law 488 = .ok (.aload_n 0, 1) := by decide +kernel
theorem dL_law_489 : decode cL_law 489 = .ok (.iload_n 3, 1) := by decide +kernel
theorem dL_law_490 : decode cL_law 490 = .ok (.iconst 1, 1) := by decide +kernel
theorem dL_law_491 : decode cL_law 491 = .ok (.iadd, 1) := by decide +kernel
theorem dL_law_492 : decode cL_law 492 = .ok (.iaload, 1) := by decide +kernel
theorem dL_law_493 : decode cL_law 493 = .ok (.invokevirtual 54, 3) := by decide +kernel
theorem dL_law_496 : decode cL_law 496 = .ok (.aload_n 2, 1) := by decide +kernel
theorem dL_law_497 : decode cL_law 497 = .ok (.aload_n 0, 1) := by decide +kernel
theorem dL_law_498 : decode cL_law 498 = .ok (.iload_n 3, 1) := by decide +kernel
theorem dL_law_499 : decode cL_law 499 = .ok (.iconst 1, 1) := by decide +kernel
theorem dL_law_500 : decode cL_law 500 = .ok (.iadd, 1) := by decide +kernel
theorem dL_law_501 : decode cL_law 501 = .ok (.iaload, 1) := by decide +kernel
theorem dL_law_502 : decode cL_law 502 = .ok (.invokevirtual 57, 3) := by decide +kernel
theorem dL_law_505 : decode cL_law 505 = .ok (.if_icmp .eq 689, 3) := by decide +kernel
theorem dL_law_508 : decode cL_law 508 = .ok (.iconst 0, 1) := by decide +kernel
theorem dL_law_509 : decode cL_law 509 = .ok (.ireturn, 1) := by decide +kernel
theorem dL_law_510 : decode cL_law 510 = .ok (.aload_n 1, 1) := by decide +kernel
theorem dL_law_511 : decode cL_law 511 = .ok (.aload_n 0, 1) := by decide +kernel
theorem dL_law_512 : decode cL_law 512 = .ok (.iload_n 3, 1) := by decide +kernel
theorem dL_law_513 : decode cL_law 513 = .ok (.iconst 1, 1) := by decide +kernel
theorem dL_law_514 : decode cL_law 514 = .ok (.iadd, 1) := by decide +kernel
theorem dL_law_515 : decode cL_law 515 = .ok (.iaload, 1) := by decide +kernel
theorem dL_law_516 : decode cL_law 516 = .ok (.invokevirtual 58, 3) := by decide +kernel
theorem dL_law_519 : decode cL_law 519 = .ok (.aload_n 2, 1) := by decide +kernel
theorem dL_law_520 : decode cL_law 520 = .ok (.aload_n 0, 1) := by decide +kernel
theorem dL_law_521 : decode cL_law 521 = .ok (.iload_n 3, 1) := by decide +kernel
theorem dL_law_522 : decode cL_law 522 = .ok (.iconst 1, 1) := by decide +kernel
theorem dL_law_523 : decode cL_law 523 = .ok (.iadd, 1) := by decide +kernel
theorem dL_law_524 : decode cL_law 524 = .ok (.iaload, 1) := by decide +kernel
theorem dL_law_525 : decode cL_law 525 = .ok (.invokevirtual 61, 3) := by decide +kernel
theorem dL_law_528 : decode cL_law 528 = .ok (.if_icmp .eq 666, 3) := by decide +kernel
theorem dL_law_531 : decode cL_law 531 = .ok (.iconst 0, 1) := by decide +kernel
theorem dL_law_532 : decode cL_law 532 = .ok (.ireturn, 1) := by decide +kernel
theorem dL_law_533 : decode cL_law 533 = .ok (.aload_n 1, 1) := by decide +kernel
theorem dL_law_534 : decode cL_law 534 = .ok (.aload_n 0, 1) := by decide +kernel
theorem dL_law_535 : decode cL_law 535 = .ok (.iload_n 3, 1) := by decide +kernel
theorem dL_law_536 : decode cL_law 536 = .ok (.iconst 1, 1) := by decide +kernel
theorem dL_law_537 : decode cL_law 537 = .ok (.iadd, 1) := by decide +kernel
theorem dL_law_538 : decode cL_law 538 = .ok (.iaload, 1) := by decide +kernel
theorem dL_law_539 : decode cL_law 539 = .ok (.aload_n 0, 1) := by decide +kernel
theorem dL_law_540 : decode cL_law 540 = .ok (.iload_n 3, 1) := by decide +kernel
theorem dL_law_541 : decode cL_law 541 = .ok (.iconst 2, 1) := by decide +kernel
theorem dL_law_542 : decode cL_law 542 = .ok (.iadd, 1) := by decide +kernel
theorem dL_law_543 : decode cL_law 543 = .ok (.iaload, 1) := by decide +kernel
theorem dL_law_544 : decode cL_law 544 = .ok (.aload_n 0, 1) := by decide +kernel
theorem dL_law_545 : decode cL_law 545 = .ok (.iload_n 3, 1) := by decide +kernel
theorem dL_law_546 : decode cL_law 546 = .ok (.iconst 3, 1) := by decide +kernel
theorem dL_law_547 : decode cL_law 547 = .ok (.iadd, 1) := by decide +kernel
theorem dL_law_548 : decode cL_law 548 = .ok (.iaload, 1) := by decide +kernel
theorem dL_law_549 : decode cL_law 549 = .ok (.invokevirtual 62, 3) := by decide +kernel
theorem dL_law_552 : decode cL_law 552 = .ok (.aload_n 2, 1) := by decide +kernel
theorem dL_law_553 : decode cL_law 553 = .ok (.aload_n 0, 1) := by decide +kernel
theorem dL_law_554 : decode cL_law 554 = .ok (.iload_n 3, 1) := by decide +kernel
theorem dL_law_555 : decode cL_law 555 = .ok (.iconst 1, 1) := by decide +kernel
theorem dL_law_556 : decode cL_law 556 = .ok (.iadd, 1) := by decide +kernel
theorem dL_law_557 : decode cL_law 557 = .ok (.iaload, 1) := by decide +kernel
theorem dL_law_558 : decode cL_law 558 = .ok (.aload_n 0, 1) := by decide +kernel
theorem dL_law_559 : decode cL_law 559 = .ok (.iload_n 3, 1) := by decide +kernel
theorem dL_law_560 : decode cL_law 560 = .ok (.iconst 2, 1) := by decide +kernel
theorem dL_law_561 : decode cL_law 561 = .ok (.iadd, 1) := by decide +kernel
theorem dL_law_562 : decode cL_law 562 = .ok (.iaload, 1) := by decide +kernel
theorem dL_law_563 : decode cL_law 563 = .ok (.aload_n 0, 1) := by decide +kernel
theorem dL_law_564 : decode cL_law 564 = .ok (.iload_n 3, 1) := by decide +kernel
theorem dL_law_565 : decode cL_law 565 = .ok (.iconst 3, 1) := by decide +kernel
theorem dL_law_566 : decode cL_law 566 = .ok (.iadd, 1) := by decide +kernel
theorem dL_law_567 : decode cL_law 567 = .ok (.iaload, 1) := by decide +kernel
theorem dL_law_568 : decode cL_law 568 = .ok (.invokevirtual 65, 3) := by decide +kernel
theorem dL_law_571 : decode cL_law 571 = .ok (.if_icmp .eq 623, 3) := by decide +kernel
theorem dL_law_574 : decode cL_law 574 = .ok (.iconst 0, 1) := by decide +kernel
theorem dL_law_575 : decode cL_law 575 = .ok (.ireturn, 1) := by decide +kernel
theorem dL_law_576 : decode cL_law 576 = .ok (.aload_n 1, 1) := by decide +kernel
theorem dL_law_577 : decode cL_law 577 = .ok (.aload_n 0, 1) := by decide +kernel
theorem dL_law_578 : decode cL_law 578 = .ok (.iload_n 3, 1) := by decide +kernel
theorem dL_law_579 : decode cL_law 579 = .ok (.iconst 1, 1) := by decide +kernel
theorem dL_law_580 : decode cL_law 580 = .ok (.iadd, 1) := by decide +kernel
theorem dL_law_581 : decode cL_law 581 = .ok (.iaload, 1) := by decide +kernel
theorem dL_law_582 : decode cL_law 582 = .ok (.aload_n 0, 1) := by decide +kernel
theorem dL_law_583 : decode cL_law 583 = .ok (.iload_n 3, 1) := by decide +kernel
theorem dL_law_584 : decode cL_law 584 = .ok (.iconst 2, 1) := by decide +kernel
theorem dL_law_585 : decode cL_law 585 = .ok (.iadd, 1) := by decide +kernel
theorem dL_law_586 : decode cL_law 586 = .ok (.iaload, 1) := by decide +kernel
theorem dL_law_587 : decode cL_law 587 = .ok (.aload_n 0, 1) := by decide +kernel
theorem dL_law_588 : decode cL_law 588 = .ok (.iload_n 3, 1) := by decide +kernel
theorem dL_law_589 : decode cL_law 589 = .ok (.iconst 3, 1) := by decide +kernel
theorem dL_law_590 : decode cL_law 590 = .ok (.iadd, 1) := by decide +kernel
theorem dL_law_591 : decode cL_law 591 = .ok (.iaload, 1) := by decide +kernel
theorem dL_law_592 : decode cL_law 592 = .ok (.invokevirtual 66, 3) := by decide +kernel
theorem dL_law_595 : decode cL_law 595 = .ok (.aload_n 2, 1) := by decide +kernel
theorem dL_law_596 : decode cL_law 596 = .ok (.aload_n 0, 1) := by decide +kernel
theorem dL_law_597 : decode cL_law 597 = .ok (.iload_n 3, 1) := by decide +kernel
theorem dL_law_598 : decode cL_law 598 = .ok (.iconst 1, 1) := by decide +kernel
theorem dL_law_599 : decode cL_law 599 = .ok (.iadd, 1) := by decide +kernel
theorem dL_law_600 : decode cL_law 600 = .ok (.iaload, 1) := by decide +kernel
theorem dL_law_601 : decode cL_law 601 = .ok (.aload_n 0, 1) := by decide +kernel
theorem dL_law_602 : decode cL_law 602 = .ok (.iload_n 3, 1) := by decide +kernel
theorem dL_law_603 : decode cL_law 603 = .ok (.iconst 2, 1) := by decide +kernel
theorem dL_law_604 : decode cL_law 604 = .ok (.iadd, 1) := by decide +kernel
theorem dL_law_605 : decode cL_law 605 = .ok (.iaload, 1) := by decide +kernel
theorem dL_law_606 : decode cL_law 606 = .ok (.aload_n 0, 1) := by decide +kernel
theorem dL_law_607 : decode cL_law 607 = .ok (.iload_n 3, 1) := by decide +kernel
theorem dL_law_608 : decode cL_law 608 = .ok (.iconst 3, 1) := by decide +kernel
theorem dL_law_609 : decode cL_law 609 = .ok (.iadd, 1) := by decide +kernel
theorem dL_law_610 : decode cL_law 610 = .ok (.iaload, 1) := by decide +kernel
theorem dL_law_611 : decode cL_law 611 = .ok (.invokevirtual 69, 3) := by decide +kernel
theorem dL_law_614 : decode cL_law 614 = .ok (.if_icmp .eq 580, 3) := by decide +kernel
theorem dL_law_617 : decode cL_law 617 = .ok (.iconst 0, 1) := by decide +kernel
theorem dL_law_618 : decode cL_law 618 = .ok (.ireturn, 1) := by decide +kernel
theorem dL_law_619 : decode cL_law 619 = .ok (.aload_n 1, 1) := by decide +kernel
theorem dL_law_620 : decode cL_law 620 = .ok (.aload_n 0, 1) := by decide +kernel
theorem dL_law_621 : decode cL_law 621 = .ok (.iload_n 3, 1) := by decide +kernel
theorem dL_law_622 : decode cL_law 622 = .ok (.iconst 1, 1) := by decide +kernel
theorem dL_law_623 : decode cL_law 623 = .ok (.iadd, 1) := by decide +kernel
theorem dL_law_624 : decode cL_law 624 = .ok (.iaload, 1) := by decide +kernel
theorem dL_law_625 : decode cL_law 625 = .ok (.aload_n 0, 1) := by decide +kernel
theorem dL_law_626 : decode cL_law 626 = .ok (.iload_n 3, 1) := by decide +kernel
theorem dL_law_627 : decode cL_law 627 = .ok (.iconst 2, 1) := by decide +kernel
theorem dL_law_628 : decode cL_law 628 = .ok (.iadd, 1) := by decide +kernel
theorem dL_law_629 : decode cL_law 629 = .ok (.iaload, 1) := by decide +kernel
theorem dL_law_630 : decode cL_law 630 = .ok (.invokevirtual 70, 3) := by decide +kernel
theorem dL_law_633 : decode cL_law 633 = .ok (.aload_n 2, 1) := by decide +kernel
theorem dL_law_634 : decode cL_law 634 = .ok (.aload_n 0, 1) := by decide +kernel
theorem dL_law_635 : decode cL_law 635 = .ok (.iload_n 3, 1) := by decide +kernel
theorem dL_law_636 : decode cL_law 636 = .ok (.iconst 1, 1) := by decide +kernel
theorem dL_law_637 : decode cL_law 637 = .ok (.iadd, 1) := by decide +kernel
theorem dL_law_638 : decode cL_law 638 = .ok (.iaload, 1) := by decide +kernel
theorem dL_law_639 : decode cL_law 639 = .ok (.aload_n 0, 1) := by decide +kernel
theorem dL_law_640 : decode cL_law 640 = .ok (.iload_n 3, 1) := by decide +kernel
theorem dL_law_641 : decode cL_law 641 = .ok (.iconst 2, 1) := by decide +kernel
theorem dL_law_642 : decode cL_law 642 = .ok (.iadd, 1) := by decide +kernel
theorem dL_law_643 : decode cL_law 643 = .ok (.iaload, 1) := by decide +kernel
theorem dL_law_644 : decode cL_law 644 = .ok (.invokevirtual 73, 3) := by decide +kernel
theorem dL_law_647 : decode cL_law 647 = .ok (.if_icmp .eq 547, 3) := by decide +kernel
theorem dL_law_650 : decode cL_law 650 = .ok (.iconst 0, 1) := by decide +kernel
theorem dL_law_651 : decode cL_law 651 = .ok (.ireturn, 1) := by decide +kernel
theorem dL_law_652 : decode cL_law 652 = .ok (.aload_n 1, 1) := by decide +kernel
theorem dL_law_653 : decode cL_law 653 = .ok (.aload_n 0, 1) := by decide +kernel
theorem dL_law_654 : decode cL_law 654 = .ok (.iload_n 3, 1) := by decide +kernel
theorem dL_law_655 : decode cL_law 655 = .ok (.iconst 1, 1) := by decide +kernel
theorem dL_law_656 : decode cL_law 656 = .ok (.iadd, 1) := by decide +kernel
theorem dL_law_657 : decode cL_law 657 = .ok (.iaload, 1) := by decide +kernel
theorem dL_law_658 : decode cL_law 658 = .ok (.invokevirtual 74, 3) := by decide +kernel
theorem dL_law_661 : decode cL_law 661 = .ok (.aload_n 2, 1) := by decide +kernel
theorem dL_law_662 : decode cL_law 662 = .ok (.aload_n 0, 1) := by decide +kernel
theorem dL_law_663 : decode cL_law 663 = .ok (.iload_n 3, 1) := by decide +kernel
theorem dL_law_664 : decode cL_law 664 = .ok (.iconst 1, 1) := by decide +kernel
theorem dL_law_665 : decode cL_law 665 = .ok (.iadd, 1) := by decide +kernel
theorem dL_law_666 : decode cL_law 666 = .ok (.iaload, 1) := by decide +kernel
theorem dL_law_667 : decode cL_law 667 = .ok (.invokevirtual 77, 3) := by decide +kernel
theorem dL_law_670 : decode cL_law 670 = .ok (.if_icmp .eq 524, 3) := by decide +kernel
theorem dL_law_673 : decode cL_law 673 = .ok (.iconst 0, 1) := by decide +kernel
theorem dL_law_674 : decode cL_law 674 = .ok (.ireturn, 1) := by decide +kernel
theorem dL_law_675 : decode cL_law 675 = .ok (.aload_n 1, 1) := by decide +kernel
theorem dL_law_676 : decode cL_law 676 = .ok (.aload_n 0, 1) := by decide +kernel
theorem dL_law_677 : decode cL_law 677 = .ok (.iload_n 3, 1) := by decide +kernel
theorem dL_law_678 : decode cL_law 678 = .ok (.iconst 1, 1) := by decide +kernel
theorem dL_law_679 : decode cL_law 679 = .ok (.iadd, 1) := by decide +kernel
theorem dL_law_680 : decode cL_law 680 = .ok (.iaload, 1) := by decide +kernel
theorem dL_law_681 : decode cL_law 681 = .ok (.invokevirtual 78, 3) := by decide +kernel
theorem dL_law_684 : decode cL_law 684 = .ok (.aload_n 2, 1) := by decide +kernel
theorem dL_law_685 : decode cL_law 685 = .ok (.aload_n 0, 1) := by decide +kernel
theorem dL_law_686 : decode cL_law 686 = .ok (.iload_n 3, 1) := by decide +kernel
theorem dL_law_687 : decode cL_law 687 = .ok (.iconst 1, 1) := by decide +kernel
theorem dL_law_688 : decode cL_law 688 = .ok (.iadd, 1) := by decide +kernel
theorem dL_law_689 : decode cL_law 689 = .ok (.iaload, 1) := by decide +kernel
theorem dL_law_690 : decode cL_law 690 = .ok (.invokevirtual 81, 3) := by decide +kernel
theorem dL_law_693 : decode cL_law 693 = .ok (.if_icmp .eq 501, 3) := by decide +kernel
theorem dL_law_696 : decode cL_law 696 = .ok (.iconst 0, 1) := by decide +kernel
theorem dL_law_697 : decode cL_law 697 = .ok (.ireturn, 1) := by decide +kernel
theorem dL_law_698 : decode cL_law 698 = .ok (.aload_n 1, 1) := by decide +kernel
theorem dL_law_699 : decode cL_law 699 = .ok (.aload_n 0, 1) := by decide +kernel
theorem dL_law_700 : decode cL_law 700 = .ok (.iload_n 3, 1) := by decide +kernel
theorem dL_law_701 : decode cL_law 701 = .ok (.iconst 1, 1) := by decide +kernel
theorem dL_law_702 : decode cL_law 702 = .ok (.iadd, 1) := by decide +kernel
theorem dL_law_703 : decode cL_law 703 = .ok (.iaload, 1) := by decide +kernel
theorem dL_law_704 : decode cL_law 704 = .ok (.aload_n 0, 1) := by decide +kernel
theorem dL_law_705 : decode cL_law 705 = .ok (.iload_n 3, 1) := by decide +kernel
theorem dL_law_706 : decode cL_law 706 = .ok (.iconst 2, 1) := by decide +kernel
theorem dL_law_707 : decode cL_law 707 = .ok (.iadd, 1) := by decide +kernel
theorem dL_law_708 : decode cL_law 708 = .ok (.iaload, 1) := by decide +kernel
theorem dL_law_709 : decode cL_law 709 = .ok (.invokevirtual 82, 3) := by decide +kernel
theorem dL_law_712 : decode cL_law 712 = .ok (.aload_n 2, 1) := by decide +kernel
theorem dL_law_713 : decode cL_law 713 = .ok (.aload_n 0, 1) := by decide +kernel
theorem dL_law_714 : decode cL_law 714 = .ok (.iload_n 3, 1) := by decide +kernel
theorem dL_law_715 : decode cL_law 715 = .ok (.iconst 1, 1) := by decide +kernel
theorem dL_law_716 : decode cL_law 716 = .ok (.iadd, 1) := by decide +kernel
theorem dL_law_717 : decode cL_law 717 = .ok (.iaload, 1) := by decide +kernel
theorem dL_law_718 : decode cL_law 718 = .ok (.aload_n 0, 1) := by decide +kernel
theorem dL_law_719 : decode cL_law 719 = .ok (.iload_n 3, 1) := by decide +kernel
theorem dL_law_720 : decode cL_law 720 = .ok (.iconst 2, 1) := by decide +kernel
theorem dL_law_721 : decode cL_law 721 = .ok (.iadd, 1) := by decide +kernel
theorem dL_law_722 : decode cL_law 722 = .ok (.iaload, 1) := by decide +kernel
theorem dL_law_723 : decode cL_law 723 = .ok (.invokevirtual 85, 3) := by decide +kernel
theorem dL_law_726 : decode cL_law 726 = .ok (.if_icmp .eq 468, 3) := by decide +kernel
theorem dL_law_729 : decode cL_law 729 = .ok (.iconst 0, 1) := by decide +kernel
theorem dL_law_730 : decode cL_law 730 = .ok (.ireturn, 1) := by decide +kernel
theorem dL_law_731 : decode cL_law 731 = .ok (.aload_n 1, 1) := by decide +kernel
theorem dL_law_732 : decode cL_law 732 = .ok (.aload_n 0, 1) := by decide +kernel
theorem dL_law_733 : decode cL_law 733 = .ok (.iload_n 3, 1) := by decide +kernel
theorem dL_law_734 : decode cL_law 734 = .ok (.iconst 1, 1) := by decide +kernel
theorem dL_law_735 : decode cL_law 735 = .ok (.iadd, 1) := by decide +kernel
theorem dL_law_736 : decode cL_law 736 = .ok (.iaload, 1) := by decide +kernel
theorem dL_law_737 : decode cL_law 737 = .ok (.invokevirtual 86, 3) := by decide +kernel
theorem dL_law_740 : decode cL_law 740 = .ok (.aload_n 2, 1) := by decide +kernel
theorem dL_law_741 : decode cL_law 741 = .ok (.aload_n 0, 1) := by decide +kernel
theorem dL_law_742 : decode cL_law 742 = .ok (.iload_n 3, 1) := by decide +kernel
theorem dL_law_743 : decode cL_law 743 = .ok (.iconst 1, 1) := by decide +kernel
theorem dL_law_744 : decode cL_law 744 = .ok (.iadd, 1) := by decide +kernel
theorem dL_law_745 : decode cL_law 745 = .ok (.iaload, 1) := by decide +kernel
theorem dL_law_746 : decode cL_law 746 = .ok (.invokevirtual 89, 3) := by decide +kernel
theorem dL_law_749 : decode cL_law 749 = .ok (.if_icmp .eq 445, 3) := by decide +kernel
theorem dL_law_752 : decode cL_law 752 = .ok (.iconst 0, 1) := by decide +kernel
theorem dL_law_753 : decode cL_law 753 = .ok (.ireturn, 1) := by decide +kernel
theorem dL_law_754 : decode cL_law 754 = .ok (.aload_n 1, 1) := by decide +kernel
theorem dL_law_755 : decode cL_law 755 = .ok (.aload_n 0, 1) := by decide +kernel
theorem dL_law_756 : decode cL_law 756 = .ok (.iload_n 3, 1) := by decide +kernel
theorem dL_law_757 : decode cL_law 757 = .ok (.iconst 1, 1) := by decide +kernel
theorem dL_law_758 : decode cL_law 758 = .ok (.iadd, 1) := by decide +kernel
theorem dL_law_759 : decode cL_law 759 = .ok (.iaload, 1) := by decide +kernel
theorem dL_law_760 : decode cL_law 760 = .ok (.invokevirtual 90, 3) := by decide +kernel
theorem dL_law_763 : decode cL_law 763 = .ok (.aload_n 2, 1) := by decide +kernel
theorem dL_law_764 : decode cL_law 764 = .ok (.aload_n 0, 1) := by decide +kernel
theorem dL_law_765 : decode cL_law 765 = .ok (.iload_n 3, 1) := by decide +kernel
theorem dL_law_766 : decode cL_law 766 = .ok (.iconst 1, 1) := by decide +kernel
theorem dL_law_767 : decode cL_law 767 = .ok (.iadd, 1) := by decide +kernel
theorem dL_law_768 : decode cL_law 768 = .ok (.iaload, 1) := by decide +kernel
theorem dL_law_769 : decode cL_law 769 = .ok (.invokevirtual 93, 3) := by decide +kernel
theorem dL_law_772 : decode cL_law 772 = .ok (.if_icmp .eq 422, 3) := by decide +kernel
theorem dL_law_775 : decode cL_law 775 = .ok (.iconst 0, 1) := by decide +kernel
theorem dL_law_776 : decode cL_law 776 = .ok (.ireturn, 1) := by decide +kernel
theorem dL_law_777 : decode cL_law 777 = .ok (.aload_n 1, 1) := by decide +kernel
theorem dL_law_778 : decode cL_law 778 = .ok (.aload_n 0, 1) := by decide +kernel
theorem dL_law_779 : decode cL_law 779 = .ok (.iload_n 3, 1) := by decide +kernel
theorem dL_law_780 : decode cL_law 780 = .ok (.iconst 1, 1) := by decide +kernel
theorem dL_law_781 : decode cL_law 781 = .ok (.iadd, 1) := by decide +kernel
theorem dL_law_782 : decode cL_law 782 = .ok (.iaload, 1) := by decide +kernel
theorem dL_law_783 : decode cL_law 783 = .ok (.aload_n 0, 1) := by decide +kernel
theorem dL_law_784 : decode cL_law 784 = .ok (.iload_n 3, 1) := by decide +kernel
theorem dL_law_785 : decode cL_law 785 = .ok (.iconst 2, 1) := by decide +kernel
theorem dL_law_786 : decode cL_law 786 = .ok (.iadd, 1) := by decide +kernel
theorem dL_law_787 : decode cL_law 787 = .ok (.iaload, 1) := by decide +kernel
theorem dL_law_788 : decode cL_law 788 = .ok (.aload_n 0, 1) := by decide +kernel
theorem dL_law_789 : decode cL_law 789 = .ok (.iload_n 3, 1) := by decide +kernel
theorem dL_law_790 : decode cL_law 790 = .ok (.iconst 3, 1) := by decide +kernel
theorem dL_law_791 : decode cL_law 791 = .ok (.iadd, 1) := by decide +kernel
theorem dL_law_792 : decode cL_law 792 = .ok (.iaload, 1) := by decide +kernel
theorem dL_law_793 : decode cL_law 793 = .ok (.invokevirtual 94, 3) := by decide +kernel
theorem dL_law_796 : decode cL_law 796 = .ok (.aload_n 2, 1) := by decide +kernel
theorem dL_law_797 : decode cL_law 797 = .ok (.aload_n 0, 1) := by decide +kernel
theorem dL_law_798 : decode cL_law 798 = .ok (.iload_n 3, 1) := by decide +kernel
theorem dL_law_799 : decode cL_law 799 = .ok (.iconst 1, 1) := by decide +kernel
theorem dL_law_800 : decode cL_law 800 = .ok (.iadd, 1) := by decide +kernel
theorem dL_law_801 : decode cL_law 801 = .ok (.iaload, 1) := by decide +kernel
theorem dL_law_802 : decode cL_law 802 = .ok (.aload_n 0, 1) := by decide +kernel
theorem dL_law_803 : decode cL_law 803 = .ok (.iload_n 3, 1) := by decide +kernel
theorem dL_law_804 : decode cL_law 804 = .ok (.iconst 2, 1) := by decide +kernel
theorem dL_law_805 : decode cL_law 805 = .ok (.iadd, 1) := by decide +kernel
theorem dL_law_806 : decode cL_law 806 = .ok (.iaload, 1) := by decide +kernel
theorem dL_law_807 : decode cL_law 807 = .ok (.aload_n 0, 1) := by decide +kernel
theorem dL_law_808 : decode cL_law 808 = .ok (.iload_n 3, 1) := by decide +kernel
theorem dL_law_809 : decode cL_law 809 = .ok (.iconst 3, 1) := by decide +kernel
theorem dL_law_810 : decode cL_law 810 = .ok (.iadd, 1) := by decide +kernel
theorem dL_law_811 : decode cL_law 811 = .ok (.iaload, 1) := by decide +kernel
theorem dL_law_812 : decode cL_law 812 = .ok (.invokevirtual 97, 3) := by decide +kernel
theorem dL_law_815 : decode cL_law 815 = .ok (.if_icmp .eq 379, 3) := by decide +kernel
theorem dL_law_818 : decode cL_law 818 = .ok (.iconst 0, 1) := by decide +kernel
theorem dL_law_819 : decode cL_law 819 = .ok (.ireturn, 1) := by decide +kernel
theorem dL_law_820 : decode cL_law 820 = .ok (.aload_n 1, 1) := by decide +kernel
theorem dL_law_821 : decode cL_law 821 = .ok (.aload_n 0, 1) := by decide +kernel
theorem dL_law_822 : decode cL_law 822 = .ok (.iload_n 3, 1) := by decide +kernel
theorem dL_law_823 : decode cL_law 823 = .ok (.iconst 1, 1) := by decide +kernel
theorem dL_law_824 : decode cL_law 824 = .ok (.iadd, 1) := by decide +kernel
theorem dL_law_825 : decode cL_law 825 = .ok (.iaload, 1) := by decide +kernel
theorem dL_law_826 : decode cL_law 826 = .ok (.invokevirtual 98, 3) := by decide +kernel
theorem dL_law_829 : decode cL_law 829 = .ok (.aload_n 2, 1) := by decide +kernel
theorem dL_law_830 : decode cL_law 830 = .ok (.aload_n 0, 1) := by decide +kernel
theorem dL_law_831 : decode cL_law 831 = .ok (.iload_n 3, 1) := by decide +kernel
theorem dL_law_832 : decode cL_law 832 = .ok (.iconst 1, 1) := by decide +kernel
theorem dL_law_833 : decode cL_law 833 = .ok (.iadd, 1) := by decide +kernel
theorem dL_law_834 : decode cL_law 834 = .ok (.iaload, 1) := by decide +kernel
theorem dL_law_835 : decode cL_law 835 = .ok (.invokevirtual 101, 3) := by decide +kernel
theorem dL_law_838 : decode cL_law 838 = .ok (.if_icmp .eq 356, 3) := by decide +kernel
theorem dL_law_841 : decode cL_law 841 = .ok (.iconst 0, 1) := by decide +kernel
theorem dL_law_842 : decode cL_law 842 = .ok (.ireturn, 1) := by decide +kernel
theorem dL_law_843 : decode cL_law 843 = .ok (.aload_n 1, 1) := by decide +kernel
theorem dL_law_844 : decode cL_law 844 = .ok (.aload_n 0, 1) := by decide +kernel
theorem dL_law_845 : decode cL_law 845 = .ok (.iload_n 3, 1) := by decide +kernel
theorem dL_law_846 : decode cL_law 846 = .ok (.iconst 1, 1) := by decide +kernel
theorem dL_law_847 : decode cL_law 847 = .ok (.iadd, 1) := by decide +kernel
theorem dL_law_848 : decode cL_law 848 = .ok (.iaload, 1) := by decide +kernel
theorem dL_law_849 : decode cL_law 849 = .ok (.aload_n 0, 1) := by decide +kernel
theorem dL_law_850 : decode cL_law 850 = .ok (.iload_n 3, 1) := by decide +kernel
theorem dL_law_851 : decode cL_law 851 = .ok (.iconst 2, 1) := by decide +kernel
theorem dL_law_852 : decode cL_law 852 = .ok (.iadd, 1) := by decide +kernel
theorem dL_law_853 : decode cL_law 853 = .ok (.iaload, 1) := by decide +kernel
theorem dL_law_854 : decode cL_law 854 = .ok (.invokevirtual 102, 3) := by decide +kernel
theorem dL_law_857 : decode cL_law 857 = .ok (.aload_n 2, 1) := by decide +kernel
theorem dL_law_858 : decode cL_law 858 = .ok (.aload_n 0, 1) := by decide +kernel
theorem dL_law_859 : decode cL_law 859 = .ok (.iload_n 3, 1) := by decide +kernel
theorem dL_law_860 : decode cL_law 860 = .ok (.iconst 1, 1) := by decide +kernel
theorem dL_law_861 : decode cL_law 861 = .ok (.iadd, 1) := by decide +kernel
theorem dL_law_862 : decode cL_law 862 = .ok (.iaload, 1) := by decide +kernel
theorem dL_law_863 : decode cL_law 863 = .ok (.aload_n 0, 1) := by decide +kernel
theorem dL_law_864 : decode cL_law 864 = .ok (.iload_n 3, 1) := by decide +kernel
theorem dL_law_865 : decode cL_law 865 = .ok (.iconst 2, 1) := by decide +kernel
theorem dL_law_866 : decode cL_law 866 = .ok (.iadd, 1) := by decide +kernel
theorem dL_law_867 : decode cL_law 867 = .ok (.iaload, 1) := by decide +kernel
theorem dL_law_868 : decode cL_law 868 = .ok (.invokevirtual 105, 3) := by decide +kernel
theorem dL_law_871 : decode cL_law 871 = .ok (.if_icmp .eq 323, 3) := by decide +kernel
theorem dL_law_874 : decode cL_law 874 = .ok (.iconst 0, 1) := by decide +kernel
theorem dL_law_875 : decode cL_law 875 = .ok (.ireturn, 1) := by decide +kernel
theorem dL_law_876 : decode cL_law 876 = .ok (.aload_n 1, 1) := by decide +kernel
theorem dL_law_877 : decode cL_law 877 = .ok (.aload_n 0, 1) := by decide +kernel
theorem dL_law_878 : decode cL_law 878 = .ok (.iload_n 3, 1) := by decide +kernel
theorem dL_law_879 : decode cL_law 879 = .ok (.iconst 1, 1) := by decide +kernel
theorem dL_law_880 : decode cL_law 880 = .ok (.iadd, 1) := by decide +kernel
theorem dL_law_881 : decode cL_law 881 = .ok (.iaload, 1) := by decide +kernel
theorem dL_law_882 : decode cL_law 882 = .ok (.aload_n 0, 1) := by decide +kernel
theorem dL_law_883 : decode cL_law 883 = .ok (.iload_n 3, 1) := by decide +kernel
theorem dL_law_884 : decode cL_law 884 = .ok (.iconst 2, 1) := by decide +kernel
theorem dL_law_885 : decode cL_law 885 = .ok (.iadd, 1) := by decide +kernel
theorem dL_law_886 : decode cL_law 886 = .ok (.iaload, 1) := by decide +kernel
theorem dL_law_887 : decode cL_law 887 = .ok (.aload_n 0, 1) := by decide +kernel
theorem dL_law_888 : decode cL_law 888 = .ok (.iload_n 3, 1) := by decide +kernel
theorem dL_law_889 : decode cL_law 889 = .ok (.iconst 3, 1) := by decide +kernel
theorem dL_law_890 : decode cL_law 890 = .ok (.iadd, 1) := by decide +kernel
theorem dL_law_891 : decode cL_law 891 = .ok (.iaload, 1) := by decide +kernel
theorem dL_law_892 : decode cL_law 892 = .ok (.invokevirtual 106, 3) := by decide +kernel
theorem dL_law_895 : decode cL_law 895 = .ok (.aload_n 2, 1) := by decide +kernel
theorem dL_law_896 : decode cL_law 896 = .ok (.aload_n 0, 1) := by decide +kernel
theorem dL_law_897 : decode cL_law 897 = .ok (.iload_n 3, 1) := by decide +kernel
theorem dL_law_898 : decode cL_law 898 = .ok (.iconst 1, 1) := by decide +kernel
theorem dL_law_899 : decode cL_law 899 = .ok (.iadd, 1) := by decide +kernel
theorem dL_law_900 : decode cL_law 900 = .ok (.iaload, 1) := by decide +kernel
theorem dL_law_901 : decode cL_law 901 = .ok (.aload_n 0, 1) := by decide +kernel
theorem dL_law_902 : decode cL_law 902 = .ok (.iload_n 3, 1) := by decide +kernel
theorem dL_law_903 : decode cL_law 903 = .ok (.iconst 2, 1) := by decide +kernel
theorem dL_law_904 : decode cL_law 904 = .ok (.iadd, 1) := by decide +kernel
theorem dL_law_905 : decode cL_law 905 = .ok (.iaload, 1) := by decide +kernel
theorem dL_law_906 : decode cL_law 906 = .ok (.aload_n 0, 1) := by decide +kernel
theorem dL_law_907 : decode cL_law 907 = .ok (.iload_n 3, 1) := by decide +kernel
theorem dL_law_908 : decode cL_law 908 = .ok (.iconst 3, 1) := by decide +kernel
theorem dL_law_909 : decode cL_law 909 = .ok (.iadd, 1) := by decide +kernel
theorem dL_law_910 : decode cL_law 910 = .ok (.iaload, 1) := by decide +kernel
theorem dL_law_911 : decode cL_law 911 = .ok (.invokevirtual 110, 3) := by decide +kernel
theorem dL_law_914 : decode cL_law 914 = .ok (.lcmp, 1) := by decide +kernel
theorem dL_law_915 : decode cL_law 915 = .ok (.ifCond .eq 279, 3) := by decide +kernel
theorem dL_law_918 : decode cL_law 918 = .ok (.iconst 0, 1) := by decide +kernel
theorem dL_law_919 : decode cL_law 919 = .ok (.ireturn, 1) := by decide +kernel
theorem dL_law_920 : decode cL_law 920 = .ok (.aload_n 1, 1) := by decide +kernel
theorem dL_law_921 : decode cL_law 921 = .ok (.aload_n 0, 1) := by decide +kernel
theorem dL_law_922 : decode cL_law 922 = .ok (.iload_n 3, 1) := by decide +kernel
theorem dL_law_923 : decode cL_law 923 = .ok (.iconst 1, 1) := by decide +kernel
theorem dL_law_924 : decode cL_law 924 = .ok (.iadd, 1) := by decide +kernel
theorem dL_law_925 : decode cL_law 925 = .ok (.iaload, 1) := by decide +kernel
theorem dL_law_926 : decode cL_law 926 = .ok (.invokevirtual 111, 3) := by decide +kernel
theorem dL_law_929 : decode cL_law 929 = .ok (.aload_n 2, 1) := by decide +kernel
theorem dL_law_930 : decode cL_law 930 = .ok (.aload_n 0, 1) := by decide +kernel
theorem dL_law_931 : decode cL_law 931 = .ok (.iload_n 3, 1) := by decide +kernel
theorem dL_law_932 : decode cL_law 932 = .ok (.iconst 1, 1) := by decide +kernel
theorem dL_law_933 : decode cL_law 933 = .ok (.iadd, 1) := by decide +kernel
theorem dL_law_934 : decode cL_law 934 = .ok (.iaload, 1) := by decide +kernel
theorem dL_law_935 : decode cL_law 935 = .ok (.invokevirtual 115, 3) := by decide +kernel
theorem dL_law_938 : decode cL_law 938 = .ok (.lcmp, 1) := by decide +kernel
theorem dL_law_939 : decode cL_law 939 = .ok (.ifCond .eq 255, 3) := by decide +kernel
theorem dL_law_942 : decode cL_law 942 = .ok (.iconst 0, 1) := by decide +kernel
theorem dL_law_943 : decode cL_law 943 = .ok (.ireturn, 1) := by decide +kernel
theorem dL_law_944 : decode cL_law 944 = .ok (.aload_n 1, 1) := by decide +kernel
theorem dL_law_945 : decode cL_law 945 = .ok (.aload_n 0, 1) := by decide +kernel
theorem dL_law_946 : decode cL_law 946 = .ok (.iload_n 3, 1) := by decide +kernel
theorem dL_law_947 : decode cL_law 947 = .ok (.iconst 1, 1) := by decide +kernel
theorem dL_law_948 : decode cL_law 948 = .ok (.iadd, 1) := by decide +kernel
theorem dL_law_949 : decode cL_law 949 = .ok (.iaload, 1) := by decide +kernel
theorem dL_law_950 : decode cL_law 950 = .ok (.aload_n 0, 1) := by decide +kernel
theorem dL_law_951 : decode cL_law 951 = .ok (.iload_n 3, 1) := by decide +kernel
theorem dL_law_952 : decode cL_law 952 = .ok (.iconst 2, 1) := by decide +kernel
theorem dL_law_953 : decode cL_law 953 = .ok (.iadd, 1) := by decide +kernel
theorem dL_law_954 : decode cL_law 954 = .ok (.iaload, 1) := by decide +kernel
theorem dL_law_955 : decode cL_law 955 = .ok (.invokevirtual 116, 3) := by decide +kernel
theorem dL_law_958 : decode cL_law 958 = .ok (.aload_n 2, 1) := by decide +kernel
theorem dL_law_959 : decode cL_law 959 = .ok (.aload_n 0, 1) := by decide +kernel
theorem dL_law_960 : decode cL_law 960 = .ok (.iload_n 3, 1) := by decide +kernel
theorem dL_law_961 : decode cL_law 961 = .ok (.iconst 1, 1) := by decide +kernel
theorem dL_law_962 : decode cL_law 962 = .ok (.iadd, 1) := by decide +kernel
theorem dL_law_963 : decode cL_law 963 = .ok (.iaload, 1) := by decide +kernel
theorem dL_law_964 : decode cL_law 964 = .ok (.aload_n 0, 1) := by decide +kernel
theorem dL_law_965 : decode cL_law 965 = .ok (.iload_n 3, 1) := by decide +kernel
theorem dL_law_966 : decode cL_law 966 = .ok (.iconst 2, 1) := by decide +kernel
theorem dL_law_967 : decode cL_law 967 = .ok (.iadd, 1) := by decide +kernel
theorem dL_law_968 : decode cL_law 968 = .ok (.iaload, 1) := by decide +kernel
theorem dL_law_969 : decode cL_law 969 = .ok (.invokevirtual 119, 3) := by decide +kernel
theorem dL_law_972 : decode cL_law 972 = .ok (.if_icmp .eq 222, 3) := by decide +kernel
theorem dL_law_975 : decode cL_law 975 = .ok (.iconst 0, 1) := by decide +kernel
theorem dL_law_976 : decode cL_law 976 = .ok (.ireturn, 1) := by decide +kernel
theorem dL_law_977 : decode cL_law 977 = .ok (.aload_n 1, 1) := by decide +kernel
theorem dL_law_978 : decode cL_law 978 = .ok (.aload_n 0, 1) := by decide +kernel
theorem dL_law_979 : decode cL_law 979 = .ok (.iload_n 3, 1) := by decide +kernel
theorem dL_law_980 : decode cL_law 980 = .ok (.iconst 1, 1) := by decide +kernel
theorem dL_law_981 : decode cL_law 981 = .ok (.iadd, 1) := by decide +kernel
theorem dL_law_982 : decode cL_law 982 = .ok (.iaload, 1) := by decide +kernel
theorem dL_law_983 : decode cL_law 983 = .ok (.invokevirtual 120, 3) := by decide +kernel
theorem dL_law_986 : decode cL_law 986 = .ok (.aload_n 2, 1) := by decide +kernel
theorem dL_law_987 : decode cL_law 987 = .ok (.aload_n 0, 1) := by decide +kernel
theorem dL_law_988 : decode cL_law 988 = .ok (.iload_n 3, 1) := by decide +kernel
theorem dL_law_989 : decode cL_law 989 = .ok (.iconst 1, 1) := by decide +kernel
theorem dL_law_990 : decode cL_law 990 = .ok (.iadd, 1) := by decide +kernel
theorem dL_law_991 : decode cL_law 991 = .ok (.iaload, 1) := by decide +kernel
theorem dL_law_992 : decode cL_law 992 = .ok (.invokevirtual 123, 3) := by decide +kernel
theorem dL_law_995 : decode cL_law 995 = .ok (.if_icmp .eq 199, 3) := by decide +kernel
theorem dL_law_998 : decode cL_law 998 = .ok (.iconst 0, 1) := by decide +kernel
theorem dL_law_999 : decode cL_law 999 = .ok (.ireturn, 1) := by decide +kernel
theorem dL_law_1000 : decode cL_law 1000 = .ok (.aload_n 1, 1) := by decide +kernel
theorem dL_law_1001 : decode cL_law 1001 = .ok (.aload_n 0, 1) := by decide +kernel
theorem dL_law_1002 : decode cL_law 1002 = .ok (.iload_n 3, 1) := by decide +kernel
theorem dL_law_1003 : decode cL_law 1003 = .ok (.iconst 1, 1) := by decide +kernel
theorem dL_law_1004 : decode cL_law 1004 = .ok (.iadd, 1) := by decide +kernel
theorem dL_law_1005 : decode cL_law 1005 = .ok (.iaload, 1) := by decide +kernel
theorem dL_law_1006 : decode cL_law 1006 = .ok (.aload_n 0, 1) := by decide +kernel
theorem dL_law_1007 : decode cL_law 1007 = .ok (.iload_n 3, 1) := by decide +kernel
theorem dL_law_1008 : decode cL_law 1008 = .ok (.iconst 2, 1) := by decide +kernel
theorem dL_law_1009 : decode cL_law 1009 = .ok (.iadd, 1) := by decide +kernel
theorem dL_law_1010 : decode cL_law 1010 = .ok (.iaload, 1) := by decide +kernel
theorem dL_law_1011 : decode cL_law 1011 = .ok (.invokevirtual 124, 3) := by decide +kernel
theorem dL_law_1014 : decode cL_law 1014 = .ok (.aload_n 2, 1) := by decide +kernel
theorem dL_law_1015 : decode cL_law 1015 = .ok (.aload_n 0, 1) := by decide +kernel
theorem dL_law_1016 : decode cL_law 1016 = .ok (.iload_n 3, 1) := by decide +kernel
theorem dL_law_1017 : decode cL_law 1017 = .ok (.iconst 1, 1) := by decide +kernel
theorem dL_law_1018 : decode cL_law 1018 = .ok (.iadd, 1) := by decide +kernel
theorem dL_law_1019 : decode cL_law 1019 = .ok (.iaload, 1) := by decide +kernel
theorem dL_law_1020 : decode cL_law 1020 = .ok (.aload_n 0, 1) := by decide +kernel
theorem dL_law_1021 : decode cL_law 1021 = .ok (.iload_n 3, 1) := by decide +kernel
theorem dL_law_1022 : decode cL_law 1022 = .ok (.iconst 2, 1) := by decide +kernel
theorem dL_law_1023 : decode cL_law 1023 = .ok (.iadd, 1) := by decide +kernel
theorem dL_law_1024 : decode cL_law 1024 = .ok (.iaload, 1) := by decide +kernel
theorem dL_law_1025 : decode cL_law 1025 = .ok (.invokevirtual 127, 3) := by decide +kernel
theorem dL_law_1028 : decode cL_law 1028 = .ok (.if_icmp .eq 166, 3) := by decide +kernel
theorem dL_law_1031 : decode cL_law 1031 = .ok (.iconst 0, 1) := by decide +kernel
theorem dL_law_1032 : decode cL_law 1032 = .ok (.ireturn, 1) := by decide +kernel
theorem dL_law_1033 : decode cL_law 1033 = .ok (.aload_n 1, 1) := by decide +kernel
theorem dL_law_1034 : decode cL_law 1034 = .ok (.invokevirtual 128, 3) := by decide +kernel
theorem dL_law_1037 : decode cL_law 1037 = .ok (.aload_n 2, 1) := by decide +kernel
theorem dL_law_1038 : decode cL_law 1038 = .ok (.invokevirtual 131, 3) := by decide +kernel
theorem dL_law_1041 : decode cL_law 1041 = .ok (.if_icmp .eq 153, 3) := by decide +kernel
theorem dL_law_1044 : decode cL_law 1044 = .ok (.iconst 0, 1) := by decide +kernel
theorem dL_law_1045 : decode cL_law 1045 = .ok (.ireturn, 1) := by decide +kernel
theorem dL_law_1046 : decode cL_law 1046 = .ok (.aload_n 1, 1) := by decide +kernel
theorem dL_law_1047 : decode cL_law 1047 = .ok (.aload_n 0, 1) := by decide +kernel
theorem dL_law_1048 : decode cL_law 1048 = .ok (.iload_n 3, 1) := by decide +kernel
theorem dL_law_1049 : decode cL_law 1049 = .ok (.iconst 1, 1) := by decide +kernel
theorem dL_law_1050 : decode cL_law 1050 = .ok (.iadd, 1) := by decide +kernel
theorem dL_law_1051 : decode cL_law 1051 = .ok (.iaload, 1) := by decide +kernel
theorem dL_law_1052 : decode cL_law 1052 = .ok (.aload_n 0, 1) := by decide +kernel
theorem dL_law_1053 : decode cL_law 1053 = .ok (.iload_n 3, 1) := by decide +kernel
theorem dL_law_1054 : decode cL_law 1054 = .ok (.iconst 2, 1) := by decide +kernel
theorem dL_law_1055 : decode cL_law 1055 = .ok (.iadd, 1) := by decide +kernel
theorem dL_law_1056 : decode cL_law 1056 = .ok (.iaload, 1) := by decide +kernel
theorem dL_law_1057 : decode cL_law 1057 = .ok (.aload_n 0, 1) := by decide +kernel
theorem dL_law_1058 : decode cL_law 1058 = .ok (.iload_n 3, 1) := by decide +kernel
theorem dL_law_1059 : decode cL_law 1059 = .ok (.iconst 3, 1) := by decide +kernel
theorem dL_law_1060 : decode cL_law 1060 = .ok (.iadd, 1) := by decide +kernel
theorem dL_law_1061 : decode cL_law 1061 = .ok (.iaload, 1) := by decide +kernel
theorem dL_law_1062 : decode cL_law 1062 = .ok (.invokevirtual 132, 3) := by decide +kernel
theorem dL_law_1065 : decode cL_law 1065 = .ok (.aload_n 2, 1) := by decide +kernel
theorem dL_law_1066 : decode cL_law 1066 = .ok (.aload_n 0, 1) := by decide +kernel
theorem dL_law_1067 : decode cL_law 1067 = .ok (.iload_n 3, 1) := by decide +kernel
theorem dL_law_1068 : decode cL_law 1068 = .ok (.iconst 1, 1) := by decide +kernel
theorem dL_law_1069 : decode cL_law 1069 = .ok (.iadd, 1) := by decide +kernel
theorem dL_law_1070 : decode cL_law 1070 = .ok (.iaload, 1) := by decide +kernel
theorem dL_law_1071 : decode cL_law 1071 = .ok (.aload_n 0, 1) := by decide +kernel
theorem dL_law_1072 : decode cL_law 1072 = .ok (.iload_n 3, 1) := by decide +kernel
theorem dL_law_1073 : decode cL_law 1073 = .ok (.iconst 2, 1) := by decide +kernel
theorem dL_law_1074 : decode cL_law 1074 = .ok (.iadd, 1) := by decide +kernel
theorem dL_law_1075 : decode cL_law 1075 = .ok (.iaload, 1) := by decide +kernel
theorem dL_law_1076 : decode cL_law 1076 = .ok (.aload_n 0, 1) := by decide +kernel
theorem dL_law_1077 : decode cL_law 1077 = .ok (.iload_n 3, 1) := by decide +kernel
theorem dL_law_1078 : decode cL_law 1078 = .ok (.iconst 3, 1) := by decide +kernel
theorem dL_law_1079 : decode cL_law 1079 = .ok (.iadd, 1) := by decide +kernel
theorem dL_law_1080 : decode cL_law 1080 = .ok (.iaload, 1) := by decide +kernel
theorem dL_law_1081 : decode cL_law 1081 = .ok (.invokevirtual 135, 3) := by decide +kernel
theorem dL_law_1084 : decode cL_law 1084 = .ok (.if_icmp .eq 110, 3) := by decide +kernel
theorem dL_law_1087 : decode cL_law 1087 = .ok (.iconst 0, 1) := by decide +kernel
theorem dL_law_1088 : decode cL_law 1088 = .ok (.ireturn, 1) := by decide +kernel
theorem dL_law_1089 : decode cL_law 1089 = .ok (.aload_n 1, 1) := by decide +kernel
theorem dL_law_1090 : decode cL_law 1090 = .ok (.aload_n 0, 1) := by decide +kernel
theorem dL_law_1091 : decode cL_law 1091 = .ok (.iload_n 3, 1) := by decide +kernel
theorem dL_law_1092 : decode cL_law 1092 = .ok (.iconst 1, 1) := by decide +kernel
theorem dL_law_1093 : decode cL_law 1093 = .ok (.iadd, 1) := by decide +kernel
theorem dL_law_1094 : decode cL_law 1094 = .ok (.iaload, 1) := by decide +kernel
theorem dL_law_1095 : decode cL_law 1095 = .ok (.invokevirtual 136, 3) := by decide +kernel
theorem dL_law_1098 : decode cL_law 1098 = .ok (.aload_n 2, 1) := by decide +kernel
theorem dL_law_1099 : decode cL_law 1099 = .ok (.aload_n 0, 1) := by decide +kernel
theorem dL_law_1100 : decode cL_law 1100 = .ok (.iload_n 3, 1) := by decide +kernel
theorem dL_law_1101 : decode cL_law 1101 = .ok (.iconst 1, 1) := by decide +kernel
theorem dL_law_1102 : decode cL_law 1102 = .ok (.iadd, 1) := by decide +kernel
theorem dL_law_1103 : decode cL_law 1103 = .ok (.iaload, 1) := by decide +kernel
theorem dL_law_1104 : decode cL_law 1104 = .ok (.invokevirtual 139, 3) := by decide +kernel
theorem dL_law_1107 : decode cL_law 1107 = .ok (.if_icmp .eq 87, 3) := by decide +kernel
theorem dL_law_1110 : decode cL_law 1110 = .ok (.iconst 0, 1) := by decide +kernel
theorem dL_law_1111 : decode cL_law 1111 = .ok (.ireturn, 1) := by decide +kernel
theorem dL_law_1112 : decode cL_law 1112 = .ok (.aload_n 1, 1) := by decide +kernel
theorem dL_law_1113 : decode cL_law 1113 = .ok (.aload_n 0, 1) := by decide +kernel
theorem dL_law_1114 : decode cL_law 1114 = .ok (.iload_n 3, 1) := by decide +kernel
theorem dL_law_1115 : decode cL_law 1115 = .ok (.iconst 1, 1) := by decide +kernel
theorem dL_law_1116 : decode cL_law 1116 = .ok (.iadd, 1) := by decide +kernel
theorem dL_law_1117 : decode cL_law 1117 = .ok (.iaload, 1) := by decide +kernel
theorem dL_law_1118 : decode cL_law 1118 = .ok (.aload_n 0, 1) := by decide +kernel
theorem dL_law_1119 : decode cL_law 1119 = .ok (.iload_n 3, 1) := by decide +kernel
theorem dL_law_1120 : decode cL_law 1120 = .ok (.iconst 2, 1) := by decide +kernel
theorem dL_law_1121 : decode cL_law 1121 = .ok (.iadd, 1) := by decide +kernel
theorem dL_law_1122 : decode cL_law 1122 = .ok (.iaload, 1) := by decide +kernel
theorem dL_law_1123 : decode cL_law 1123 = .ok (.invokevirtual 140, 3) := by decide +kernel
theorem dL_law_1126 : decode cL_law 1126 = .ok (.aload_n 2, 1) := by decide +kernel
theorem dL_law_1127 : decode cL_law 1127 = .ok (.aload_n 0, 1) := by decide +kernel
theorem dL_law_1128 : decode cL_law 1128 = .ok (.iload_n 3, 1) := by decide +kernel
theorem dL_law_1129 : decode cL_law 1129 = .ok (.iconst 1, 1) := by decide +kernel
theorem dL_law_1130 : decode cL_law 1130 = .ok (.iadd, 1) := by decide +kernel
theorem dL_law_1131 : decode cL_law 1131 = .ok (.iaload, 1) := by decide +kernel
theorem dL_law_1132 : decode cL_law 1132 = .ok (.aload_n 0, 1) := by decide +kernel
theorem dL_law_1133 : decode cL_law 1133 = .ok (.iload_n 3, 1) := by decide +kernel
theorem dL_law_1134 : decode cL_law 1134 = .ok (.iconst 2, 1) := by decide +kernel
theorem dL_law_1135 : decode cL_law 1135 = .ok (.iadd, 1) := by decide +kernel
theorem dL_law_1136 : decode cL_law 1136 = .ok (.iaload, 1) := by decide +kernel
theorem dL_law_1137 : decode cL_law 1137 = .ok (.invokevirtual 143, 3) := by decide +kernel
theorem dL_law_1140 : decode cL_law 1140 = .ok (.if_icmp .eq 54, 3) := by decide +kernel
theorem dL_law_1143 : decode cL_law 1143 = .ok (.iconst 0, 1) := by decide +kernel
theorem dL_law_1144 : decode cL_law 1144 = .ok (.ireturn, 1) := by decide +kernel
theorem dL_law_1145 : decode cL_law 1145 = .ok (.aload_n 1, 1) := by decide +kernel
theorem dL_law_1146 : decode cL_law 1146 = .ok (.invokevirtual 144, 3) := by decide +kernel
theorem dL_law_1149 : decode cL_law 1149 = .ok (.aload_n 2, 1) := by decide +kernel
theorem dL_law_1150 : decode cL_law 1150 = .ok (.invokevirtual 147, 3) := by decide +kernel
theorem dL_law_1153 : decode cL_law 1153 = .ok (.if_icmp .eq 41, 3) := by decide +kernel
theorem dL_law_1156 : decode cL_law 1156 = .ok (.iconst 0, 1) := by decide +kernel
theorem dL_law_1157 : decode cL_law 1157 = .ok (.ireturn, 1) := by decide +kernel
theorem dL_law_1158 : decode cL_law 1158 = .ok (.aload_n 1, 1) := by decide +kernel
theorem dL_law_1159 : decode cL_law 1159 = .ok (.invokevirtual 148, 3) := by decide +kernel
theorem dL_law_1162 : decode cL_law 1162 = .ok (.aload_n 2, 1) := by decide +kernel
theorem dL_law_1163 : decode cL_law 1163 = .ok (.invokevirtual 151, 3) := by decide +kernel
theorem dL_law_1166 : decode cL_law 1166 = .ok (.if_icmp .eq 28, 3) := by decide +kernel
theorem dL_law_1169 : decode cL_law 1169 = .ok (.iconst 0, 1) := by decide +kernel
theorem dL_law_1170 : decode cL_law 1170 = .ok (.ireturn, 1) := by decide +kernel
theorem dL_law_1171 : decode cL_law 1171 = .ok (.aload_n 1, 1) := by decide +kernel
theorem dL_law_1172 : decode cL_law 1172 = .ok (.aload_n 0, 1) := by decide +kernel
theorem dL_law_1173 : decode cL_law 1173 = .ok (.iload_n 3, 1) := by decide +kernel
theorem dL_law_1174 : decode cL_law 1174 = .ok (.iconst 1, 1) := by decide +kernel
theorem dL_law_1175 : decode cL_law 1175 = .ok (.iadd, 1) := by decide +kernel
theorem dL_law_1176 : decode cL_law 1176 = .ok (.iaload, 1) := by decide +kernel
theorem dL_law_1177 : decode cL_law 1177 = .ok (.invokevirtual 152, 3) := by decide +kernel
theorem dL_law_1180 : decode cL_law 1180 = .ok (.aload_n 2, 1) := by decide +kernel
theorem dL_law_1181 : decode cL_law 1181 = .ok (.aload_n 0, 1) := by decide +kernel
theorem dL_law_1182 : decode cL_law 1182 = .ok (.iload_n 3, 1) := by decide +kernel
theorem dL_law_1183 : decode cL_law 1183 = .ok (.iconst 1, 1) := by decide +kernel
theorem dL_law_1184 : decode cL_law 1184 = .ok (.iadd, 1) := by decide +kernel
theorem dL_law_1185 : decode cL_law 1185 = .ok (.iaload, 1) := by decide +kernel
theorem dL_law_1186 : decode cL_law 1186 = .ok (.invokevirtual 155, 3) := by decide +kernel
theorem dL_law_1189 : decode cL_law 1189 = .ok (.if_icmp .eq 5, 3) := by decide +kernel
theorem dL_law_1192 : decode cL_law 1192 = .ok (.iconst 0, 1) := by decide +kernel
theorem dL_law_1193 : decode cL_law 1193 = .ok (.ireturn, 1) := by decide +kernel
theorem dL_law_1194 : decode cL_law 1194 = .ok (.iinc 3 4, 3) := by decide +kernel
theorem dL_law_1197 : decode cL_law 1197 = .ok (.goto (-1179), 3) := by decide +kernel
theorem dL_law_1200 : decode cL_law 1200 = .ok (.iconst 1, 1) := by decide +kernel
theorem dL_law_1201 : decode cL_law 1201 = .ok (.ireturn, 1) := by decide +kernel
end
section
/-! ===== the calculus: a world of fixed shape (positions), memory Nat -> Nat -> Int32; CW: a method's walk from a pc; AM: a call's weakest precondition ===== -/
abbrev Mem : Type := Nat → Nat → Int32
def st (μ : Mem) (k i : Nat) (v : Int32) : Mem := fun a b => if a = k ∧ b = i then v else μ a b
abbrev Ev : Type := Launch × va_G × (Nat → Nat) × (ClassId × ClassId)
def e_l (E : Ev) : Launch := E.1
def e_D (E : Ev) : va_G := E.2.1
def e_ad (E : Ev) : Nat → Nat := E.2.2.1
def e_cI (E : Ev) : ClassId := E.2.2.2.1
def e_cZ (E : Ev) : ClassId := E.2.2.2.2
/-- class (100: int[], 101: boolean[]), length, fields (a reference: whither) -/
abbrev SH : Type := Nat × Nat × List (Option Nat)
def landS (k : Nat) : List SH := [(2, 0, [none, none, none, none, some (k + 1), some (k + 2), some (k + 3), some (k + 4), some (k + 5), some (k + 6)]), (100, 12, []), (100, 6, []), (100, 6, []), (100, 6, []), (100, 6, []), (100, 24, [])]
def parS (k : Nat) : List SH := [(3, 0, [some (k + 1), some (k + 2), none, none]), (100, 100, []), (100, 100, [])]
def rowS (k n : Nat) : List SH := [(6, 0, [none, some (k + 1), none]), (100, n, [])]
def ploS (k land par : Nat) : List SH := [(4, 0, [some land, some par, some (k + 1), some (k + 2), some (k + 3), none, none]), (100, 6, []), (100, 6, []), (100, 13, [])]
def staS (k : Nat) : List SH := (7, 0, [some (k + 1), some (k + 8), some (k + 11), some (k + 13), some (k + 15), some (k + 17), some (k + 19), none]) :: (landS (k + 1) ++ parS (k + 8) ++ rowS (k + 11) 100 ++ rowS (k + 13) 10 ++ rowS (k + 15) 15 ++ rowS (k + 17) 16 ++ rowS (k + 19) 16)
def shape : List SH := (8, 0, [some 1, some 22, none, some 2, some 50, some 43, some 54, some 58, some 61, some 65]) :: (staS 1 ++ staS 22 ++ landS 43 ++ ploS 50 2 9 ++ ploS 54 43 9
  ++ [(0, 0, [some 59, some 60, none, none, none, none, none]), (100, 108, []), (100, 108, [])]
  ++ ((5, 0, [some 62, some 12, none, none, none]) :: parS 62)
  ++ [(1, 0, [some 66, none, none, none, none]), (100, 20, [])]
  ++ [(9, 0, [none, some 68, some 69, some 70, none, none, none, none, none, none, some 71, some 72, some 73, none, none, some 74, some 75, some 76, none, none, none, none]), (100, 948, []), (100, 948, []), (100, 31, []), (100, 6, []), (101, 64, []), (100, 13, []), (100, 108, []), (100, 108, []), (100, 20, [])])
theorem shape_len : shape.length = 77 := rfl
def fv (E : Ev) (o : Option Nat) (x : Int32) : Value := match o with
  | some t => .ref (e_ad E t)
  | none => .int x
def flds (E : Ev) (fs : List (Option Nat)) (f : Nat → Int32) : List Value := fs.zipIdx.map fun q => match q.1 with
  | some t => .ref (e_ad E t)
  | none => .int (f q.2)
def ent (E : Ev) (sh : SH) (f : Nat → Int32) : va_E := if sh.1 = 100 then .inl (e_cI E, sh.2.1, .inl f) else if sh.1 = 101 then .inl (e_cZ E, sh.2.1, .inl f) else .inr (sh.1, flds E sh.2.2 f)
def wsOf (E : Ev) (μ : Mem) : va_W := shape.zipIdx.map fun q => (e_ad E q.2, ent E q.1 (μ q.2))
def tysOf (E : Ev) : List (ClassId × FieldType) := [(e_cI E, .int), (e_cZ E, .boolean)]
/-- which cells methods may write -/
def AE (E : Ev) : Nat → Prop := fun q => ∃ k, k < 77 ∧ q = e_ad E k
def cv (E : Ev) : Value → Value
  | .ref k => .ref (e_ad E k)
  | v => v
theorem cv_cat (E : Ev) (v : Value) : (cv E v).category = v.category := by cases v <;> rfl
theorem st_eq (μ : Mem) (k i : Nat) (v : Int32) : st μ k i v k i = v := by simp [st]
theorem st_row (μ : Mem) (k i : Nat) (v : Int32) : st μ k i v k = upd (μ k) i v := by funext j; simp [st, upd]
theorem st_ne (μ : Mem) {k i k' : Nat} (v : Int32) (h : k' ≠ k) : st μ k i v k' = μ k' := by funext j; simp [st, h]
theorem ws_get {E : Ev} {μ : Mem} {k : Nat} {sh : SH} (h : shape[k]? = some sh) : (wsOf E μ)[k]? = some (e_ad E k, ent E sh (μ k)) := by
  simp [wsOf, List.getElem?_map, List.getElem?_zipIdx, h]
theorem ws_set {E : Ev} {μ : Mem} {k i : Nat} {v : Int32} {sh : SH} (h : shape[k]? = some sh) : (wsOf E μ).set k (e_ad E k, ent E sh (upd (μ k) i v)) = wsOf E (st μ k i v) := by
  apply List.ext_getElem?
  intro j
  by_cases hj : j = k
  · subst hj
    have hl : j < (wsOf E μ).length := (List.getElem?_eq_some_iff.mp (ws_get (E := E) (μ := μ) h)).1
    rw [List.getElem?_set_self hl, ws_get h, st_row]
  · rw [List.getElem?_set_ne (Ne.symm hj)]
    simp only [wsOf, List.getElem?_map, List.getElem?_zipIdx]
    cases shape[j]? with
    | none => rfl
    | some q => simp [st_ne μ v hj]
/-- a whole row -/
def str (μ : Mem) (k : Nat) (f : Nat → Int32) : Mem := fun a => if a = k then f else μ a
theorem ws_setr {E : Ev} {μ : Mem} {k : Nat} {f : Nat → Int32} {sh : SH} (h : shape[k]? = some sh) : (wsOf E μ).set k (e_ad E k, ent E sh f) = wsOf E (str μ k f) := by
  apply List.ext_getElem?
  intro j
  by_cases hj : j = k
  · subst hj
    have hl : j < (wsOf E μ).length := (List.getElem?_eq_some_iff.mp (ws_get (E := E) (μ := μ) h)).1
    rw [List.getElem?_set_self hl, ws_get h]; simp [str]
  · rw [List.getElem?_set_ne (Ne.symm hj)]
    simp only [wsOf, List.getElem?_map, List.getElem?_zipIdx]
    cases shape[j]? with
    | none => rfl
    | some q => simp [str, hj]
theorem ws_addr {E : Ev} {μ : Mem} {k : Nat} {q : Nat × va_E} (h : (wsOf E μ)[k]? = some q) : k < 77 ∧ q.1 = e_ad E k := by
  have hl := (List.getElem?_eq_some_iff.mp h).1
  have h2 : (wsOf E μ).length = 77 := by simp [wsOf, shape_len]
  simp only [wsOf, List.getElem?_map, List.getElem?_zipIdx] at h
  cases hs : shape[k]? with
  | none => simp [hs] at h
  | some x => simp [hs] at h; exact ⟨by omega, by rw [← h]⟩
theorem ws_D {E : Ev} {μ : Mem} {A : Nat → Prop} (hi : ∀ i j, i < 77 → j < 77 → e_ad E i = e_ad E j → i = j) (hA : ∀ k, k < 77 → A (e_ad E k)) : va_D A (wsOf E μ) :=
  ⟨fun i j p q hp hq h => hi i j (ws_addr hp).1 (ws_addr hq).1 (by rw [← (ws_addr hp).2, ← (ws_addr hq).2]; exact h), fun k q hk => by rw [(ws_addr hk).2]; exact hA k (ws_addr hk).1⟩
theorem flds_get {E : Ev} {fs : List (Option Nat)} {f : Nat → Int32} {i : Nat} {o : Option Nat} (h : fs[i]? = some o) : (flds E fs f)[i]? = some (fv E o (f i)) := by
  simp [flds, List.getElem?_map, List.getElem?_zipIdx, h]
  cases o <;> rfl
theorem flds_set {E : Ev} {fs : List (Option Nat)} {f : Nat → Int32} {i : Nat} {v : Int32} (h : fs[i]? = some none) : (flds E fs f).set i (.int v) = flds E fs (upd f i v) := by
  apply List.ext_getElem?
  intro j
  have hl : i < (flds E fs f).length := (List.getElem?_eq_some_iff.mp (flds_get (E := E) (f := f) h)).1
  by_cases hj : j = i
  · subst hj
    rw [List.getElem?_set_self hl, flds_get h]; simp [upd, fv]
  · rw [List.getElem?_set_ne (Ne.symm hj)]
    simp only [flds, List.getElem?_map, List.getElem?_zipIdx]
    cases fs[j]? with
    | none => rfl
    | some q => cases q <;> simp [upd, hj]
def lw_good : List Cond := lw_tbl.filter goodWord
theorem mg {w : Cond} (h : w ∈ lw_tbl) (g : goodWord w = true) : w ∈ lw_good := List.mem_filter.mpr ⟨h, g⟩
theorem good_in {w : Cond} (h : w ∈ lw_good) : w ∈ lw_tbl ∧ goodWord w = true := List.mem_filter.mp h
def isNest : Cond → Bool
  | .methodLinkNest .. => true
  | _ => false
/-- the tables' words for calls of a nest mate's private members -/
def NW (s : State) : Prop := (∀ own idx y host, Cond.methodLinkNest own idx y host ∈ lw_tbl → va_Nw (.methodLinkNest own idx y host) s) ∧ ∀ own idx a b c host, Cond.fieldLinkNest own idx a b c host ∈ lw_tbl → va_Nw (.fieldLinkNest own idx a b c host) s
theorem NW.warm {s U : State} (hW : s.WarmedH U.vm) (h : NW s) : NW U := ⟨fun own idx y host hw => va_Nw.warmM hW (h.1 own idx y host hw), fun own idx a b c host hw => va_Nw.warmF hW (h.2 own idx a b c host hw)⟩
theorem NW.same {s U : State} (hv : s.vm = U.vm) (h : NW s) : NW U := ⟨fun own idx y host hw => va_Nw.same rfl hv (h.1 own idx y host hw), fun own idx a b c host hw => va_Nw.same rfl hv (h.2 own idx a b c host hw)⟩

/-! statics: the tables ABOVE (77), BODIES (78), String constants (80 + i; their bytes 90 + i) -/
def tabA : Nat → Int32 := fun j => ([-1, 0, 0, 0, 1, 2, 3] : List Int32).getD j 0
def tabB : Nat → Int32 := fun j => ([1, 2, 3, 11, 0, 0, 0, 21, 0, 0, 0, 31, 0, 0, 41, 51, 0, 0, 0, 61, 0] : List Int32).getD j 0

def lenS : List Nat := [4, 4, 4, 6, 3, 5, 5, 5]
def bytS : List (List Int32) := [[112, 97, 115, 115], [100, 114, 97, 119], [104, 111, 108, 100], [112, 107, 120, 108, 102, 121], [60, 61, 62], [112, 97, 115, 115, 32], [100, 114, 97, 119, 32], [104, 111, 108, 100, 32]]
def refS : List (String × Nat × String × Nat) := [(RX5, 35, "pass", 0), (RX5, 37, "draw", 1), (RX5, 39, "hold", 2), (RX5, 85, "pkxlfy", 3), (RX5, 91, "<=>", 4), (RX9, 108, "pass ", 5), (RX9, 114, "draw ", 6), (RX9, 119, "hold ", 7), (RX9, 90, "pkxlfy", 3), (RX9, 96, "<=>", 4)]
def STa (E : Ev) (A : Nat → Prop) (s : State) (H : Heap) : Prop :=
  va_Z RX8 "ABOVE" "[I" (.ref (e_ad E 77)) A s H ∧ va_T .int (e_ad E 77) 7 (fun j => .int (tabA j)) A s H ∧
  va_Z RX1 "BODIES" "[I" (.ref (e_ad E 78)) A s H ∧ va_T .int (e_ad E 78) 21 (fun j => .int (tabB j)) A s H ∧
  va_Z "java/lang/String" "COMPACT_STRINGS" "Z" (.int 1) A s H ∧
  (va_Z "jdk/internal/util/Preconditions" "SIOOBE_FORMATTER" "Ljava/util/function/BiFunction;" .null A s H ∨ va_Z "jdk/internal/util/Preconditions" "SIOOBE_FORMATTER" "Ljava/util/function/BiFunction;" (.ref (e_ad E 79)) A s H) ∧
  vk_S 8 lenS bytS (fun i => e_ad E (80 + i)) (fun i => e_ad E (90 + i)) A s H ∧ ∀ q ∈ refS, vk_R q.1 q.2.1 q.2.2.1 (e_ad E (80 + q.2.2.2)) s
theorem STa.mv {E : Ev} {A : Nat → Prop} {s U : State} {H : Heap} (hv : s.vm.Alike U.vm) (hk : ∀ own k tx a, vk_R own k tx a s → vk_R own k tx a U) (h : STa E A s H) : STa E A U H := by
  obtain ⟨h1, h2, h3, h4, h5, h6, h7, h8⟩ := h
  exact ⟨h1.moved hv, h2.moved hv, h3.moved hv, h4.moved hv, h5.moved hv, h6.imp (fun h => h.moved hv) (fun h => h.moved hv), h7.moved hv, fun q hq => hk _ _ _ _ (h8 q hq)⟩
theorem STa.warm {E : Ev} {A : Nat → Prop} {s U : State} {H : Heap} (hW : s.WarmedH U.vm) (h : STa E A s H) : STa E A U H := h.mv hW.alike (fun _ _ _ _ h => h.warm hW)
theorem STa.same {E : Ev} {A : Nat → Prop} {s U : State} {H : Heap} (hv : U.vm = s.vm) (h : STa E A s H) : STa E A U H := h.mv (by rw [hv]; exact Vm.Alike.refl _) (fun _ _ _ _ h => h.same hv)
theorem STa.kept {E : Ev} {A : Nat → Prop} {s : State} {H H1 : Heap} (h : STa E A s H) (hq : ∀ a : Nat, a < H.size → ¬ A a → H1[a]? = H[a]?) : STa E A s H1 := by
  obtain ⟨h1, h2, h3, h4, h5, h6, h7, h8⟩ := h
  exact ⟨h1.kept hq, h2.kept hq, h3.kept hq, h4.kept hq, h5.kept hq, h6.imp (fun h => h.kept hq) (fun h => h.kept hq), h7.kept hq, h8⟩
theorem STa.narrow {E : Ev} {A B : Nat → Prop} {s : State} {H : Heap} (h : STa E A s H) (hAB : ∀ q, B q → A q) : STa E B s H := by
  obtain ⟨h1, h2, h3, h4, h5, h6, h7, h8⟩ := h
  exact ⟨h1.narrow hAB, h2.narrow hAB, h3.narrow hAB, h4.narrow hAB, h5.narrow hAB, h6.imp (fun h => h.narrow hAB) (fun h => h.narrow hAB), h7.narrow hAB, h8⟩

/-- what the tables and the statics give at a state -/
def KX (E : Ev) (A : Nat → Prop) (s : State) (H : Heap) : Prop := va_K (e_D E) vwCl (tysOf E) s ∧ NW s ∧ STa E A s H
theorem KX.moved {E : Ev} {A : Nat → Prop} {s U : State} {H : Heap} (hW : s.WarmedH U.vm) (h : KX E A s H) : KX E A U H := ⟨va_K.moved hW.alike h.1, h.2.1.warm hW, h.2.2.warm hW⟩
theorem KX.same {E : Ev} {A : Nat → Prop} {s U : State} {H : Heap} (hv : U.vm = s.vm) (h : KX E A s H) : KX E A U H := ⟨va_K.moved (u := s) (U := U) (by rw [hv]; exact Vm.Alike.refl _) h.1, h.2.1.same hv.symm, h.2.2.same hv⟩
theorem KX.kept {E : Ev} {A : Nat → Prop} {s : State} {H H1 : Heap} (h : KX E A s H) (hq : ∀ a : Nat, a < H.size → ¬ A a → H1[a]? = H[a]?) : KX E A s H1 := ⟨h.1, h.2.1, h.2.2.kept hq⟩
theorem KX.narrow {E : Ev} {A B : Nat → Prop} {s : State} {H : Heap} (h : KX E A s H) (hAB : ∀ q, B q → A q) : KX E B s H := ⟨h.1, h.2.1, h.2.2.narrow hAB⟩
/-- E: its addresses are apart -/
def EOK (E : Ev) : Prop := ∀ i j, i < 77 → j < 77 → e_ad E i = e_ad E j → i = j
abbrev Cx : Type := Program × Env × Room × State × MethodId × Array Value × List Frame × Method × Code × (Addr → Prop) × Nat × Nat × (State → Prop)
def g_p (Γ : Cx) := Γ.1
def g_e (Γ : Cx) := Γ.2.1
def g_R (Γ : Cx) := Γ.2.2.1
def g_s (Γ : Cx) := Γ.2.2.2.1
def g_m (Γ : Cx) := Γ.2.2.2.2.1
def g_args (Γ : Cx) := Γ.2.2.2.2.2.1
def g_below (Γ : Cx) := Γ.2.2.2.2.2.2.1
def g_meth (Γ : Cx) := Γ.2.2.2.2.2.2.2.1
def g_c (Γ : Cx) := Γ.2.2.2.2.2.2.2.2.1
def g_A (Γ : Cx) := Γ.2.2.2.2.2.2.2.2.2.1
def g_cells (Γ : Cx) := Γ.2.2.2.2.2.2.2.2.2.2.1
def g_slots (Γ : Cx) := Γ.2.2.2.2.2.2.2.2.2.2.2.1
def g_Z (Γ : Cx) := Γ.2.2.2.2.2.2.2.2.2.2.2.2
def OKc (E : Ev) (Γ : Cx) (cc : ByteArray) (nL : Nat) (own : String) (d : Nat) : Prop :=
  (g_p Γ).tables.exec = Jvm.exec ∧ (g_c Γ).code = cc ∧ (g_c Γ).maxLocals = nL ∧ (g_s Γ).vm.findClass own = some (g_m Γ).cls ∧ (∀ w ∈ lw_good, w.before (g_args Γ) (g_s Γ) = true) ∧ (d ≤ (g_R Γ).frames ∧ 64 * d ≤ (g_R Γ).locals ∧ g_cells Γ ≤ (g_R Γ).cells ∧ g_slots Γ ≤ (g_R Γ).slots) ∧ KX E (g_A Γ) (g_s Γ) (g_s Γ).heap ∧ EOK E ∧ ∀ k, k < 77 → g_A Γ (e_ad E k)
def lh (ls : Array Slot) (nL : Nat) (L : List Value) : Prop := ls.size = nL ∧ lv_wf ls ∧ ∀ (i : Nat) (v : Value), L[i]? = some v → v ≠ .null → ls[i]? = some (.val v)
def CW (E : Ev) (Γ : Cx) (cc : ByteArray) (nL : Nat) (own : String) (d pc : Nat) (L S : List Value) (μ : Mem) : Prop :=
  OKc E Γ cc nL own d → ∀ (H : Heap) (locs : List Loc) (ls : Array Slot), va_P (e_D E) vwCl (wsOf E μ) H → va_S (g_A Γ) (g_s Γ).heap H locs → lh ls nL (L.map (cv E)) →
    W (g_p Γ) (e_l E) (g_e Γ) (g_R Γ) (g_s Γ) (g_m Γ) (g_args Γ) (g_below Γ) (g_meth Γ) (g_c Γ) H locs (g_cells Γ) (g_slots Γ) (g_Z Γ) (F0 (g_m Γ) pc ls (S.map (cv E)))
def PcOf (E : Ev) (vs : List Value) (μ : Mem) : Array Value → State → Prop := va_Pc (vs.map (cv E)) (fun U => KX E (AE E) U U.heap ∧ va_P (e_D E) vwCl (wsOf E μ) U.heap ∧ EOK E)
def QcOf (E : Ev) (Q : Option Value → Mem → Prop) : Array Value → State → Outcome → State → Prop := fun _ s0 oc t => (∃ (r : Option Value) (μ' : Mem), oc = .returned (r.map (cv E)) ∧ Q r μ' ∧ va_P (e_D E) vwCl (wsOf E μ') t.heap) ∧ va_F (AE E) s0 t
def rmOf (d : Nat) : Room := { frames := d, cells := 0, slots := 0, locals := 64 * d }
/-- y, from these arguments and this memory, returns what Q says (its calls nest at most d deep) -/
def AM (E : Ev) (y : MethodName) (cc : ByteArray) (nL : Nat) (ret : Option FieldType) (d : Nat) (vs : List Value) (μ : Mem) (Q : Option Value → Mem → Prop) : Prop :=
  Met (e_l E) y (.code y cc nL ret :: lw_good) (rmOf d) (PcOf E vs μ) (QcOf E Q) 0 0 (AE E)
theorem AM.mono {E : Ev} {y : MethodName} {cc : ByteArray} {nL : Nat} {ret : Option FieldType} {d : Nat} {vs : List Value} {μ : Mem} {Q Q' : Option Value → Mem → Prop} (h : AM E y cc nL ret d vs μ Q) (hQ : ∀ r μ', Q r μ' → Q' r μ') : AM E y cc nL ret d vs μ Q' :=
by
  unfold AM Met at h ⊢
  refine MetFree.mono h (fun _ _ x => x) (fun _ _ _ _ _ x => x) (fun a s o t _ hq => ?_)
  obtain ⟨⟨⟨r, μ', h1, h2, h3⟩, h4⟩, h5⟩ := hq
  exact ⟨⟨⟨r, μ', h1, hQ r μ' h2, h3⟩, h4⟩, h5⟩
/-- the method's end -/
def RT (E : Ev) (Γ : Cx) (ret : Option FieldType) (Q : Option Value → Mem → Prop) : Prop :=
  (g_meth Γ).sig.returnType = ret ∧ (g_meth Γ).locks = false ∧ g_A Γ = AE E ∧ g_cells Γ = 0 ∧ g_slots Γ = 0 ∧ g_Z Γ = MQ (g_below Γ) (QcOf E Q) (g_args Γ) (g_s Γ) 0 0 (AE E)
def argL : List Value → List Value
  | [] => []
  | v :: vs => if v.category = 2 then v :: .null :: argL vs else v :: argL vs
theorem argL_lh (vs : List Value) : ∀ (i : Nat) (ls : Array Slot), (∀ q ∈ lv_args i vs, ls[q.1]? = some (.val q.2)) → ∀ (j : Nat) (v : Value), (argL vs)[j]? = some v → v ≠ .null → ls[i + j]? = some (.val v) := by
  induction vs with
  | nil => intro i ls _ j v h; simp [argL] at h
  | cons a vs ih =>
    intro i ls h j v hj hv
    have h0 := h (i, a) (by simp [lv_args])
    by_cases hc : a.category = 2
    · simp only [lv_args, hc, if_true] at h
      have h1 := ih (i + 2) ls (fun q hq => h q (List.mem_cons_of_mem _ hq))
      simp only [argL, hc, if_true] at hj
      match j, hj with
      | 0, hj => simp at hj; subst hj; exact h0
      | 1, hj => simp at hj; exact absurd hj.symm hv
      | j + 2, hj =>
        have := h1 j v (by simpa using hj) hv
        rw [show i + (j + 2) = i + 2 + j by omega]; exact this
    · simp only [lv_args, hc, if_false] at h
      have h1 := ih (i + 1) ls (fun q hq => h q (List.mem_cons_of_mem _ hq))
      simp only [argL, hc, if_false] at hj
      match j, hj with
      | 0, hj => simp at hj; subst hj; exact h0
      | j + 1, hj =>
        have := h1 j v (by simpa using hj) hv
        rw [show i + (j + 1) = i + 1 + j by omega]; exact this
theorem argL_cv (E : Ev) (vs : List Value) : argL (vs.map (cv E)) = (argL vs).map (cv E) := by
  induction vs with
  | nil => rfl
  | cons a vs ih =>
    simp only [List.map_cons, argL, cv_cat]
    by_cases hc : a.category = 2
    · simp [hc, ih, cv]
    · simp [hc, ih]
theorem sl_len (vs : List Value) : (lg_sl vs).length = (argL vs).length := by
  induction vs with
  | nil => rfl
  | cons a vs ih =>
    have e : lg_sl (a :: vs) = (if a.category = 2 then [.val a, .second] else [.val a]) ++ lg_sl vs := by simp [lg_sl]
    rw [e]
    by_cases hc : a.category = 2
    · simp [hc, argL, ih]
    · simp [hc, argL, ih]
theorem am_of {E : Ev} {y : MethodName} {cc : ByteArray} {nL : Nat} {ret : Option FieldType} {own : String} {d : Nat} {vs : List Value} {L : List Value} {μ : Mem} {Q : Option Value → Mem → Prop}
    (hy : plainName y.cls = true) (hown : y.cls = own) (hn : (argL vs).length ≤ nL) (hL : argL vs ++ List.replicate (nL - (argL vs).length) .null = L)
    (k : ∀ Γ, RT E Γ ret Q → CW E Γ cc nL own d 0 L [] μ) : AM E y cc nL ret d vs μ Q := by
  refine Met.ofW (cc := cc) (maxL := nL) (ret := ret) hy rfl ?_
  intro p e s m args below meth c s₁ B hml hv
  obtain ⟨rfl, hKX, hP, hE⟩ := hv
  have hts := atoms_spec B.pre
  have C := k (p, e, rmOf d, s, m, (vs.map (cv E)).toArray, below, meth, c, AE E, 0, 0, MQ below (QcOf E Q) (vs.map (cv E)).toArray s 0 0 (AE E)) ⟨B.returns, B.notSynchronized, rfl, rfl, rfl, rfl⟩
    ⟨B.exec, B.bytes, hml, by rw [← hown]; exact findClass_of_methodNamed B.named, fun w hw => hts w (List.mem_cons_of_mem _ hw), ⟨Nat.le_refl _, Nat.le_refl _, Nat.le_refl _, Nat.le_refl _⟩, hKX, hE, fun k hk => ⟨k, hk, rfl⟩⟩
    s.heap []
  rw [lg_entry_eq]
  have hlen : (lg_sl (vs.map (cv E))).length ≤ nL := by rw [sl_len, argL_cv, List.length_map]; exact hn
  have hl := lv_entry (vs.map (cv E)) (n := nL) hlen
  refine C _ hP va_S.rf ⟨hl.1, hl.2.1, fun i v h1 h2 => ?_⟩
  rw [← hL, List.map_append, ← argL_cv] at h1
  by_cases hi : i < (argL (vs.map (cv E))).length
  · rw [List.getElem?_append_left hi] at h1
    have := argL_lh (vs.map (cv E)) 0 _ hl.2.2 i v h1 h2
    simpa using this
  · rw [List.getElem?_append_right (by omega)] at h1
    simp only [List.map_replicate] at h1
    rw [List.getElem?_replicate] at h1
    split at h1
    · cases h1; exact absurd rfl h2
    · cases h1

section CWrows
variable {E : Ev} {Γ : Cx} {cc : ByteArray} {nL : Nat} {own : String} {d pc : Nat} {L S : List Value} {μ : Mem} {ret : Option FieldType} {Q : Option Value → Mem → Prop}
theorem lh.at {ls : Array Slot} (h : lh ls nL (L.map (cv E))) {i : Nat} {v : Value} (hi : L[i]? = some v) (hv : cv E v ≠ .null) : ls[i]? = some (.val (cv E v)) := h.2.2 i _ (by rw [List.getElem?_map, hi]; rfl) hv
/-- no long stands just ahead of i -/
def noL (L : List Value) (i : Nat) : Bool := match i with
  | 0 => true
  | i + 1 => match L[i]? with
    | some (.long _) => false
    | some (.double _) => false
    | _ => true
theorem lh.set1 {ls : Array Slot} (h : lh ls nL (L.map (cv E))) {i : Nat} {v : Value} (hi : i < nL) (hc : v.category = 1) (hno : noL L i = true) : ∃ ls', setAt ls i (.val (cv E v)) = some ls' ∧ True := by
  obtain ⟨l', h1, -⟩ := lv_set (.val (cv E v)) (l := ls) (i := i) (by rw [h.1]; exact hi)
  exact ⟨l', h1, trivial⟩

theorem cw_iadd {x y : Int32} (hd : decode cc pc = .ok (.iadd, 1)) (k : CW E Γ cc nL own d (pc + 1) L (.int (x + y) :: S) μ) : CW E Γ cc nL own d pc L (.int y :: .int x :: S) μ :=
  fun C H locs ls hP hS hl => lv_iadd C.1 C.2.1 hd (k C H locs ls hP hS hl)
theorem cw_isub {x y : Int32} (hd : decode cc pc = .ok (.isub, 1)) (k : CW E Γ cc nL own d (pc + 1) L (.int (x - y) :: S) μ) : CW E Γ cc nL own d pc L (.int y :: .int x :: S) μ :=
  fun C H locs ls hP hS hl => lv_isub C.1 C.2.1 hd (k C H locs ls hP hS hl)
theorem cw_imul {x y : Int32} (hd : decode cc pc = .ok (.imul, 1)) (k : CW E Γ cc nL own d (pc + 1) L (.int (x * y) :: S) μ) : CW E Γ cc nL own d pc L (.int y :: .int x :: S) μ :=
  fun C H locs ls hP hS hl => lv_imul C.1 C.2.1 hd (k C H locs ls hP hS hl)
theorem cw_iand {x y : Int32} (hd : decode cc pc = .ok (.iand, 1)) (k : CW E Γ cc nL own d (pc + 1) L (.int (x &&& y) :: S) μ) : CW E Γ cc nL own d pc L (.int y :: .int x :: S) μ :=
  fun C H locs ls hP hS hl => lv_iand C.1 C.2.1 hd (k C H locs ls hP hS hl)
theorem cw_ior {x y : Int32} (hd : decode cc pc = .ok (.ior, 1)) (k : CW E Γ cc nL own d (pc + 1) L (.int (x ||| y) :: S) μ) : CW E Γ cc nL own d pc L (.int y :: .int x :: S) μ :=
  fun C H locs ls hP hS hl => lv_ior C.1 C.2.1 hd (k C H locs ls hP hS hl)
theorem cw_ixor {x y : Int32} (hd : decode cc pc = .ok (.ixor, 1)) (k : CW E Γ cc nL own d (pc + 1) L (.int (x ^^^ y) :: S) μ) : CW E Γ cc nL own d pc L (.int y :: .int x :: S) μ :=
  fun C H locs ls hP hS hl => lv_ixor C.1 C.2.1 hd (k C H locs ls hP hS hl)
theorem cw_ishl {x y : Int32} (hd : decode cc pc = .ok (.ishl, 1)) (k : CW E Γ cc nL own d (pc + 1) L (.int (x <<< (y &&& 31)) :: S) μ) : CW E Γ cc nL own d pc L (.int y :: .int x :: S) μ :=
  fun C H locs ls hP hS hl => lv_ishl C.1 C.2.1 hd (k C H locs ls hP hS hl)
theorem cw_ishr {x y : Int32} (hd : decode cc pc = .ok (.ishr, 1)) (k : CW E Γ cc nL own d (pc + 1) L (.int (x >>> (y &&& 31)) :: S) μ) : CW E Γ cc nL own d pc L (.int y :: .int x :: S) μ :=
  fun C H locs ls hP hS hl => lv_ishr C.1 C.2.1 hd (k C H locs ls hP hS hl)
theorem cw_iushr {x y : Int32} (hd : decode cc pc = .ok (.iushr, 1)) (k : CW E Γ cc nL own d (pc + 1) L (.int ((x.toUInt32 >>> (y.toUInt32 &&& Int32.toUInt32 31)).toInt32) :: S) μ) : CW E Γ cc nL own d pc L (.int y :: .int x :: S) μ :=
  fun C H locs ls hP hS hl => lv_iushr C.1 C.2.1 hd rfl (k C H locs ls hP hS hl)
theorem cw_idiv {x y : Int32} (hd : decode cc pc = .ok (.idiv, 1)) (hne : ¬ y = 0) (k : CW E Γ cc nL own d (pc + 1) L (.int (x / y) :: S) μ) : CW E Γ cc nL own d pc L (.int y :: .int x :: S) μ :=
  fun C H locs ls hP hS hl => lv_idiv C.1 C.2.1 hd hne (k C H locs ls hP hS hl)
theorem cw_irem {x y : Int32} (hd : decode cc pc = .ok (.irem, 1)) (hne : ¬ y = 0) (k : CW E Γ cc nL own d (pc + 1) L (.int (x - x / y * y) :: S) μ) : CW E Γ cc nL own d pc L (.int y :: .int x :: S) μ :=
  fun C H locs ls hP hS hl => lv_irem C.1 C.2.1 hd hne (k C H locs ls hP hS hl)
theorem cw_ineg {x : Int32} (hd : decode cc pc = .ok (.ineg, 1)) (k : CW E Γ cc nL own d (pc + 1) L (.int (-x) :: S) μ) : CW E Γ cc nL own d pc L (.int x :: S) μ :=
  fun C H locs ls hP hS hl => lv_ineg C.1 C.2.1 hd (k C H locs ls hP hS hl)
theorem cw_ladd {x y : Int64} (hd : decode cc pc = .ok (.ladd, 1)) (k : CW E Γ cc nL own d (pc + 1) L (.long (x + y) :: S) μ) : CW E Γ cc nL own d pc L (.long y :: .long x :: S) μ :=
  fun C H locs ls hP hS hl => lv_ladd C.1 C.2.1 hd (k C H locs ls hP hS hl)
theorem cw_ldiv {x y : Int64} (hd : decode cc pc = .ok (.ldiv, 1)) (hne : ¬ y = 0) (k : CW E Γ cc nL own d (pc + 1) L (.long (x / y) :: S) μ) : CW E Γ cc nL own d pc L (.long y :: .long x :: S) μ :=
  fun C H locs ls hP hS hl => lv_ldiv C.1 C.2.1 hd hne (k C H locs ls hP hS hl)
theorem cw_lrem {x y : Int64} (hd : decode cc pc = .ok (.lrem, 1)) (hne : ¬ y = 0) (k : CW E Γ cc nL own d (pc + 1) L (.long (x - x / y * y) :: S) μ) : CW E Γ cc nL own d pc L (.long y :: .long x :: S) μ :=
  fun C H locs ls hP hS hl => lv_lrem C.1 C.2.1 hd hne (k C H locs ls hP hS hl)
theorem cw_lneg {x : Int64} (hd : decode cc pc = .ok (.lneg, 1)) (k : CW E Γ cc nL own d (pc + 1) L (.long (-x) :: S) μ) : CW E Γ cc nL own d pc L (.long x :: S) μ :=
  fun C H locs ls hP hS hl => lv_lneg C.1 C.2.1 hd (k C H locs ls hP hS hl)
theorem cw_lcmp {x y : Int64} (hd : decode cc pc = .ok (.lcmp, 1)) (k : CW E Γ cc nL own d (pc + 1) L (.int (lg_cmp x y) :: S) μ) : CW E Γ cc nL own d pc L (.long y :: .long x :: S) μ :=
  fun C H locs ls hP hS hl => W.lcmp C.1 C.2.1 hd (k C H locs ls hP hS hl)
theorem cw_i2l {x : Int32} (hd : decode cc pc = .ok (.i2l, 1)) (k : CW E Γ cc nL own d (pc + 1) L (.long x.toInt64 :: S) μ) : CW E Γ cc nL own d pc L (.int x :: S) μ :=
  fun C H locs ls hP hS hl => lv_i2l C.1 C.2.1 hd rfl (k C H locs ls hP hS hl)
theorem cw_iconst {n : Int} {v : Int32} (hd : decode cc pc = .ok (.iconst n, 1)) (hv : Int32.ofInt n = v) (k : CW E Γ cc nL own d (pc + 1) L (.int v :: S) μ) : CW E Γ cc nL own d pc L (S) μ :=
  fun C H locs ls hP hS hl => lv_iconst C.1 C.2.1 hd hv (k C H locs ls hP hS hl)
theorem cw_bipush {n : Int} {v : Int32} (hd : decode cc pc = .ok (.bipush n, 2)) (hv : (Int8.ofInt n).toInt32 = v) (k : CW E Γ cc nL own d (pc + 2) L (.int v :: S) μ) : CW E Γ cc nL own d pc L (S) μ :=
  fun C H locs ls hP hS hl => lv_bipush C.1 C.2.1 hd hv (k C H locs ls hP hS hl)
theorem cw_sipush {n : Int} {v : Int32} (hd : decode cc pc = .ok (.sipush n, 3)) (hv : (Int16.ofInt n).toInt32 = v) (k : CW E Γ cc nL own d (pc + 3) L (.int v :: S) μ) : CW E Γ cc nL own d pc L (S) μ :=
  fun C H locs ls hP hS hl => lv_sipush C.1 C.2.1 hd hv (k C H locs ls hP hS hl)
theorem cw_lconst {n : Fin 2} {v : Int64} (hd : decode cc pc = .ok (.lconst n, 1)) (hv : Int64.ofNat (n : Nat) = v) (k : CW E Γ cc nL own d (pc + 1) L (.long v :: S) μ) : CW E Γ cc nL own d pc L (S) μ :=
  fun C H locs ls hP hS hl => lv_lconst C.1 C.2.1 hd hv (k C H locs ls hP hS hl)
theorem cw_dup {v : Value} (hd : decode cc pc = .ok (.dup, 1)) (hv : v.category = 1) (k : CW E Γ cc nL own d (pc + 1) L (v :: v :: S) μ) : CW E Γ cc nL own d pc L (v :: S) μ :=
  fun C H locs ls hP hS hl => lv_dup C.1 C.2.1 hd (by rw [cv_cat]; exact hv) (k C H locs ls hP hS hl)
theorem cw_pop {v : Value} (hd : decode cc pc = .ok (.pop, 1)) (hv : v.category = 1) (k : CW E Γ cc nL own d (pc + 1) L (S) μ) : CW E Γ cc nL own d pc L (v :: S) μ :=
  fun C H locs ls hP hS hl => lv_pop C.1 C.2.1 hd (by rw [cv_cat]; exact hv) (k C H locs ls hP hS hl)
theorem cw_dup2 {v w : Value} (hd : decode cc pc = .ok (.dup2, 1)) (hv : v.category = 1) (hw : w.category = 1) (k : CW E Γ cc nL own d (pc + 1) L (v :: w :: v :: w :: S) μ) : CW E Γ cc nL own d pc L (v :: w :: S) μ :=
  fun C H locs ls hP hS hl => lv_dup2_11 C.1 C.2.1 hd (by rw [cv_cat]; exact hv) (by rw [cv_cat]; exact hw) (k C H locs ls hP hS hl)
theorem cw_dup_x1 {v w : Value} (hd : decode cc pc = .ok (.dup_x1, 1)) (hv : v.category = 1) (hw : w.category = 1) (k : CW E Γ cc nL own d (pc + 1) L (v :: w :: v :: S) μ) : CW E Γ cc nL own d pc L (v :: w :: S) μ :=
  fun C H locs ls hP hS hl => lv_dup_x1 C.1 C.2.1 hd (by rw [cv_cat]; exact hv) (by rw [cv_cat]; exact hw) (k C H locs ls hP hS hl)
theorem cw_dup_x2 {v w z : Value} (hd : decode cc pc = .ok (.dup_x2, 1)) (hv : v.category = 1) (hw : w.category = 1) (hz : z.category = 1) (k : CW E Γ cc nL own d (pc + 1) L (v :: w :: z :: v :: S) μ) : CW E Γ cc nL own d pc L (v :: w :: z :: S) μ :=
  fun C H locs ls hP hS hl => lv_dup_x2 C.1 C.2.1 hd (by rw [cv_cat]; exact hv) (by rw [cv_cat]; exact hw) (by rw [cv_cat]; exact hz) (k C H locs ls hP hS hl)
theorem cw_iload_n {n : Fin 4} {i : Nat} {x : Int32} (hd : decode cc pc = .ok (.iload_n n, 1)) (hi : (n : Nat) = i) (hv : L[i]? = some (.int x)) (k : CW E Γ cc nL own d (pc + 1) L (.int x :: S) μ) : CW E Γ cc nL own d pc L S μ :=
  fun C H locs ls hP hS hl => lv_iload_n C.1 C.2.1 hd hi (hl.at hv (fun h => by cases h)) (k C H locs ls hP hS hl)
theorem cw_iload {i : Nat} {x : Int32} (hd : decode cc pc = .ok (.iload i, 2)) (hv : L[i]? = some (.int x)) (k : CW E Γ cc nL own d (pc + 2) L (.int x :: S) μ) : CW E Γ cc nL own d pc L S μ :=
  fun C H locs ls hP hS hl => lv_iload C.1 C.2.1 hd (hl.at hv (fun h => by cases h)) (k C H locs ls hP hS hl)
theorem cw_lload_n {n : Fin 4} {i : Nat} {x : Int64} (hd : decode cc pc = .ok (.lload_n n, 1)) (hi : (n : Nat) = i) (hv : L[i]? = some (.long x)) (k : CW E Γ cc nL own d (pc + 1) L (.long x :: S) μ) : CW E Γ cc nL own d pc L S μ :=
  fun C H locs ls hP hS hl => lv_lload_n C.1 C.2.1 hd hi (hl.at hv (fun h => by cases h)) (k C H locs ls hP hS hl)
theorem cw_lload {i : Nat} {x : Int64} (hd : decode cc pc = .ok (.lload i, 2)) (hv : L[i]? = some (.long x)) (k : CW E Γ cc nL own d (pc + 2) L (.long x :: S) μ) : CW E Γ cc nL own d pc L S μ :=
  fun C H locs ls hP hS hl => lv_lload C.1 C.2.1 hd (hl.at hv (fun h => by cases h)) (k C H locs ls hP hS hl)
theorem cw_aload_n {n : Fin 4} {i : Nat} {x : Nat} (hd : decode cc pc = .ok (.aload_n n, 1)) (hi : (n : Nat) = i) (hv : L[i]? = some (.ref x)) (k : CW E Γ cc nL own d (pc + 1) L (.ref x :: S) μ) : CW E Γ cc nL own d pc L S μ :=
  fun C H locs ls hP hS hl => lv_aload_n C.1 C.2.1 hd hi (hl.at hv (fun h => by cases h)) (k C H locs ls hP hS hl)
theorem cw_aload {i : Nat} {x : Nat} (hd : decode cc pc = .ok (.aload i, 2)) (hv : L[i]? = some (.ref x)) (k : CW E Γ cc nL own d (pc + 2) L (.ref x :: S) μ) : CW E Γ cc nL own d pc L S μ :=
  fun C H locs ls hP hS hl => lv_aload C.1 C.2.1 hd (hl.at hv (fun h => by cases h)) (k C H locs ls hP hS hl)
/-- the locals as the kit lists them -/
def prs (L : List Value) : List (Nat × Value) := (L.zipIdx.filter (fun q => q.1 != .null)).map (fun q => (q.2, q.1))
theorem prs_mem {L : List Value} {i : Nat} {v : Value} : (i, v) ∈ prs L ↔ L[i]? = some v ∧ v ≠ .null := by
  simp only [prs, List.mem_map, List.mem_filter]
  constructor
  · rintro ⟨q, ⟨h1, h2⟩, h3⟩
    cases h3
    exact ⟨List.mem_zipIdx_iff_getElem?.mp h1, by simpa using h2⟩
  · rintro ⟨h1, h2⟩
    exact ⟨(v, i), ⟨List.mem_zipIdx_iff_getElem?.mpr h1, by simpa using h2⟩, rfl⟩
theorem lh_has {ls : Array Slot} : lh ls nL L ↔ lv_has ls nL (prs L) := by
  constructor
  · rintro ⟨h1, h2, h3⟩
    refine ⟨h1, h2, fun q hq => ?_⟩
    obtain ⟨i, v⟩ := q
    exact h3 i v (prs_mem.mp hq).1 (prs_mem.mp hq).2
  · rintro ⟨h1, h2, h3⟩
    exact ⟨h1, h2, fun i v hi hv => h3 (i, v) (prs_mem.mpr ⟨hi, hv⟩)⟩
theorem noL_cat {L : List Value} {i : Nat} (h : noL L i = true) {j : Nat} {v : Value} (hj : j + 1 = i) (hv : L[j]? = some v) : v.category = 1 := by
  subst hj
  simp only [noL, hv] at h
  cases v <;> simp_all [Value.category]
theorem lh.st1 {ls : Array Slot} {i : Nat} {v : Value} (hno : noL L i = true) (h : lv_has ls nL ((i, cv E v) :: (prs (L.map (cv E))).filter (fun q => !(q.1 == i) && !(q.1 + 1 == i && q.2.category == 2)))) : lh ls nL ((L.set i v).map (cv E)) := by
  refine ⟨h.1, h.2.1, fun j w hj hw => ?_⟩
  rw [List.getElem?_map] at hj
  by_cases hji : j = i
  · subst hji
    cases hx : (L.set j v)[j]? with
    | none => rw [hx] at hj; cases hj
    | some z =>
      rw [hx] at hj
      have hl : j < (L.set j v).length := (List.getElem?_eq_some_iff.mp hx).1
      rw [List.getElem?_set_self (by simpa using hl)] at hx
      cases hx; cases hj
      exact h.2.2 (j, cv E v) List.mem_cons_self
  · rw [List.getElem?_set_ne (fun q => hji q.symm)] at hj
    refine h.2.2 (j, w) (List.mem_cons_of_mem _ (List.mem_filter.mpr ⟨prs_mem.mpr ⟨by rw [List.getElem?_map]; exact hj, hw⟩, ?_⟩))
    have h1 : (j == i) = false := by simpa using hji
    simp only [h1, Bool.not_false, Bool.true_and]
    by_cases hj1 : j + 1 = i
    · cases hx : L[j]? with
      | none => rw [hx] at hj; cases hj
      | some z =>
        rw [hx] at hj; cases hj
        have := noL_cat hno hj1 hx
        simp [cv_cat, this]
    · simp [hj1]

theorem cw_istore_n {n : Fin 4} {i : Nat} {x : Int32} {L' : List Value} (hd : decode cc pc = .ok (.istore_n n, 1)) (hi : (n : Nat) = i) (hn : i < nL) (hno : noL L i = true) (hL : L.set i (.int x) = L') (k : CW E Γ cc nL own d (pc + 1) L' S μ) : CW E Γ cc nL own d pc L (.int x :: S) μ :=
  fun C H locs ls hP hS hl => lv_istore_n C.1 C.2.1 hd hi (lh_has.mp hl) hn rfl (fun ls' hl' => k C H locs ls' hP hS (by rw [← hL]; exact lh.st1 (v := .int x) hno hl'))
theorem cw_istore {i : Nat} {x : Int32} {L' : List Value} (hd : decode cc pc = .ok (.istore i, 2)) (hn : i < nL) (hno : noL L i = true) (hL : L.set i (.int x) = L') (k : CW E Γ cc nL own d (pc + 2) L' S μ) : CW E Γ cc nL own d pc L (.int x :: S) μ :=
  fun C H locs ls hP hS hl => lv_istore C.1 C.2.1 hd (lh_has.mp hl) hn rfl (fun ls' hl' => k C H locs ls' hP hS (by rw [← hL]; exact lh.st1 (v := .int x) hno hl'))
theorem cw_astore_n {n : Fin 4} {i : Nat} {x : Nat} {L' : List Value} (hd : decode cc pc = .ok (.astore_n n, 1)) (hi : (n : Nat) = i) (hn : i < nL) (hno : noL L i = true) (hL : L.set i (.ref x) = L') (k : CW E Γ cc nL own d (pc + 1) L' S μ) : CW E Γ cc nL own d pc L (.ref x :: S) μ :=
  fun C H locs ls hP hS hl => lv_astore_n C.1 C.2.1 hd hi (lh_has.mp hl) hn rfl (fun ls' hl' => k C H locs ls' hP hS (by rw [← hL]; exact lh.st1 (v := .ref x) hno hl'))
theorem cw_astore {i : Nat} {x : Nat} {L' : List Value} (hd : decode cc pc = .ok (.astore i, 2)) (hn : i < nL) (hno : noL L i = true) (hL : L.set i (.ref x) = L') (k : CW E Γ cc nL own d (pc + 2) L' S μ) : CW E Γ cc nL own d pc L (.ref x :: S) μ :=
  fun C H locs ls hP hS hl => lv_astore C.1 C.2.1 hd (lh_has.mp hl) hn rfl (fun ls' hl' => k C H locs ls' hP hS (by rw [← hL]; exact lh.st1 (v := .ref x) hno hl'))
theorem lh.st2 {ls : Array Slot} {i : Nat} {x : Int64} (hno : noL L i = true) (h : lv_has ls nL ((i, .long x) :: (prs (L.map (cv E))).filter (fun q => !(q.1 == i) && (!(q.1 == i + 1) && !(q.1 + 1 == i && q.2.category == 2))))) : lh ls nL (((L.set i (.long x)).set (i + 1) .null).map (cv E)) := by
  refine ⟨h.1, h.2.1, fun j w hj hw => ?_⟩
  rw [List.getElem?_map] at hj
  by_cases hj1 : j = i + 1
  · subst hj1
    cases hx : ((L.set i (.long x)).set (i + 1) .null)[i + 1]? with
    | none => rw [hx] at hj; cases hj
    | some z =>
      rw [hx] at hj
      have hl := (List.getElem?_eq_some_iff.mp hx).1
      rw [List.getElem?_set_self (by simpa using hl)] at hx
      cases hx; cases hj
      exact absurd rfl hw
  · rw [List.getElem?_set_ne (fun q => hj1 q.symm)] at hj
    by_cases hji : j = i
    · subst hji
      cases hx : (L.set j (.long x))[j]? with
      | none => rw [hx] at hj; cases hj
      | some z =>
        rw [hx] at hj
        have hl := (List.getElem?_eq_some_iff.mp hx).1
        rw [List.getElem?_set_self (by simpa using hl)] at hx
        cases hx; cases hj
        exact h.2.2 (j, .long x) List.mem_cons_self
    · rw [List.getElem?_set_ne (fun q => hji q.symm)] at hj
      refine h.2.2 (j, w) (List.mem_cons_of_mem _ (List.mem_filter.mpr ⟨prs_mem.mpr ⟨by rw [List.getElem?_map]; exact hj, hw⟩, ?_⟩))
      have h1 : (j == i) = false := by simpa using hji
      have h2 : (j == i + 1) = false := by simpa using hj1
      simp only [h1, h2, Bool.not_false, Bool.true_and]
      by_cases hj1 : j + 1 = i
      · cases hx : L[j]? with
        | none => rw [hx] at hj; cases hj
        | some z =>
          rw [hx] at hj; cases hj
          have := noL_cat hno hj1 hx
          simp [cv_cat, this]
      · simp [hj1]
theorem cw_lstore_n {n : Fin 4} {i : Nat} {x : Int64} {L' : List Value} (hd : decode cc pc = .ok (.lstore_n n, 1)) (hi : (n : Nat) = i) (hn : i + 1 < nL) (hno : noL L i = true) (hL : (L.set i (.long x)).set (i + 1) .null = L') (k : CW E Γ cc nL own d (pc + 1) L' S μ) : CW E Γ cc nL own d pc L (.long x :: S) μ :=
  fun C H locs ls hP hS hl => lv_lstore_n C.1 C.2.1 hd hi (lh_has.mp hl) hn rfl (fun ls' hl' => k C H locs ls' hP hS (by rw [← hL]; exact lh.st2 hno hl'))
theorem cw_lstore {i : Nat} {x : Int64} {L' : List Value} (hd : decode cc pc = .ok (.lstore i, 2)) (hn : i + 1 < nL) (hno : noL L i = true) (hL : (L.set i (.long x)).set (i + 1) .null = L') (k : CW E Γ cc nL own d (pc + 2) L' S μ) : CW E Γ cc nL own d pc L (.long x :: S) μ :=
  fun C H locs ls hP hS hl => lv_lstore C.1 C.2.1 hd (lh_has.mp hl) hn rfl (fun ls' hl' => k C H locs ls' hP hS (by rw [← hL]; exact lh.st2 hno hl'))
theorem cw_iinc {i : Nat} {n : Int} {x v : Int32} {L' : List Value} (hd : decode cc pc = .ok (.iinc i n, 3)) (hx : L[i]? = some (.int x)) (hv : x + Int32.ofInt n = v) (hn : i < nL) (hno : noL L i = true) (hL : L.set i (.int v) = L') (k : CW E Γ cc nL own d (pc + 3) L' S μ) : CW E Γ cc nL own d pc L S μ := by
  intro C H locs ls hP hS hl
  have hm : (i, Value.int x) ∈ prs (L.map (cv E)) := prs_mem.mpr ⟨by rw [List.getElem?_map, hx]; rfl, fun h => by cases h⟩
  obtain ⟨j, hj⟩ := List.getElem?_of_mem hm
  exact lv_iinc C.1 C.2.1 hd (lh_has.mp hl) hj hv hn rfl (fun ls' hl' => k C H locs ls' hP hS (by rw [← hL]; exact lh.st1 (v := .int v) hno hl'))

theorem cw_if_eq {x : Int32} {off : Int} {tgt : Nat} (hd : decode cc pc = .ok (.ifCond .eq off, 3)) (ht : (pc : Int) + off = (tgt : Int)) (kt : x = 0 → CW E Γ cc nL own d tgt L S μ) (kf : ¬ x = 0 → CW E Γ cc nL own d (pc + 3) L S μ) : CW E Γ cc nL own d pc L (.int x :: S) μ :=
  fun C H locs ls hP hS hl => lv_if_eq C.1 C.2.1 hd ht (fun h => kt h C H locs ls hP hS hl) (fun h => kf h C H locs ls hP hS hl)
theorem cw_icmp_eq {x y : Int32} {off : Int} {tgt : Nat} (hd : decode cc pc = .ok (.if_icmp .eq off, 3)) (ht : (pc : Int) + off = (tgt : Int)) (kt : x = y → CW E Γ cc nL own d tgt L S μ) (kf : ¬ x = y → CW E Γ cc nL own d (pc + 3) L S μ) : CW E Γ cc nL own d pc L (.int y :: .int x :: S) μ :=
  fun C H locs ls hP hS hl => lv_icmp_eq C.1 C.2.1 hd ht (fun h => kt h C H locs ls hP hS hl) (fun h => kf h C H locs ls hP hS hl)
theorem cw_if_ne {x : Int32} {off : Int} {tgt : Nat} (hd : decode cc pc = .ok (.ifCond .ne off, 3)) (ht : (pc : Int) + off = (tgt : Int)) (kt : ¬ x = 0 → CW E Γ cc nL own d tgt L S μ) (kf : x = 0 → CW E Γ cc nL own d (pc + 3) L S μ) : CW E Γ cc nL own d pc L (.int x :: S) μ :=
  fun C H locs ls hP hS hl => lv_if_ne C.1 C.2.1 hd ht (fun h => kt h C H locs ls hP hS hl) (fun h => kf h C H locs ls hP hS hl)
theorem cw_icmp_ne {x y : Int32} {off : Int} {tgt : Nat} (hd : decode cc pc = .ok (.if_icmp .ne off, 3)) (ht : (pc : Int) + off = (tgt : Int)) (kt : ¬ x = y → CW E Γ cc nL own d tgt L S μ) (kf : x = y → CW E Γ cc nL own d (pc + 3) L S μ) : CW E Γ cc nL own d pc L (.int y :: .int x :: S) μ :=
  fun C H locs ls hP hS hl => lv_icmp_ne C.1 C.2.1 hd ht (fun h => kt h C H locs ls hP hS hl) (fun h => kf h C H locs ls hP hS hl)
theorem cw_if_lt {x : Int32} {off : Int} {tgt : Nat} (hd : decode cc pc = .ok (.ifCond .lt off, 3)) (ht : (pc : Int) + off = (tgt : Int)) (kt : x < 0 → CW E Γ cc nL own d tgt L S μ) (kf : ¬ x < 0 → CW E Γ cc nL own d (pc + 3) L S μ) : CW E Γ cc nL own d pc L (.int x :: S) μ :=
  fun C H locs ls hP hS hl => lv_if_lt C.1 C.2.1 hd ht (fun h => kt h C H locs ls hP hS hl) (fun h => kf h C H locs ls hP hS hl)
theorem cw_icmp_lt {x y : Int32} {off : Int} {tgt : Nat} (hd : decode cc pc = .ok (.if_icmp .lt off, 3)) (ht : (pc : Int) + off = (tgt : Int)) (kt : x < y → CW E Γ cc nL own d tgt L S μ) (kf : ¬ x < y → CW E Γ cc nL own d (pc + 3) L S μ) : CW E Γ cc nL own d pc L (.int y :: .int x :: S) μ :=
  fun C H locs ls hP hS hl => lv_icmp_lt C.1 C.2.1 hd ht (fun h => kt h C H locs ls hP hS hl) (fun h => kf h C H locs ls hP hS hl)
theorem cw_if_ge {x : Int32} {off : Int} {tgt : Nat} (hd : decode cc pc = .ok (.ifCond .ge off, 3)) (ht : (pc : Int) + off = (tgt : Int)) (kt : 0 ≤ x → CW E Γ cc nL own d tgt L S μ) (kf : ¬ 0 ≤ x → CW E Γ cc nL own d (pc + 3) L S μ) : CW E Γ cc nL own d pc L (.int x :: S) μ :=
  fun C H locs ls hP hS hl => lv_if_ge C.1 C.2.1 hd ht (fun h => kt h C H locs ls hP hS hl) (fun h => kf h C H locs ls hP hS hl)
theorem cw_icmp_ge {x y : Int32} {off : Int} {tgt : Nat} (hd : decode cc pc = .ok (.if_icmp .ge off, 3)) (ht : (pc : Int) + off = (tgt : Int)) (kt : y ≤ x → CW E Γ cc nL own d tgt L S μ) (kf : ¬ y ≤ x → CW E Γ cc nL own d (pc + 3) L S μ) : CW E Γ cc nL own d pc L (.int y :: .int x :: S) μ :=
  fun C H locs ls hP hS hl => lv_icmp_ge C.1 C.2.1 hd ht (fun h => kt h C H locs ls hP hS hl) (fun h => kf h C H locs ls hP hS hl)
theorem cw_if_gt {x : Int32} {off : Int} {tgt : Nat} (hd : decode cc pc = .ok (.ifCond .gt off, 3)) (ht : (pc : Int) + off = (tgt : Int)) (kt : 0 < x → CW E Γ cc nL own d tgt L S μ) (kf : ¬ 0 < x → CW E Γ cc nL own d (pc + 3) L S μ) : CW E Γ cc nL own d pc L (.int x :: S) μ :=
  fun C H locs ls hP hS hl => lv_if_gt C.1 C.2.1 hd ht (fun h => kt h C H locs ls hP hS hl) (fun h => kf h C H locs ls hP hS hl)
theorem cw_icmp_gt {x y : Int32} {off : Int} {tgt : Nat} (hd : decode cc pc = .ok (.if_icmp .gt off, 3)) (ht : (pc : Int) + off = (tgt : Int)) (kt : y < x → CW E Γ cc nL own d tgt L S μ) (kf : ¬ y < x → CW E Γ cc nL own d (pc + 3) L S μ) : CW E Γ cc nL own d pc L (.int y :: .int x :: S) μ :=
  fun C H locs ls hP hS hl => lv_icmp_gt C.1 C.2.1 hd ht (fun h => kt h C H locs ls hP hS hl) (fun h => kf h C H locs ls hP hS hl)
theorem cw_if_le {x : Int32} {off : Int} {tgt : Nat} (hd : decode cc pc = .ok (.ifCond .le off, 3)) (ht : (pc : Int) + off = (tgt : Int)) (kt : x ≤ 0 → CW E Γ cc nL own d tgt L S μ) (kf : ¬ x ≤ 0 → CW E Γ cc nL own d (pc + 3) L S μ) : CW E Γ cc nL own d pc L (.int x :: S) μ :=
  fun C H locs ls hP hS hl => lv_if_le C.1 C.2.1 hd ht (fun h => kt h C H locs ls hP hS hl) (fun h => kf h C H locs ls hP hS hl)
theorem cw_icmp_le {x y : Int32} {off : Int} {tgt : Nat} (hd : decode cc pc = .ok (.if_icmp .le off, 3)) (ht : (pc : Int) + off = (tgt : Int)) (kt : x ≤ y → CW E Γ cc nL own d tgt L S μ) (kf : ¬ x ≤ y → CW E Γ cc nL own d (pc + 3) L S μ) : CW E Γ cc nL own d pc L (.int y :: .int x :: S) μ :=
  fun C H locs ls hP hS hl => lv_icmp_le C.1 C.2.1 hd ht (fun h => kt h C H locs ls hP hS hl) (fun h => kf h C H locs ls hP hS hl)
theorem cw_goto {off : Int} {tgt : Nat} (hd : decode cc pc = .ok (.goto off, 3)) (ht : (pc : Int) + off = (tgt : Int)) (k : CW E Γ cc nL own d tgt L S μ) : CW E Γ cc nL own d pc L S μ :=
  fun C H locs ls hP hS hl => lv_goto C.1 C.2.1 hd ht (k C H locs ls hP hS hl)
theorem cw_tabOut {dflt lo hi : Int} {offs : Array Int} {len : Nat} {x : Int32} {tgt : Nat} (hd : decode cc pc = .ok (.tableswitch dflt lo hi offs, len)) (h : x.toInt < lo ∨ hi < x.toInt) (ht : (pc : Int) + dflt = (tgt : Int)) (k : CW E Γ cc nL own d tgt L S μ) : CW E Γ cc nL own d pc L (.int x :: S) μ :=
  fun C H locs ls hP hS hl => lv_tableOut C.1 C.2.1 hd h ht (k C H locs ls hP hS hl)
theorem cw_tabIn {dflt lo hi : Int} {offs : Array Int} {len : Nat} {x : Int32} {off : Int} {tgt : Nat} (hd : decode cc pc = .ok (.tableswitch dflt lo hi offs, len)) (h1 : ¬ x.toInt < lo) (h2 : ¬ hi < x.toInt) (ho : offs[(x.toInt - lo).toNat]? = some off) (ht : (pc : Int) + off = (tgt : Int)) (k : CW E Γ cc nL own d tgt L S μ) : CW E Γ cc nL own d pc L (.int x :: S) μ :=
  fun C H locs ls hP hS hl => lv_tableIn C.1 C.2.1 hd h1 h2 ho ht (k C H locs ls hP hS hl)
theorem cw_lookup {dflt : Int} {ps : Array (Int × Int)} {len : Nat} {x : Int32} {off : Int} {tgt : Nat} (hd : decode cc pc = .ok (.lookupswitch dflt ps, len)) (hp : (ps.toList.zip (ps.toList.drop 1)).all (fun (a, next) => a.1 < next.1) = true) (ho : Op.lookupswitch.offset ps.toList dflt x.toInt = off) (ht : (pc : Int) + off = (tgt : Int)) (k : CW E Γ cc nL own d tgt L S μ) : CW E Γ cc nL own d pc L (.int x :: S) μ :=
  fun C H locs ls hP hS hl => lv_lookup C.1 C.2.1 hd hp ho ht (k C H locs ls hP hS hl)
theorem cw_ldc {idx : Nat} {v : Int32} (hd : decode cc pc = .ok (.ldc idx, 2)) (hw : Jvm.Cond.constant own idx v ∈ lw_good) (k : CW E Γ cc nL own d (pc + 2) L (.int v :: S) μ) : CW E Γ cc nL own d pc L S μ :=
  fun C H locs ls hP hS hl => lv_ldc C.1 C.2.1 C.2.2.2.1 (C.2.2.2.2.1 _ hw) hd (k C H locs ls hP hS hl)
theorem cw_ldc2 {idx : Nat} {v : Int64} (hd : decode cc pc = .ok (.ldc2_w idx, 3)) (hw : Jvm.Cond.constantLong own idx v ∈ lw_good) (k : CW E Γ cc nL own d (pc + 3) L (.long v :: S) μ) : CW E Γ cc nL own d pc L S μ :=
  fun C H locs ls hP hS hl => lv_ldc2 C.1 C.2.1 C.2.2.2.1 (C.2.2.2.2.1 _ hw) hd (k C H locs ls hP hS hl)
/-- field i of class ci, by entry idx of own's pool -/
def FOK (own : String) (idx ci i : Nat) : Prop := ∃ (C : String) (T : u_T) (N : Nat), vwCl[ci]? = some (C, T, N) ∧ i < N ∧ (∀ w ∈ u_ws C T N, w ∈ lw_good) ∧ Cond.fieldLink own idx (T i).1 (T i).2.1 (T i).2.2.1 ∈ lw_good
theorem ent_obj {E : Ev} {sh : SH} {f : Nat → Int32} (h : sh.1 < 100) : ent E sh f = .inr (sh.1, flds E sh.2.2 f) := by
  simp [ent, show sh.1 ≠ 100 by omega, show sh.1 ≠ 101 by omega]
theorem cw_getf {q idx ci i n : Nat} {fs : List (Option Nat)} {o : Option Nat} (hd : decode cc pc = .ok (.getfield idx, 3)) (hF : FOK own idx ci i) (hs : shape[q]? = some (ci, n, fs)) (hc : ci < 100) (ho : fs[i]? = some o) (k : CW E Γ cc nL own d (pc + 3) L ((match o with | some t => .ref t | none => .int (μ q i)) :: S) μ) : CW E Γ cc nL own d pc L (.ref q :: S) μ := by
  intro C H locs ls hP hS hl
  obtain ⟨Cn, T, N, h1, h2, h3, h4⟩ := hF
  have hw := ws_get (E := E) (μ := μ) hs
  rw [ent_obj hc] at hw
  have kk := k C H locs ls hP hS hl
  refine va_get C.1 C.2.1 C.2.2.2.2.1 h3 C.2.2.2.1 C.2.2.2.2.2.2.1.1 hP q hw h1 i h2 (C.2.2.2.2.1 _ h4) (fun _ h9 => h9) (flds_get ho) hd ?_
  cases o with
  | none => exact kk
  | some t => exact kk
def FNK (own : String) (idx ci i : Nat) : Prop := ∃ (C : String) (T : u_T) (N : Nat) (host : String), vwCl[ci]? = some (C, T, N) ∧ i < N ∧ (∀ w ∈ u_ws C T N, w ∈ lw_good) ∧ Cond.fieldLinkNest own idx (T i).1 (T i).2.1 (T i).2.2.1 host ∈ lw_tbl
theorem cw_getNR {q idx ci i n t : Nat} {fs : List (Option Nat)} (hd : decode cc pc = .ok (.getfield idx, 3)) (hF : FNK own idx ci i) (hs : shape[q]? = some (ci, n, fs)) (hc : ci < 100) (ho : fs[i]? = some (some t)) (k : CW E Γ cc nL own d (pc + 3) L (.ref t :: S) μ) : CW E Γ cc nL own d pc L (.ref q :: S) μ := by
  intro C H locs ls hP hS hl
  obtain ⟨Cn, T, N, host, h1, h2, h3, h4⟩ := hF
  have hw := ws_get (E := E) (μ := μ) hs
  rw [ent_obj hc] at hw
  exact va_getN C.1 C.2.1 C.2.2.2.2.1 h3 C.2.2.2.1 C.2.2.2.2.2.2.1.1 hP q hw h1 i h2 (va_Nw.use rfl (C.2.2.2.2.2.2.1.2.1.2 _ _ _ _ _ _ h4)) (fun _ h9 => h9) (flds_get ho) hd (k C H locs ls hP hS hl)
theorem cw_getI {q idx ci i n : Nat} {fs : List (Option Nat)} (hd : decode cc pc = .ok (.getfield idx, 3)) (hF : FOK own idx ci i) (hs : shape[q]? = some (ci, n, fs)) (hc : ci < 100) (ho : fs[i]? = some none) (k : CW E Γ cc nL own d (pc + 3) L (.int (μ q i) :: S) μ) : CW E Γ cc nL own d pc L (.ref q :: S) μ := cw_getf hd hF hs hc ho k
theorem cw_getR {q idx ci i n t : Nat} {fs : List (Option Nat)} (hd : decode cc pc = .ok (.getfield idx, 3)) (hF : FOK own idx ci i) (hs : shape[q]? = some (ci, n, fs)) (hc : ci < 100) (ho : fs[i]? = some (some t)) (k : CW E Γ cc nL own d (pc + 3) L (.ref t :: S) μ) : CW E Γ cc nL own d pc L (.ref q :: S) μ := cw_getf hd hF hs hc ho k
def POK (own : String) (idx ci i : Nat) (ty : FieldType) : Prop := ∃ (C : String) (T : u_T) (N : Nat) (ty0 : Nat → FieldType), vwCl[ci]? = some (C, T, N) ∧ i < N ∧ (∀ w ∈ u_ws C T N, w ∈ lw_good) ∧ (∀ k, k < N → parseFieldDescriptor (T k).2.2.1 = some (ty0 k)) ∧ (∀ a, a < N → ∀ b, b < N → a ≠ b → (T a).2.1 ≠ (T b).2.1) ∧ Cond.fieldLink own idx (T i).1 (T i).2.1 (T i).2.2.1 ∈ lw_good ∧ (T i).2.2.2 = false ∧ parseFieldDescriptor (T i).2.2.1 = some ty
theorem cw_putf {q idx ci i n : Nat} {fs : List (Option Nat)} {ty : FieldType} {v : Int32} (hd : decode cc pc = .ok (.putfield idx, 3)) (hF : POK own idx ci i ty) (hs : shape[q]? = some (ci, n, fs)) (hc : ci < 100) (ho : fs[i]? = some none) (hn : narrow ty (.int v) = .int v) (hfit : fits ty (.int v) = true) (k : CW E Γ cc nL own d (pc + 3) L S (st μ q i v)) : CW E Γ cc nL own d pc L (.int v :: .ref q :: S) μ := by
  intro C H locs ls hP hS hl
  obtain ⟨Cn, T, N, ty0, h1, h2, h3, h4, h5, h6, h7, h8⟩ := hF
  have hw := ws_get (E := E) (μ := μ) hs
  rw [ent_obj hc] at hw
  refine va_put (v := .int v) C.1 C.2.1 C.2.2.2.2.1 h3 ty0 h4 h5 C.2.2.2.1 C.2.2.2.2.2.2.1.1 hP (ws_D C.2.2.2.2.2.2.2.1 C.2.2.2.2.2.2.2.2) hS q hw h1 i h2 (C.2.2.2.2.1 _ h6) (fun _ h9 => h9) h7 h8 hn hfit (by have := flds_get (E := E) (f := μ q) ho; exact (List.getElem?_eq_some_iff.mp this).1) hd (fun H1 locs1 hP1 hD1 hS1 => ?_)
  rw [flds_set ho] at hP1
  have e : (Sum.inr (ci, flds E fs (upd (μ q) i v)) : va_E) = ent E (ci, n, fs) (upd (μ q) i v) := (ent_obj (sh := (ci, n, fs)) hc).symm
  rw [e, ws_set hs] at hP1
  exact k C H1 locs1 ls hP1 hS1 hl
theorem cw_putI {q idx ci i n : Nat} {fs : List (Option Nat)} {v : Int32} (hd : decode cc pc = .ok (.putfield idx, 3)) (hF : POK own idx ci i .int) (hs : shape[q]? = some (ci, n, fs)) (hc : ci < 100) (ho : fs[i]? = some none) (k : CW E Γ cc nL own d (pc + 3) L S (st μ q i v)) : CW E Γ cc nL own d pc L (.int v :: .ref q :: S) μ := cw_putf hd hF hs hc ho rfl rfl k
theorem cw_iald {q n : Nat} {x : List (Option Nat)} {j : Int32} (hd : decode cc pc = .ok (.iaload, 1)) (hs : shape[q]? = some (100, n, x)) (hj : vp_in j n) (k : CW E Γ cc nL own d (pc + 1) L (.int (μ q j.toNatClampNeg) :: S) μ) : CW E Γ cc nL own d pc L (.int j :: .ref q :: S) μ :=
  fun C H locs ls hP hS hl => va_iald C.1 C.2.1 C.2.2.2.2.2.2.1.1 hP q 0 (ws_get hs) rfl hj hd (k C H locs ls hP hS hl)
theorem cw_bald {q n : Nat} {x : List (Option Nat)} {j : Int32} (hd : decode cc pc = .ok (.baload, 1)) (hs : shape[q]? = some (101, n, x)) (hj : vp_in j n) (k : CW E Γ cc nL own d (pc + 1) L (.int (μ q j.toNatClampNeg) :: S) μ) : CW E Γ cc nL own d pc L (.int j :: .ref q :: S) μ :=
  fun C H locs ls hP hS hl => va_zald C.1 C.2.1 C.2.2.2.2.2.2.1.1 hP q 1 (ws_get hs) rfl hj hd (k C H locs ls hP hS hl)
theorem cw_iast {q n : Nat} {x : List (Option Nat)} {j v : Int32} (hd : decode cc pc = .ok (.iastore, 1)) (hs : shape[q]? = some (100, n, x)) (hj : vp_in j n) (k : CW E Γ cc nL own d (pc + 1) L S (st μ q j.toNatClampNeg v)) : CW E Γ cc nL own d pc L (.int v :: .int j :: .ref q :: S) μ :=
  fun C H locs ls hP hS hl => va_iast C.1 C.2.1 C.2.2.2.2.2.2.1.1 hP (ws_D C.2.2.2.2.2.2.2.1 C.2.2.2.2.2.2.2.2) hS q 0 (ws_get hs) rfl hj hd (fun H1 locs1 hP1 hD1 hS1 => k C H1 locs1 ls (by rw [← ws_set hs]; exact hP1) hS1 hl)
theorem cw_bast {q n : Nat} {x : List (Option Nat)} {j v : Int32} (hd : decode cc pc = .ok (.bastore, 1)) (hs : shape[q]? = some (101, n, x)) (hj : vp_in j n) (k : CW E Γ cc nL own d (pc + 1) L S (st μ q j.toNatClampNeg (vp_nar .boolean v))) : CW E Γ cc nL own d pc L (.int v :: .int j :: .ref q :: S) μ :=
  fun C H locs ls hP hS hl => va_zast C.1 C.2.1 C.2.2.2.2.2.2.1.1 hP (ws_D C.2.2.2.2.2.2.2.1 C.2.2.2.2.2.2.2.2) hS q 1 (ws_get hs) rfl hj hd (fun H1 locs1 hP1 hD1 hS1 => k C H1 locs1 ls (by rw [← ws_set hs]; exact hP1) hS1 hl)
theorem cw_alen {q n : Nat} {x : List (Option Nat)} {v : Int32} (hd : decode cc pc = .ok (.arraylength, 1)) (hs : shape[q]? = some (100, n, x)) (hv : Int32.ofNat n = v) (k : CW E Γ cc nL own d (pc + 1) L (.int v :: S) μ) : CW E Γ cc nL own d pc L (.ref q :: S) μ :=
  fun C H locs ls hP hS hl => va_alen C.1 C.2.1 C.2.2.2.2.2.2.1.1 hP q 0 (ws_get hs) rfl hv hd (k C H locs ls hP hS hl)
/-! statics, String constants -/
theorem c_sta (C : OKc E Γ cc nL own d) : STa E (g_A Γ) (g_s Γ) (g_s Γ).heap := C.2.2.2.2.2.2.1.2.2
theorem cw_above {idx : Nat} (hd : decode cc pc = .ok (.getstatic idx, 3)) (hw : Cond.fieldLink own idx RX8 "ABOVE" "[I" ∈ lw_good) (k : CW E Γ cc nL own d (pc + 3) L (.ref 77 :: S) μ) : CW E Γ cc nL own d pc L S μ :=
  fun C H locs ls hP hS hl => va_gets C.1 C.2.1 (c_sta C).1 hS C.2.2.2.1 (C.2.2.2.2.1 _ hw) (fun _ h => h) hd (k C H locs ls hP hS hl)
theorem cw_aboveN {idx : Nat} {host : String} (hd : decode cc pc = .ok (.getstatic idx, 3)) (hw : Cond.fieldLinkNest own idx RX8 "ABOVE" "[I" host ∈ lw_tbl) (k : CW E Γ cc nL own d (pc + 3) L (.ref 77 :: S) μ) : CW E Γ cc nL own d pc L S μ :=
  fun C H locs ls hP hS hl => va_getsN C.1 C.2.1 (c_sta C).1 hS C.2.2.2.1 (va_Nw.use rfl (C.2.2.2.2.2.2.1.2.1.2 _ _ _ _ _ _ hw)) (fun _ h => h) hd (k C H locs ls hP hS hl)
theorem cw_bodies {idx : Nat} (hd : decode cc pc = .ok (.getstatic idx, 3)) (hw : Cond.fieldLink own idx RX1 "BODIES" "[I" ∈ lw_good) (k : CW E Γ cc nL own d (pc + 3) L (.ref 78 :: S) μ) : CW E Γ cc nL own d pc L S μ :=
  fun C H locs ls hP hS hl => va_gets C.1 C.2.1 (c_sta C).2.2.1 hS C.2.2.2.1 (C.2.2.2.2.1 _ hw) (fun _ h => h) hd (k C H locs ls hP hS hl)
theorem cw_compact {idx : Nat} (hd : decode cc pc = .ok (.getstatic idx, 3)) (hw : Cond.fieldLink own idx "java/lang/String" "COMPACT_STRINGS" "Z" ∈ lw_good) (k : CW E Γ cc nL own d (pc + 3) L (.int 1 :: S) μ) : CW E Γ cc nL own d pc L S μ :=
  fun C H locs ls hP hS hl => va_gets C.1 C.2.1 (c_sta C).2.2.2.2.1 hS C.2.2.2.1 (C.2.2.2.2.1 _ hw) (fun _ h => h) hd (k C H locs ls hP hS hl)
theorem cw_sioobe {idx : Nat} (hd : decode cc pc = .ok (.getstatic idx, 3)) (hw : Cond.fieldLink own idx "jdk/internal/util/Preconditions" "SIOOBE_FORMATTER" "Ljava/util/function/BiFunction;" ∈ lw_good) (k : ∀ v : Value, v = .null ∨ v = .ref 79 → CW E Γ cc nL own d (pc + 3) L (v :: S) μ) : CW E Γ cc nL own d pc L S μ := by
  intro C H locs ls hP hS hl
  rcases (c_sta C).2.2.2.2.2.1 with h | h
  · exact va_gets C.1 C.2.1 h hS C.2.2.2.1 (C.2.2.2.2.1 _ hw) (fun _ h => h) hd (k _ (Or.inl rfl) C H locs ls hP hS hl)
  · exact va_gets C.1 C.2.1 h hS C.2.2.2.1 (C.2.2.2.2.1 _ hw) (fun _ h => h) hd (k _ (Or.inr rfl) C H locs ls hP hS hl)
theorem cw_tabA {j : Int32} (hd : decode cc pc = .ok (.iaload, 1)) (hj : vp_in j 7) (k : CW E Γ cc nL own d (pc + 1) L (.int (tabA j.toNatClampNeg) :: S) μ) : CW E Γ cc nL own d pc L (.int j :: .ref 77 :: S) μ :=
  fun C H locs ls hP hS hl => va_ti C.1 C.2.1 (c_sta C).2.1 hS hj rfl hd (k C H locs ls hP hS hl)
theorem cw_tabB {j : Int32} (hd : decode cc pc = .ok (.iaload, 1)) (hj : vp_in j 21) (k : CW E Γ cc nL own d (pc + 1) L (.int (tabB j.toNatClampNeg) :: S) μ) : CW E Γ cc nL own d pc L (.int j :: .ref 78 :: S) μ :=
  fun C H locs ls hP hS hl => va_ti C.1 C.2.1 (c_sta C).2.2.2.1 hS hj rfl hd (k C H locs ls hP hS hl)
theorem c_str (C : OKc E Γ cc nL own d) : vk_S 8 lenS bytS (fun i => e_ad E (80 + i)) (fun i => e_ad E (90 + i)) (g_A Γ) (g_s Γ) (g_s Γ).heap := C.2.2.2.2.2.2.1.2.2.2.2.2.2.2.2.1
theorem cw_ldcS {idx i : Nat} {tx : String} (hd : decode cc pc = .ok (.ldc idx, 2)) (hw : (own, idx, tx, i) ∈ refS) (k : CW E Γ cc nL own d (pc + 2) L (.ref (80 + i) :: S) μ) : CW E Γ cc nL own d pc L S μ :=
  fun C H locs ls hP hS hl => va_ldcS C.1 C.2.1 C.2.2.2.1 (C.2.2.2.2.2.2.1.2.2.2.2.2.2.2.2.2 _ hw) hd (k C H locs ls hP hS hl)
theorem cw_strVal {idx i : Nat} (hi : i < 8) (hd : decode cc pc = .ok (.getfield idx, 3)) (hw : Cond.fieldLink own idx "java/lang/String" "value" "[B" ∈ lw_good) (k : CW E Γ cc nL own d (pc + 3) L (.ref (90 + i) :: S) μ) : CW E Γ cc nL own d pc L (.ref (80 + i) :: S) μ :=
  fun C H locs ls hP hS hl => vk_getf C.1 C.2.1 ((c_str C).1 i hi).2.2.1 hS C.2.2.2.1 (C.2.2.2.2.1 _ hw) (fun _ h => h) hd (k C H locs ls hP hS hl)
theorem cw_strCod {idx i : Nat} (hi : i < 8) (hd : decode cc pc = .ok (.getfield idx, 3)) (hw : Cond.fieldLink own idx "java/lang/String" "coder" "B" ∈ lw_good) (k : CW E Γ cc nL own d (pc + 3) L (.int 0 :: S) μ) : CW E Γ cc nL own d pc L (.ref (80 + i) :: S) μ :=
  fun C H locs ls hP hS hl => vk_getf C.1 C.2.1 ((c_str C).1 i hi).2.1 hS C.2.2.2.1 (C.2.2.2.2.1 _ hw) (fun _ h => h) hd (k C H locs ls hP hS hl)
theorem cw_strLen {i : Nat} (hi : i < 8) (hd : decode cc pc = .ok (.arraylength, 1)) (k : CW E Γ cc nL own d (pc + 1) L (.int (nI (lenS.getD i 0)) :: S) μ) : CW E Γ cc nL own d pc L (.ref (90 + i) :: S) μ :=
  fun C H locs ls hP hS hl => va_tlen C.1 C.2.1 ((c_str C).1 i hi).2.2.2 hS rfl hd (k C H locs ls hP hS hl)
theorem cw_strByt {i : Nat} {j : Int32} (hi : i < 8) (hj : vp_in j (lenS.getD i 0)) (hd : decode cc pc = .ok (.baload, 1)) (k : CW E Γ cc nL own d (pc + 1) L (.int ((bytS.getD i []).getD j.toNatClampNeg 0) :: S) μ) : CW E Γ cc nL own d pc L (.int j :: .ref (90 + i) :: S) μ :=
  fun C H locs ls hP hS hl => va_tb C.1 C.2.1 ((c_str C).1 i hi).2.2.2 hS hj rfl hd (k C H locs ls hP hS hl)
/-! ends -/
theorem qc_end {C : OKc E Γ cc nL own d} {r : Option Value} {H : Heap} {locs : List Loc} (hA : g_A Γ = AE E) (hq : Q r μ) (hP : va_P (e_D E) vwCl (wsOf E μ) H) (hS : va_S (g_A Γ) (g_s Γ).heap H locs) (t : State) (ht : t.heap = H) : QcOf E Q (g_args Γ) (g_s Γ) (.returned (r.map (cv E))) t :=
  ⟨⟨r, μ, rfl, hq, by rw [ht]; exact hP⟩, by rw [hA] at hS; exact hS.F ht⟩
theorem cw_iret {v : Int32} (hd : decode cc pc = .ok (.ireturn, 1)) (hR : RT E Γ (some .int) Q) (hq : Q (some (.int v)) μ) : CW E Γ cc nL own d pc L [.int v] μ := by
  intro C H locs ls hP hS hl
  rw [hR.2.2.2.2.2, hR.2.2.2.1, hR.2.2.2.2.1]
  exact W.iret (v := v) C.1 C.2.1 hR.1 (fun t ht _ => qc_end (C := C) (r := some (.int v)) hR.2.2.1 hq hP hS t ht) (by have := hS.2.2; rw [hR.2.2.1] at this; exact this) hd hR.2.1
theorem cw_zret {v : Int32} {ty : FieldType} (hd : decode cc pc = .ok (.ireturn, 1)) (hR : RT E Γ (some ty) Q) (hn : narrow ty (.int v) = .int v) (hq : Q (some (.int v)) μ) : CW E Γ cc nL own d pc L [.int v] μ := by
  intro C H locs ls hP hS hl
  rw [hR.2.2.2.2.2, hR.2.2.2.1, hR.2.2.2.2.1]
  exact W.zret (v := v) C.1 C.2.1 hR.1 hn (fun t ht _ => qc_end (C := C) (r := some (.int v)) hR.2.2.1 hq hP hS t ht) (by have := hS.2.2; rw [hR.2.2.1] at this; exact this) hd hR.2.1
theorem cw_lret {v : Int64} (hd : decode cc pc = .ok (.lreturn, 1)) (hR : RT E Γ (some .long) Q) (hq : Q (some (.long v)) μ) : CW E Γ cc nL own d pc L [.long v] μ := by
  intro C H locs ls hP hS hl
  rw [hR.2.2.2.2.2, hR.2.2.2.1, hR.2.2.2.2.1]
  exact W.lret (v := v) C.1 C.2.1 hR.1 (fun t ht _ => qc_end (C := C) (r := some (.long v)) hR.2.2.1 hq hP hS t ht) (by have := hS.2.2; rw [hR.2.2.1] at this; exact this) hd hR.2.1
theorem cw_vret (hd : decode cc pc = .ok (.return_, 1)) (hR : RT E Γ none Q) (hq : Q none μ) : CW E Γ cc nL own d pc L [] μ := by
  intro C H locs ls hP hS hl
  rw [hR.2.2.2.2.2, hR.2.2.2.1, hR.2.2.2.2.1]
  exact W.vret C.1 C.2.1 hR.1 (fun t ht _ => qc_end (C := C) (r := none) hR.2.2.1 hq hP hS t ht) (by have := hS.2.2; rw [hR.2.2.1] at this; exact this) hd hR.2.1
/-! calls -/
theorem pc_blind {vs : List Value} : FrameBlind (PcOf E vs μ) := by
  intro a U g mk q
  obtain ⟨h1, h2, h3, h4⟩ := q
  exact ⟨h1, KX.same (s := U) (U := U.calling g mk a) rfl h2, h3, h4⟩
theorem pc_pre (C : OKc E Γ cc nL own d) {vs : List Value} {H : Heap} {locs : List Loc} (hP : va_P (e_D E) vwCl (wsOf E μ) H) (hS : va_S (g_A Γ) (g_s Γ).heap H locs) (U : State) (hU : U.heap = H) (hW : (g_s Γ).WarmedH U.vm) : PcOf E vs μ (vs.map (cv E)).toArray U := by
  have hK : KX E (g_A Γ) (g_s Γ) H := C.2.2.2.2.2.2.1.kept (fun a h1 h2 => hS.2.1 a h1 h2)
  refine ⟨rfl, ?_, by rw [hU]; exact hP, C.2.2.2.2.2.2.2.1⟩
  rw [hU]
  exact (hK.moved hW).narrow (fun q ⟨k, hk, e⟩ => by rw [e]; exact C.2.2.2.2.2.2.2.2 k hk)
theorem cw_behind {a : Array Value} {ls : Array Slot} {st0 : List Value} {H : Heap} {locs : List Loc} (C : OKc E Γ cc nL own d)
    (hr : va_Run (g_p Γ) (e_l E) (g_e Γ) (g_R Γ) (g_s Γ) (g_m Γ) (g_args Γ) (g_below Γ) (g_meth Γ) (g_c Γ) H locs (g_cells Γ) (g_slots Γ) 0 0 (F0 (g_m Γ) pc ls st0) (S.map (cv E)) (QcOf E (fun r μ' => CW E Γ cc nL own d (pc + 3) L (r.toList ++ S) μ') a) (AE E))
    (hS : va_S (g_A Γ) (g_s Γ).heap H locs) (hl : lh ls nL (L.map (cv E))) : W (g_p Γ) (e_l E) (g_e Γ) (g_R Γ) (g_s Γ) (g_m Γ) (g_args Γ) (g_below Γ) (g_meth Γ) (g_c Γ) H locs (g_cells Γ) (g_slots Γ) (g_Z Γ) (F0 (g_m Γ) pc ls st0) := by
  intro T hT X
  obtain ⟨v, st₀, t, T', Lc, h0, X', hLc, e1, e2, ⟨⟨r, μ', hv, hp, hb⟩, hz, hk⟩, sg⟩ := hr T hT X
  cases hv
  rw [h0] at hz hk
  have hA : ∀ q, AE E q → g_A Γ q := fun q ⟨k, hk, e⟩ => by rw [e]; exact C.2.2.2.2.2.2.2.2 k hk
  have hS1 : va_S (g_A Γ) (g_s Γ).heap T'.heap (locs ++ Lc) := ⟨Nat.le_trans hS.1 (by rw [e1]; exact hz), fun q h1 h2 => by rw [e1, hk q (Nat.lt_of_lt_of_le h1 hS.1) (fun z => h2 (hA q z))]; exact hS.2.1 q h1 h2, fun q hq => by
      rcases List.mem_append.mp hq with h | h
      · exact hS.2.2 q h
      · exact hA _ (hLc q h)⟩
  obtain ⟨t2, a1, b1⟩ := hp C T'.heap (locs ++ Lc) ls (by rw [e1]; exact hb) hS1 hl T' rfl X'
  refine ⟨t2, sg t2 ?_, b1⟩
  cases r <;> exact a1
/-- a method's own words -/
def MOK (y : MethodName) (cc' : ByteArray) (nL' : Nat) (ret' : Option FieldType) (n : Nat) : Prop := (Cond.initialized y.cls ∈ lw_good ∧ Cond.code y cc' nL' ret' ∈ lw_good) ∧ y.cls ≠ "java/lang/invoke/MethodHandle" ∧ y.cls ≠ "java/lang/invoke/VarHandle" ∧ (parseMethodDescriptor y.desc).map (fun d => d.parameters.length) = some n ∧ nL' ≤ 30
def VOK (own : String) (idx : Nat) (C : String) (y : MethodName) (cc' : ByteArray) (nL' : Nat) (ret' : Option FieldType) (n : Nat) : Prop :=
  (Cond.methodLink own idx y ∈ lw_good ∧ Cond.instanceMethod y ∈ lw_good ∧ Cond.selects C y y ∈ lw_good ∧ Cond.initialized C ∈ lw_good ∧ Cond.code y cc' nL' ret' ∈ lw_good) ∧ y.cls = C ∧ y.cls ≠ "java/lang/invoke/MethodHandle" ∧ y.cls ≠ "java/lang/invoke/VarHandle" ∧ (parseMethodDescriptor y.desc).map (fun d => d.parameters.length) = some n ∧ nL' ≤ 30
theorem vok {own : String} {idx : Nat} {C : String} {y : MethodName} {cc' : ByteArray} {nL' : Nat} {ret' : Option FieldType} {n : Nat} (h1 : Cond.methodLink own idx y ∈ lw_good) (h2 : Cond.instanceMethod y ∈ lw_good ∧ Cond.selects y.cls y y ∈ lw_good) (hM : MOK y cc' nL' ret' n) (hC : y.cls = C) : VOK own idx C y cc' nL' ret' n := by
  subst hC
  exact ⟨⟨h1, h2.1, h2.2, hM.1.1, hM.1.2⟩, rfl, hM.2⟩
theorem gi_good {w : Cond} {l : List Cond} (h : w ∈ lw_good) (hl : GoodIn lw_good l) : GoodIn lw_good (w :: l) := by
  intro z hz
  rcases List.mem_cons.mp hz with rfl | hz
  · exact ⟨h, good_of_word (good_in h).2⟩
  · exact hl z hz
theorem gi_all : GoodIn lw_good lw_good := fun w h => ⟨h, good_of_word (good_in h).2⟩
theorem S_cat {S : List Value} (h : (S.map Value.category).sum ≤ 8) : ((S.map (cv E)).map fun v => v.category).sum ≤ 8 := by
  rw [List.map_map]
  have : ((fun v : Value => v.category) ∘ cv E) = Value.category := by funext v; exact cv_cat E v
  rw [this]; exact h
theorem cw_inv {y : MethodName} {cc' : ByteArray} {nL' n ci idx q dd m' : Nat} {ret' : Option FieldType} {fs : List (Option Nat)} {As rest st0 : List Value} {rq : vw_C} (hd : decode cc pc = .ok (.invokevirtual idx, 3)) (hq : vwCl[ci]? = some rq) (hV : VOK own idx rq.1 y cc' nL' ret' n) (hs : shape[q]? = some (ci, m', fs)) (hc : ci < 100) (hn : As.length = n) (hst : st0 = As.reverse ++ .ref q :: S) (hcat : (S.map Value.category).sum ≤ 8) (hdd : dd < d)
    (k : AM E y cc' nL' ret' dd (.ref q :: As) μ (fun r μ' => CW E Γ cc nL own d (pc + 3) L (r.toList ++ S) μ')) : CW E Γ cc nL own d pc L st0 μ := by
  intro C H locs ls hP hS hl
  obtain ⟨⟨v1, v2, v3, v4, v5⟩, v6, v7, v8, v9, v10⟩ := hV
  have hw := ws_get (E := E) (μ := μ) hs
  rw [ent_obj hc] at hw
  have hcw : CallW (g_R Γ) (g_s Γ) (g_args Γ) own rq.1 idx y cc' nL' ret' (.code y cc' nL' ret' :: lw_good) (rmOf dd) 0 0 n :=
    cwV (Ts := lw_good) n C.2.2.2.2.1 (gi_good v1 (gi_good v2 (gi_good v3 (gi_good v4 (gi_good v5 gi_all))))) rfl rfl rfl ⟨v6, v7, v8, v9⟩ (by
      obtain ⟨f1, f2, -, -⟩ := C.2.2.2.2.2.1
      show dd + 1 ≤ _ ∧ 8 + (nL' + 11) + 64 * dd ≤ _
      omega)
  refine cw_behind C (va_runV (As := As.map (cv E)) (rest := S.map (cv E)) ⟨C.1, C.2.1, C.2.2.1, C.2.2.2.1, C.2.2.2.2.1⟩ k hcw ⟨pc_blind, va_recv C.2.2.2.2.2.2.1.1 hP hq hw, fun U hU hW => by have := pc_pre (vs := .ref q :: As) C hP hS U hU hW; exact this⟩ rfl (by rw [List.length_map]; exact hn) hl.1 ?_ (lv_room (S_cat hcat)) hd ?_) hS hl
  · show st0.map (cv E) = _
    rw [hst, List.map_append, List.map_cons, List.map_reverse]; rfl
  · obtain ⟨-, -, f3, f4⟩ := C.2.2.2.2.2.1
    exact ⟨f3, f4⟩
theorem cw_invS {y : MethodName} {cc' : ByteArray} {nL' n idx i dd : Nat} {ret' : Option FieldType} {As st0 : List Value} (hi : i < 8) (hd : decode cc pc = .ok (.invokevirtual idx, 3)) (hV : VOK own idx "java/lang/String" y cc' nL' ret' n) (hn : As.length = n) (hst : st0 = As.reverse ++ .ref (80 + i) :: S) (hcat : (S.map Value.category).sum ≤ 8) (hdd : dd < d)
    (k : AM E y cc' nL' ret' dd (.ref (80 + i) :: As) μ (fun r μ' => CW E Γ cc nL own d (pc + 3) L (r.toList ++ S) μ')) : CW E Γ cc nL own d pc L st0 μ := by
  intro C H locs ls hP hS hl
  obtain ⟨⟨v1, v2, v3, v4, v5⟩, v6, v7, v8, v9, v10⟩ := hV
  have hcw : CallW (g_R Γ) (g_s Γ) (g_args Γ) own "java/lang/String" idx y cc' nL' ret' (.code y cc' nL' ret' :: lw_good) (rmOf dd) 0 0 n :=
    cwV (Ts := lw_good) n C.2.2.2.2.1 (gi_good v1 (gi_good v2 (gi_good v3 (gi_good v4 (gi_good v5 gi_all))))) rfl rfl rfl ⟨v6, v7, v8, v9⟩ (by
      obtain ⟨f1, f2, -, -⟩ := C.2.2.2.2.2.1
      show dd + 1 ≤ _ ∧ 8 + (nL' + 11) + 64 * dd ≤ _
      omega)
  refine cw_behind C (va_runV (As := As.map (cv E)) (rest := S.map (cv E)) ⟨C.1, C.2.1, C.2.2.1, C.2.2.2.1, C.2.2.2.2.1⟩ k hcw ⟨pc_blind, vk_recv (c_str C) hi hS, fun U hU hW => by have := pc_pre (vs := .ref (80 + i) :: As) C hP hS U hU hW; exact this⟩ rfl (by rw [List.length_map]; exact hn) hl.1 ?_ (lv_room (S_cat hcat)) hd ?_) hS hl
  · show st0.map (cv E) = _
    rw [hst, List.map_append, List.map_cons, List.map_reverse]; rfl
  · obtain ⟨-, -, f3, f4⟩ := C.2.2.2.2.2.1
    exact ⟨f3, f4⟩
/-- System.arraycopy of ints -/
def AOK (own : String) (idx : Nat) : Prop := Cond.methodLink own idx arraycopyName ∈ lw_good ∧ Cond.native arraycopyName ∈ lw_good ∧ Cond.static arraycopyName ∈ lw_good ∧ Cond.initialized "java/lang/System" ∈ lw_good
theorem cw_acopy {idx q0 q1 n0 n1 : Nat} {x0 x1 : List (Option Nat)} {sp dp n : Int32} (hd : decode cc pc = .ok (.invokestatic idx, 3)) (hV : AOK own idx) (hs0 : shape[q0]? = some (100, n0, x0)) (hs1 : shape[q1]? = some (100, n1, x1)) (hcat : (S.map Value.category).sum ≤ 8) (hdd : 0 < d)
    (h1 : ¬ sp < 0) (h2 : ¬ dp < 0) (h3 : ¬ n < 0) (h4 : sp.toNatClampNeg + n.toNatClampNeg ≤ n0) (h5 : dp.toNatClampNeg + n.toNatClampNeg ≤ n1)
    (k : CW E Γ cc nL own d (pc + 3) L S (str μ q1 (va_cpy (μ q0) (μ q1) sp.toNatClampNeg dp.toNatClampNeg n.toNatClampNeg))) : CW E Γ cc nL own d pc L (.int n :: .int dp :: .ref q1 :: .int sp :: .ref q0 :: S) μ := by
  intro C H locs ls hP hS hl
  obtain ⟨f1, f2, f3, f4⟩ := C.2.2.2.2.2.1
  have hz := S_cat (E := E) hcat
  have hw : nativeFrameWords "java/lang/System" "arraycopy" 5 + 11 ≤ 56 := by decide +kernel
  exact va_copyi C.1 C.2.1 (C.2.2.1.trans hl.1.symm) C.2.2.2.1 (C.2.2.2.2.1 _ hV.1) (C.2.2.2.2.1 _ hV.2.1) (C.2.2.2.2.1 _ hV.2.2.1) (C.2.2.2.2.1 _ hV.2.2.2) C.2.2.2.2.2.2.1.1 hP (ws_D C.2.2.2.2.2.2.2.1 C.2.2.2.2.2.2.2.2) hS q0 q1 0 0 (ty := .int) (ws_get hs0) (ws_get hs1) rfl rfl rfl h1 h2 h3 h4 h5 (fun _ _ => rfl) (by omega) (by omega) hd
    (fun H1 locs1 hP1 hD1 hS1 => k C H1 locs1 ls (by rw [← ws_setr hs1]; exact hP1) hS1 hl)
def SOK (own : String) (idx : Nat) (y : MethodName) (cc' : ByteArray) (nL' : Nat) (ret' : Option FieldType) (n : Nat) : Prop :=
  (Cond.methodLink own idx y ∈ lw_good ∧ Cond.static y ∈ lw_good ∧ Cond.initialized y.cls ∈ lw_good ∧ Cond.code y cc' nL' ret' ∈ lw_good) ∧ y.cls ≠ "java/lang/invoke/MethodHandle" ∧ y.cls ≠ "java/lang/invoke/VarHandle" ∧ (parseMethodDescriptor y.desc).map (fun d => d.parameters.length) = some n ∧ nL' ≤ 30
theorem cw_ins {y : MethodName} {cc' : ByteArray} {nL' n idx dd : Nat} {ret' : Option FieldType} {As st0 : List Value} (hd : decode cc pc = .ok (.invokestatic idx, 3)) (hV : SOK own idx y cc' nL' ret' n) (hn : As.length = n) (hst : st0 = As.reverse ++ S) (hcat : (S.map Value.category).sum ≤ 8) (hdd : dd < d)
    (k : AM E y cc' nL' ret' dd As μ (fun r μ' => CW E Γ cc nL own d (pc + 3) L (r.toList ++ S) μ')) : CW E Γ cc nL own d pc L st0 μ := by
  intro C H locs ls hP hS hl
  obtain ⟨⟨v1, v2, v4, v5⟩, v7, v8, v9, v10⟩ := hV
  have hcw : CallB (g_R Γ) (g_s Γ) (g_args Γ) own idx y cc' nL' ret' (.code y cc' nL' ret' :: lw_good) (rmOf dd) 0 0 n ∧ (Cond.static y).before (g_args Γ) (g_s Γ) = true :=
    va_cwS (Ts := lw_good) n C.2.2.2.2.1 (gi_good v1 (gi_good v2 (gi_good v4 (gi_good v5 gi_all)))) rfl rfl rfl ⟨v7, v8, v9⟩ (by
      obtain ⟨f1, f2, -, -⟩ := C.2.2.2.2.2.1
      show dd + 1 ≤ _ ∧ 8 + (nL' + 11) + 64 * dd ≤ _
      omega)
  refine cw_behind C (va_runS (As := As.map (cv E)) (rest := S.map (cv E)) ⟨C.1, C.2.1, C.2.2.1, C.2.2.2.1, C.2.2.2.2.1⟩ k hcw ⟨pc_blind, fun U hU hW => by have := pc_pre (vs := As) C hP hS U hU hW; exact this⟩ rfl (by rw [List.length_map]; exact hn) hl.1 ?_ (lv_room (S_cat hcat)) hd ?_) hS hl
  · show st0.map (cv E) = _
    rw [hst, List.map_append, List.map_reverse]
  · obtain ⟨-, -, f3, f4⟩ := C.2.2.2.2.2.1
    exact ⟨f3, f4⟩
def NOK (own : String) (idx : Nat) (y : MethodName) (host : String) (cc' : ByteArray) (nL' : Nat) (ret' : Option FieldType) (n : Nat) : Prop :=
  (Cond.methodLinkNest own idx y host ∈ lw_tbl ∧ Cond.static y ∈ lw_good ∧ Cond.initialized y.cls ∈ lw_good ∧ Cond.code y cc' nL' ret' ∈ lw_good) ∧ y.cls ≠ "java/lang/invoke/MethodHandle" ∧ y.cls ≠ "java/lang/invoke/VarHandle" ∧ (parseMethodDescriptor y.desc).map (fun d => d.parameters.length) = some n ∧ nL' ≤ 30
theorem cw_insN {y : MethodName} {host : String} {cc' : ByteArray} {nL' n idx dd : Nat} {ret' : Option FieldType} {As st0 : List Value} (hd : decode cc pc = .ok (.invokestatic idx, 3)) (hV : NOK own idx y host cc' nL' ret' n) (hn : As.length = n) (hst : st0 = As.reverse ++ S) (hcat : (S.map Value.category).sum ≤ 8) (hdd : dd < d)
    (k : AM E y cc' nL' ret' dd As μ (fun r μ' => CW E Γ cc nL own d (pc + 3) L (r.toList ++ S) μ')) : CW E Γ cc nL own d pc L st0 μ := by
  intro C H locs ls hP hS hl
  obtain ⟨⟨v1, v2, v4, v5⟩, v7, v8, v9, v10⟩ := hV
  have hcw : va_CN (g_R Γ) (g_s Γ) (g_args Γ) own idx y host cc' nL' ret' (.code y cc' nL' ret' :: lw_good) (rmOf dd) 0 0 n :=
    va_cnB (Ts := lw_good) n C.2.2.2.2.1 (gi_good v5 gi_all) rfl rfl rfl (C.2.2.2.2.2.2.1.2.1.1 _ _ _ _ v1) (C.2.2.2.2.1 _ v4) ⟨v7, v8, v9⟩ (by
      obtain ⟨f1, f2, -, -⟩ := C.2.2.2.2.2.1
      show dd + 1 ≤ _ ∧ 8 + (nL' + 11) + 64 * dd ≤ _
      omega)
  refine cw_behind C (va_runSN (As := As.map (cv E)) (rest := S.map (cv E)) ⟨C.1, C.2.1, C.2.2.1, C.2.2.2.1, C.2.2.2.2.1⟩ k ⟨hcw, C.2.2.2.2.1 _ v2, trivial⟩ ⟨pc_blind, fun U hU hW => by have := pc_pre (vs := As) C hP hS U hU hW; exact this⟩ rfl (by rw [List.length_map]; exact hn) hl.1 ?_ (lv_room (S_cat hcat)) hd ?_) hS hl
  · show st0.map (cv E) = _
    rw [hst, List.map_append, List.map_reverse]
  · obtain ⟨-, -, f3, f4⟩ := C.2.2.2.2.2.1
    exact ⟨f3, f4⟩
end CWrows
end
section
theorem gX0 : ∀ w ∈ wsX00, w ∈ lw_good := fun w h => mg (inX0 w h) ((List.all_eq_true.mp (by decide +kernel : wsX00.all goodWord = true)) w h)
theorem gX1 : ∀ w ∈ wsX10, w ∈ lw_good := fun w h => mg (inX1 w h) ((List.all_eq_true.mp (by decide +kernel : wsX10.all goodWord = true)) w h)
theorem gX2 : ∀ w ∈ wsX20, w ∈ lw_good := fun w h => mg (inX2 w h) ((List.all_eq_true.mp (by decide +kernel : wsX20.all goodWord = true)) w h)
theorem gX3 : ∀ w ∈ wsX30, w ∈ lw_good := fun w h => mg (inX3 w h) ((List.all_eq_true.mp (by decide +kernel : wsX30.all goodWord = true)) w h)
theorem gX4 : ∀ w ∈ wsX40, w ∈ lw_good := fun w h => mg (inX4 w h) ((List.all_eq_true.mp (by decide +kernel : wsX40.all goodWord = true)) w h)
theorem gX5 : ∀ w ∈ wsX50, w ∈ lw_good := fun w h => mg (inX5 w h) ((List.all_eq_true.mp (by decide +kernel : wsX50.all goodWord = true)) w h)
theorem gX6 : ∀ w ∈ wsX60, w ∈ lw_good := fun w h => mg (inX6 w h) ((List.all_eq_true.mp (by decide +kernel : wsX60.all goodWord = true)) w h)
theorem gX7 : ∀ w ∈ wsX70, w ∈ lw_good := fun w h => mg (inX7 w h) ((List.all_eq_true.mp (by decide +kernel : wsX70.all goodWord = true)) w h)
theorem gX8 : ∀ w ∈ wsX80, w ∈ lw_good := fun w h => mg (inX8 w h) ((List.all_eq_true.mp (by decide +kernel : wsX80.all goodWord = true)) w h)
theorem gX9 : ∀ w ∈ wsX90, w ∈ lw_good := fun w h => mg (inX9 w h) ((List.all_eq_true.mp (by decide +kernel : wsX90.all goodWord = true)) w h)
theorem mT {w : Cond} (i : Nat) (h : tables_1[i]? = some w) : w ∈ lw_tbl := List.mem_append_right _ (List.mem_of_getElem? h)
theorem mS {w : Cond} (i : Nat) (h : (k2_sels lw_privs)[i]? = some w) : w ∈ lw_tbl := List.mem_append_left _ (List.mem_of_getElem? h)
theorem zJ0_38 : Cond.fieldLink RJ0 38 "java/lang/String" "COMPACT_STRINGS" "Z" ∈ lw_good := mg (mT 357 (by decide +kernel)) rfl
theorem zJ0_1053 : Cond.fieldLink RJ0 1053 "jdk/internal/util/Preconditions" "SIOOBE_FORMATTER" "Ljava/util/function/BiFunction;" ∈ lw_good := mg (mT 373 (by decide +kernel)) rfl
theorem mJ1_charAt_3b067 : MOK yJ1_charAt_3b067 cJ1_charAt_3b067 2 (some .char) 2 := ⟨⟨mg (mT 13 (by decide +kernel)) rfl, mg (mT 369 (by decide +kernel)) rfl⟩, by decide +kernel, by decide +kernel, by decide +kernel, by decide⟩
theorem vJ0_495 : SOK RJ0 495 yJ1_charAt_3b067 cJ1_charAt_3b067 2 (some .char) 2 := ⟨⟨mg (mT 367 (by decide +kernel)) rfl, mg (mT 368 (by decide +kernel)) rfl, mJ1_charAt_3b067.1.1, mJ1_charAt_3b067.1.2⟩, mJ1_charAt_3b067.2⟩
theorem mJ2_charAt_3b067 : MOK yJ2_charAt_3b067 cJ2_charAt_3b067 2 (some .char) 2 := ⟨⟨mg (mT 15 (by decide +kernel)) rfl, mg (mT 380 (by decide +kernel)) rfl⟩, by decide +kernel, by decide +kernel, by decide +kernel, by decide⟩
theorem vJ0_498 : SOK RJ0 498 yJ2_charAt_3b067 cJ2_charAt_3b067 2 (some .char) 2 := ⟨⟨mg (mT 378 (by decide +kernel)) rfl, mg (mT 379 (by decide +kernel)) rfl, mJ2_charAt_3b067.1.1, mJ2_charAt_3b067.1.2⟩, mJ2_charAt_3b067.2⟩
theorem mJ3_checkIndex_8e157 : MOK yJ3_checkIndex_8e157 cJ3_checkIndex_8e157 3 (some .int) 3 := ⟨⟨mg (mT 14 (by decide +kernel)) rfl, mg (mT 377 (by decide +kernel)) rfl⟩, by decide +kernel, by decide +kernel, by decide +kernel, by decide⟩
theorem vJ0_1059 : SOK RJ0 1059 yJ3_checkIndex_8e157 cJ3_checkIndex_8e157 3 (some .int) 3 := ⟨⟨mg (mT 375 (by decide +kernel)) rfl, mg (mT 376 (by decide +kernel)) rfl, mJ3_checkIndex_8e157.1.1, mJ3_checkIndex_8e157.1.2⟩, mJ3_checkIndex_8e157.2⟩
theorem mJ0_coder_7d493 : MOK yJ0_coder_7d493 cJ0_coder_7d493 1 (some .byte) 0 := ⟨⟨mg (mT 12 (by decide +kernel)) rfl, mg (mT 356 (by decide +kernel)) rfl⟩, by decide +kernel, by decide +kernel, by decide +kernel, by decide⟩
theorem sJ0_coder_7d493 : Cond.instanceMethod yJ0_coder_7d493 ∈ lw_good ∧ Cond.selects yJ0_coder_7d493.cls yJ0_coder_7d493 yJ0_coder_7d493 ∈ lw_good := ⟨mg (mT 354 (by decide +kernel)) rfl, mg (mT 355 (by decide +kernel)) rfl⟩
theorem vJ0_335 : VOK RJ0 335 RJ0 yJ0_coder_7d493 cJ0_coder_7d493 1 (some .byte) 0 := vok (mg (mT 353 (by decide +kernel)) rfl) sJ0_coder_7d493 mJ0_coder_7d493 rfl
theorem mJ0_isLatin1_aae02 : MOK yJ0_isLatin1_aae02 cJ0_isLatin1_aae02 1 (some .boolean) 0 := ⟨⟨mg (mT 12 (by decide +kernel)) rfl, mg (mT 366 (by decide +kernel)) rfl⟩, by decide +kernel, by decide +kernel, by decide +kernel, by decide⟩
theorem sJ0_isLatin1_aae02 : Cond.instanceMethod yJ0_isLatin1_aae02 ∈ lw_good ∧ Cond.selects yJ0_isLatin1_aae02.cls yJ0_isLatin1_aae02 yJ0_isLatin1_aae02 ∈ lw_good := ⟨mg (mT 364 (by decide +kernel)) rfl, mg (mT 365 (by decide +kernel)) rfl⟩
theorem vJ0_492 : VOK RJ0 492 RJ0 yJ0_isLatin1_aae02 cJ0_isLatin1_aae02 1 (some .boolean) 0 := vok (mg (mT 363 (by decide +kernel)) rfl) sJ0_isLatin1_aae02 mJ0_isLatin1_aae02 rfl
theorem mJ0_checkIndex_df160 : MOK yJ0_checkIndex_df160 cJ0_checkIndex_df160 2 none 2 := ⟨⟨mg (mT 12 (by decide +kernel)) rfl, mg (mT 372 (by decide +kernel)) rfl⟩, by decide +kernel, by decide +kernel, by decide +kernel, by decide⟩
theorem vJ1_9 : SOK RJ1 9 yJ0_checkIndex_df160 cJ0_checkIndex_df160 2 none 2 := ⟨⟨mg (mT 370 (by decide +kernel)) rfl, mg (mT 371 (by decide +kernel)) rfl, mJ0_checkIndex_df160.1.1, mJ0_checkIndex_df160.1.2⟩, mJ0_checkIndex_df160.2⟩
theorem mJ2_length_9d52b : MOK yJ2_length_9d52b cJ2_length_9d52b 1 (some .int) 1 := ⟨⟨mg (mT 15 (by decide +kernel)) rfl, mg (mT 386 (by decide +kernel)) rfl⟩, by decide +kernel, by decide +kernel, by decide +kernel, by decide⟩
theorem vJ2_48 : SOK RJ2 48 yJ2_length_9d52b cJ2_length_9d52b 1 (some .int) 1 := ⟨⟨mg (mT 384 (by decide +kernel)) rfl, mg (mT 385 (by decide +kernel)) rfl, mJ2_length_9d52b.1.1, mJ2_length_9d52b.1.2⟩, mJ2_length_9d52b.2⟩
theorem mJ2_checkIndex_2214a : MOK yJ2_checkIndex_2214a cJ2_checkIndex_2214a 2 none 2 := ⟨⟨mg (mT 15 (by decide +kernel)) rfl, mg (mT 383 (by decide +kernel)) rfl⟩, by decide +kernel, by decide +kernel, by decide +kernel, by decide⟩
theorem vJ2_67 : SOK RJ2 67 yJ2_checkIndex_2214a cJ2_checkIndex_2214a 2 none 2 := ⟨⟨mg (mT 381 (by decide +kernel)) rfl, mg (mT 382 (by decide +kernel)) rfl, mJ2_checkIndex_2214a.1.1, mJ2_checkIndex_2214a.1.2⟩, mJ2_checkIndex_2214a.2⟩
theorem mJ2_getChar_3b067 : MOK yJ2_getChar_3b067 cJ2_getChar_3b067 2 (some .char) 2 := ⟨⟨mg (mT 15 (by decide +kernel)) rfl, mg (mT 390 (by decide +kernel)) rfl⟩, by decide +kernel, by decide +kernel, by decide +kernel, by decide⟩
theorem vJ2_71 : SOK RJ2 71 yJ2_getChar_3b067 cJ2_getChar_3b067 2 (some .char) 2 := ⟨⟨mg (mT 388 (by decide +kernel)) rfl, mg (mT 389 (by decide +kernel)) rfl, mJ2_getChar_3b067.1.1, mJ2_getChar_3b067.1.2⟩, mJ2_getChar_3b067.2⟩
theorem vJ2_414 : SOK RJ2 414 yJ0_checkIndex_df160 cJ0_checkIndex_df160 2 none 2 := ⟨⟨mg (mT 387 (by decide +kernel)) rfl, mg (mT 371 (by decide +kernel)) rfl, mJ0_checkIndex_df160.1.1, mJ0_checkIndex_df160.1.2⟩, mJ0_checkIndex_df160.2⟩
theorem mX8_feed : MOK yX8_feed cX8_feed 2 (some .int) 1 := ⟨⟨mg (mT 1 (by decide +kernel)) rfl, mg (mT 321 (by decide +kernel)) rfl⟩, by decide +kernel, by decide +kernel, by decide +kernel, by decide⟩
theorem sX8_feed : Cond.instanceMethod yX8_feed ∈ lw_good ∧ Cond.selects yX8_feed.cls yX8_feed yX8_feed ∈ lw_good := ⟨mg (mT 319 (by decide +kernel)) rfl, mg (mT 320 (by decide +kernel)) rfl⟩
theorem vL_13 : VOK RL 13 RX8 yX8_feed cX8_feed 2 (some .int) 1 := vok (mg (mT 318 (by decide +kernel)) rfl) sX8_feed mX8_feed rfl
theorem mX9_feed : MOK yX9_feed cX9_feed 2 (some .int) 1 := ⟨⟨mg (mT 11 (by decide +kernel)) rfl, mg (mT 862 (by decide +kernel)) rfl⟩, by decide +kernel, by decide +kernel, by decide +kernel, by decide⟩
theorem sX9_feed : Cond.instanceMethod yX9_feed ∈ lw_good ∧ Cond.selects yX9_feed.cls yX9_feed yX9_feed ∈ lw_good := ⟨mg (mT 860 (by decide +kernel)) rfl, mg (mT 861 (by decide +kernel)) rfl⟩
theorem vL_17 : VOK RL 17 RX9 yX9_feed cX9_feed 2 (some .int) 1 := vok (mg (mT 859 (by decide +kernel)) rfl) sX9_feed mX9_feed rfl
theorem mX8_parish : MOK yX8_parish cX8_parish 2 (some .int) 0 := ⟨⟨mg (mT 1 (by decide +kernel)) rfl, mg (mT 329 (by decide +kernel)) rfl⟩, by decide +kernel, by decide +kernel, by decide +kernel, by decide⟩
theorem sX8_parish : Cond.instanceMethod yX8_parish ∈ lw_good ∧ Cond.selects yX8_parish.cls yX8_parish yX8_parish ∈ lw_good := ⟨mg (mT 327 (by decide +kernel)) rfl, mg (mT 328 (by decide +kernel)) rfl⟩
theorem vL_18 : VOK RL 18 RX8 yX8_parish cX8_parish 2 (some .int) 0 := vok (mg (mT 326 (by decide +kernel)) rfl) sX8_parish mX8_parish rfl
theorem mX9_parish : MOK yX9_parish cX9_parish 2 (some .int) 0 := ⟨⟨mg (mT 11 (by decide +kernel)) rfl, mg (mT 869 (by decide +kernel)) rfl⟩, by decide +kernel, by decide +kernel, by decide +kernel, by decide⟩
theorem sX9_parish : Cond.instanceMethod yX9_parish ∈ lw_good ∧ Cond.selects yX9_parish.cls yX9_parish yX9_parish ∈ lw_good := ⟨mg (mT 867 (by decide +kernel)) rfl, mg (mT 868 (by decide +kernel)) rfl⟩
theorem vL_22 : VOK RL 22 RX9 yX9_parish cX9_parish 2 (some .int) 0 := vok (mg (mT 866 (by decide +kernel)) rfl) sX9_parish mX9_parish rfl
theorem mX8_man : MOK yX8_man cX8_man 4 (some .int) 3 := ⟨⟨mg (mT 1 (by decide +kernel)) rfl, mg (mT 449 (by decide +kernel)) rfl⟩, by decide +kernel, by decide +kernel, by decide +kernel, by decide⟩
theorem sX8_man : Cond.instanceMethod yX8_man ∈ lw_good ∧ Cond.selects yX8_man.cls yX8_man yX8_man ∈ lw_good := ⟨mg (mT 447 (by decide +kernel)) rfl, mg (mT 448 (by decide +kernel)) rfl⟩
theorem vL_23 : VOK RL 23 RX8 yX8_man cX8_man 4 (some .int) 3 := vok (mg (mT 446 (by decide +kernel)) rfl) sX8_man mX8_man rfl
theorem mX9_man : MOK yX9_man cX9_man 6 (some .int) 3 := ⟨⟨mg (mT 11 (by decide +kernel)) rfl, mg (mT 928 (by decide +kernel)) rfl⟩, by decide +kernel, by decide +kernel, by decide +kernel, by decide⟩
theorem sX9_man : Cond.instanceMethod yX9_man ∈ lw_good ∧ Cond.selects yX9_man.cls yX9_man yX9_man ∈ lw_good := ⟨mg (mT 926 (by decide +kernel)) rfl, mg (mT 927 (by decide +kernel)) rfl⟩
theorem vL_27 : VOK RL 27 RX9 yX9_man cX9_man 6 (some .int) 3 := vok (mg (mT 925 (by decide +kernel)) rfl) sX9_man mX9_man rfl
theorem mX8_of : MOK yX8_of cX8_of 3 (some .int) 2 := ⟨⟨mg (mT 1 (by decide +kernel)) rfl, mg (mT 464 (by decide +kernel)) rfl⟩, by decide +kernel, by decide +kernel, by decide +kernel, by decide⟩
theorem sX8_of : Cond.instanceMethod yX8_of ∈ lw_good ∧ Cond.selects yX8_of.cls yX8_of yX8_of ∈ lw_good := ⟨mg (mT 462 (by decide +kernel)) rfl, mg (mT 463 (by decide +kernel)) rfl⟩
theorem vL_28 : VOK RL 28 RX8 yX8_of cX8_of 3 (some .int) 2 := vok (mg (mT 461 (by decide +kernel)) rfl) sX8_of mX8_of rfl
theorem mX9_of : MOK yX9_of cX9_of 3 (some .int) 2 := ⟨⟨mg (mT 11 (by decide +kernel)) rfl, mg (mT 935 (by decide +kernel)) rfl⟩, by decide +kernel, by decide +kernel, by decide +kernel, by decide⟩
theorem sX9_of : Cond.instanceMethod yX9_of ∈ lw_good ∧ Cond.selects yX9_of.cls yX9_of yX9_of ∈ lw_good := ⟨mg (mT 933 (by decide +kernel)) rfl, mg (mT 934 (by decide +kernel)) rfl⟩
theorem vL_32 : VOK RL 32 RX9 yX9_of cX9_of 3 (some .int) 2 := vok (mg (mT 932 (by decide +kernel)) rfl) sX9_of mX9_of rfl
theorem mX8_row : MOK yX8_row cX8_row 5 (some .int) 3 := ⟨⟨mg (mT 1 (by decide +kernel)) rfl, mg (mT 512 (by decide +kernel)) rfl⟩, by decide +kernel, by decide +kernel, by decide +kernel, by decide⟩
theorem sX8_row : Cond.instanceMethod yX8_row ∈ lw_good ∧ Cond.selects yX8_row.cls yX8_row yX8_row ∈ lw_good := ⟨mg (mT 510 (by decide +kernel)) rfl, mg (mT 511 (by decide +kernel)) rfl⟩
theorem vL_33 : VOK RL 33 RX8 yX8_row cX8_row 5 (some .int) 3 := vok (mg (mT 509 (by decide +kernel)) rfl) sX8_row mX8_row rfl
theorem mX9_row : MOK yX9_row cX9_row 4 (some .int) 3 := ⟨⟨mg (mT 11 (by decide +kernel)) rfl, mg (mT 975 (by decide +kernel)) rfl⟩, by decide +kernel, by decide +kernel, by decide +kernel, by decide⟩
theorem sX9_row : Cond.instanceMethod yX9_row ∈ lw_good ∧ Cond.selects yX9_row.cls yX9_row yX9_row ∈ lw_good := ⟨mg (mT 973 (by decide +kernel)) rfl, mg (mT 974 (by decide +kernel)) rfl⟩
theorem vL_36 : VOK RL 36 RX9 yX9_row cX9_row 4 (some .int) 3 := vok (mg (mT 972 (by decide +kernel)) rfl) sX9_row mX9_row rfl
theorem mX8_peg : MOK yX8_peg cX8_peg 4 (some .int) 2 := ⟨⟨mg (mT 1 (by decide +kernel)) rfl, mg (mT 516 (by decide +kernel)) rfl⟩, by decide +kernel, by decide +kernel, by decide +kernel, by decide⟩
theorem sX8_peg : Cond.instanceMethod yX8_peg ∈ lw_good ∧ Cond.selects yX8_peg.cls yX8_peg yX8_peg ∈ lw_good := ⟨mg (mT 514 (by decide +kernel)) rfl, mg (mT 515 (by decide +kernel)) rfl⟩
theorem vL_37 : VOK RL 37 RX8 yX8_peg cX8_peg 4 (some .int) 2 := vok (mg (mT 513 (by decide +kernel)) rfl) sX8_peg mX8_peg rfl
theorem mX9_peg : MOK yX9_peg cX9_peg 3 (some .int) 2 := ⟨⟨mg (mT 11 (by decide +kernel)) rfl, mg (mT 983 (by decide +kernel)) rfl⟩, by decide +kernel, by decide +kernel, by decide +kernel, by decide⟩
theorem sX9_peg : Cond.instanceMethod yX9_peg ∈ lw_good ∧ Cond.selects yX9_peg.cls yX9_peg yX9_peg ∈ lw_good := ⟨mg (mT 981 (by decide +kernel)) rfl, mg (mT 982 (by decide +kernel)) rfl⟩
theorem vL_40 : VOK RL 40 RX9 yX9_peg cX9_peg 3 (some .int) 2 := vok (mg (mT 980 (by decide +kernel)) rfl) sX9_peg mX9_peg rfl
theorem mX8_away : MOK yX8_away cX8_away 4 (some .int) 2 := ⟨⟨mg (mT 1 (by decide +kernel)) rfl, mg (mT 520 (by decide +kernel)) rfl⟩, by decide +kernel, by decide +kernel, by decide +kernel, by decide⟩
theorem sX8_away : Cond.instanceMethod yX8_away ∈ lw_good ∧ Cond.selects yX8_away.cls yX8_away yX8_away ∈ lw_good := ⟨mg (mT 518 (by decide +kernel)) rfl, mg (mT 519 (by decide +kernel)) rfl⟩
theorem vL_41 : VOK RL 41 RX8 yX8_away cX8_away 4 (some .int) 2 := vok (mg (mT 517 (by decide +kernel)) rfl) sX8_away mX8_away rfl
theorem mX9_away : MOK yX9_away cX9_away 3 (some .int) 2 := ⟨⟨mg (mT 11 (by decide +kernel)) rfl, mg (mT 987 (by decide +kernel)) rfl⟩, by decide +kernel, by decide +kernel, by decide +kernel, by decide⟩
theorem sX9_away : Cond.instanceMethod yX9_away ∈ lw_good ∧ Cond.selects yX9_away.cls yX9_away yX9_away ∈ lw_good := ⟨mg (mT 985 (by decide +kernel)) rfl, mg (mT 986 (by decide +kernel)) rfl⟩
theorem vL_45 : VOK RL 45 RX9 yX9_away cX9_away 3 (some .int) 2 := vok (mg (mT 984 (by decide +kernel)) rfl) sX9_away mX9_away rfl
theorem mX8_lay : MOK yX8_lay cX8_lay 4 (some .int) 2 := ⟨⟨mg (mT 1 (by decide +kernel)) rfl, mg (mT 529 (by decide +kernel)) rfl⟩, by decide +kernel, by decide +kernel, by decide +kernel, by decide⟩
theorem sX8_lay : Cond.instanceMethod yX8_lay ∈ lw_good ∧ Cond.selects yX8_lay.cls yX8_lay yX8_lay ∈ lw_good := ⟨mg (mT 527 (by decide +kernel)) rfl, mg (mT 528 (by decide +kernel)) rfl⟩
theorem vL_46 : VOK RL 46 RX8 yX8_lay cX8_lay 4 (some .int) 2 := vok (mg (mT 526 (by decide +kernel)) rfl) sX8_lay mX8_lay rfl
theorem mX9_lay : MOK yX9_lay cX9_lay 3 (some .int) 2 := ⟨⟨mg (mT 11 (by decide +kernel)) rfl, mg (mT 991 (by decide +kernel)) rfl⟩, by decide +kernel, by decide +kernel, by decide +kernel, by decide⟩
theorem sX9_lay : Cond.instanceMethod yX9_lay ∈ lw_good ∧ Cond.selects yX9_lay.cls yX9_lay yX9_lay ∈ lw_good := ⟨mg (mT 989 (by decide +kernel)) rfl, mg (mT 990 (by decide +kernel)) rfl⟩
theorem vL_49 : VOK RL 49 RX9 yX9_lay cX9_lay 3 (some .int) 2 := vok (mg (mT 988 (by decide +kernel)) rfl) sX9_lay mX9_lay rfl
theorem mX8_plead : MOK yX8_plead cX8_plead 4 (some .int) 2 := ⟨⟨mg (mT 1 (by decide +kernel)) rfl, mg (mT 534 (by decide +kernel)) rfl⟩, by decide +kernel, by decide +kernel, by decide +kernel, by decide⟩
theorem sX8_plead : Cond.instanceMethod yX8_plead ∈ lw_good ∧ Cond.selects yX8_plead.cls yX8_plead yX8_plead ∈ lw_good := ⟨mg (mT 532 (by decide +kernel)) rfl, mg (mT 533 (by decide +kernel)) rfl⟩
theorem vL_50 : VOK RL 50 RX8 yX8_plead cX8_plead 4 (some .int) 2 := vok (mg (mT 531 (by decide +kernel)) rfl) sX8_plead mX8_plead rfl
theorem mX9_plead : MOK yX9_plead cX9_plead 3 (some .int) 2 := ⟨⟨mg (mT 11 (by decide +kernel)) rfl, mg (mT 998 (by decide +kernel)) rfl⟩, by decide +kernel, by decide +kernel, by decide +kernel, by decide⟩
theorem sX9_plead : Cond.instanceMethod yX9_plead ∈ lw_good ∧ Cond.selects yX9_plead.cls yX9_plead yX9_plead ∈ lw_good := ⟨mg (mT 996 (by decide +kernel)) rfl, mg (mT 997 (by decide +kernel)) rfl⟩
theorem vL_53 : VOK RL 53 RX9 yX9_plead cX9_plead 3 (some .int) 2 := vok (mg (mT 995 (by decide +kernel)) rfl) sX9_plead mX9_plead rfl
theorem mX8_told : MOK yX8_told cX8_told 2 (some .int) 1 := ⟨⟨mg (mT 1 (by decide +kernel)) rfl, mg (mT 538 (by decide +kernel)) rfl⟩, by decide +kernel, by decide +kernel, by decide +kernel, by decide⟩
theorem sX8_told : Cond.instanceMethod yX8_told ∈ lw_good ∧ Cond.selects yX8_told.cls yX8_told yX8_told ∈ lw_good := ⟨mg (mT 536 (by decide +kernel)) rfl, mg (mT 537 (by decide +kernel)) rfl⟩
theorem vL_54 : VOK RL 54 RX8 yX8_told cX8_told 2 (some .int) 1 := vok (mg (mT 535 (by decide +kernel)) rfl) sX8_told mX8_told rfl
theorem mX9_told : MOK yX9_told cX9_told 2 (some .int) 1 := ⟨⟨mg (mT 11 (by decide +kernel)) rfl, mg (mT 1002 (by decide +kernel)) rfl⟩, by decide +kernel, by decide +kernel, by decide +kernel, by decide⟩
theorem sX9_told : Cond.instanceMethod yX9_told ∈ lw_good ∧ Cond.selects yX9_told.cls yX9_told yX9_told ∈ lw_good := ⟨mg (mT 1000 (by decide +kernel)) rfl, mg (mT 1001 (by decide +kernel)) rfl⟩
theorem vL_57 : VOK RL 57 RX9 yX9_told cX9_told 2 (some .int) 1 := vok (mg (mT 999 (by decide +kernel)) rfl) sX9_told mX9_told rfl
theorem mX8_pass : MOK yX8_pass cX8_pass 2 (some .int) 1 := ⟨⟨mg (mT 1 (by decide +kernel)) rfl, mg (mT 564 (by decide +kernel)) rfl⟩, by decide +kernel, by decide +kernel, by decide +kernel, by decide⟩
theorem sX8_pass : Cond.instanceMethod yX8_pass ∈ lw_good ∧ Cond.selects yX8_pass.cls yX8_pass yX8_pass ∈ lw_good := ⟨mg (mT 562 (by decide +kernel)) rfl, mg (mT 563 (by decide +kernel)) rfl⟩
theorem vL_58 : VOK RL 58 RX8 yX8_pass cX8_pass 2 (some .int) 1 := vok (mg (mT 561 (by decide +kernel)) rfl) sX8_pass mX8_pass rfl
theorem mX9_pass : MOK yX9_pass cX9_pass 3 (some .int) 1 := ⟨⟨mg (mT 11 (by decide +kernel)) rfl, mg (mT 1023 (by decide +kernel)) rfl⟩, by decide +kernel, by decide +kernel, by decide +kernel, by decide⟩
theorem sX9_pass : Cond.instanceMethod yX9_pass ∈ lw_good ∧ Cond.selects yX9_pass.cls yX9_pass yX9_pass ∈ lw_good := ⟨mg (mT 1021 (by decide +kernel)) rfl, mg (mT 1022 (by decide +kernel)) rfl⟩
theorem vL_61 : VOK RL 61 RX9 yX9_pass cX9_pass 3 (some .int) 1 := vok (mg (mT 1020 (by decide +kernel)) rfl) sX9_pass mX9_pass rfl
theorem mX8_line : MOK yX8_line cX8_line 5 (some .int) 3 := ⟨⟨mg (mT 1 (by decide +kernel)) rfl, mg (mT 579 (by decide +kernel)) rfl⟩, by decide +kernel, by decide +kernel, by decide +kernel, by decide⟩
theorem sX8_line : Cond.instanceMethod yX8_line ∈ lw_good ∧ Cond.selects yX8_line.cls yX8_line yX8_line ∈ lw_good := ⟨mg (mT 577 (by decide +kernel)) rfl, mg (mT 578 (by decide +kernel)) rfl⟩
theorem vL_62 : VOK RL 62 RX8 yX8_line cX8_line 5 (some .int) 3 := vok (mg (mT 576 (by decide +kernel)) rfl) sX8_line mX8_line rfl
theorem mX9_line : MOK yX9_line cX9_line 5 (some .int) 3 := ⟨⟨mg (mT 11 (by decide +kernel)) rfl, mg (mT 1035 (by decide +kernel)) rfl⟩, by decide +kernel, by decide +kernel, by decide +kernel, by decide⟩
theorem sX9_line : Cond.instanceMethod yX9_line ∈ lw_good ∧ Cond.selects yX9_line.cls yX9_line yX9_line ∈ lw_good := ⟨mg (mT 1033 (by decide +kernel)) rfl, mg (mT 1034 (by decide +kernel)) rfl⟩
theorem vL_65 : VOK RL 65 RX9 yX9_line cX9_line 5 (some .int) 3 := vok (mg (mT 1032 (by decide +kernel)) rfl) sX9_line mX9_line rfl
theorem mX8_strays : MOK yX8_strays cX8_strays 5 (some .int) 3 := ⟨⟨mg (mT 1 (by decide +kernel)) rfl, mg (mT 586 (by decide +kernel)) rfl⟩, by decide +kernel, by decide +kernel, by decide +kernel, by decide⟩
theorem sX8_strays : Cond.instanceMethod yX8_strays ∈ lw_good ∧ Cond.selects yX8_strays.cls yX8_strays yX8_strays ∈ lw_good := ⟨mg (mT 584 (by decide +kernel)) rfl, mg (mT 585 (by decide +kernel)) rfl⟩
theorem vL_66 : VOK RL 66 RX8 yX8_strays cX8_strays 5 (some .int) 3 := vok (mg (mT 583 (by decide +kernel)) rfl) sX8_strays mX8_strays rfl
theorem mX9_strays : MOK yX9_strays cX9_strays 4 (some .int) 3 := ⟨⟨mg (mT 11 (by decide +kernel)) rfl, mg (mT 1039 (by decide +kernel)) rfl⟩, by decide +kernel, by decide +kernel, by decide +kernel, by decide⟩
theorem sX9_strays : Cond.instanceMethod yX9_strays ∈ lw_good ∧ Cond.selects yX9_strays.cls yX9_strays yX9_strays ∈ lw_good := ⟨mg (mT 1037 (by decide +kernel)) rfl, mg (mT 1038 (by decide +kernel)) rfl⟩
theorem vL_69 : VOK RL 69 RX9 yX9_strays cX9_strays 4 (some .int) 3 := vok (mg (mT 1036 (by decide +kernel)) rfl) sX9_strays mX9_strays rfl
theorem mX8_on : MOK yX8_on cX8_on 5 (some .int) 2 := ⟨⟨mg (mT 1 (by decide +kernel)) rfl, mg (mT 591 (by decide +kernel)) rfl⟩, by decide +kernel, by decide +kernel, by decide +kernel, by decide⟩
theorem sX8_on : Cond.instanceMethod yX8_on ∈ lw_good ∧ Cond.selects yX8_on.cls yX8_on yX8_on ∈ lw_good := ⟨mg (mT 589 (by decide +kernel)) rfl, mg (mT 590 (by decide +kernel)) rfl⟩
theorem vL_70 : VOK RL 70 RX8 yX8_on cX8_on 5 (some .int) 2 := vok (mg (mT 588 (by decide +kernel)) rfl) sX8_on mX8_on rfl
theorem mX9_on : MOK yX9_on cX9_on 4 (some .int) 2 := ⟨⟨mg (mT 11 (by decide +kernel)) rfl, mg (mT 1043 (by decide +kernel)) rfl⟩, by decide +kernel, by decide +kernel, by decide +kernel, by decide⟩
theorem sX9_on : Cond.instanceMethod yX9_on ∈ lw_good ∧ Cond.selects yX9_on.cls yX9_on yX9_on ∈ lw_good := ⟨mg (mT 1041 (by decide +kernel)) rfl, mg (mT 1042 (by decide +kernel)) rfl⟩
theorem vL_73 : VOK RL 73 RX9 yX9_on cX9_on 4 (some .int) 2 := vok (mg (mT 1040 (by decide +kernel)) rfl) sX9_on mX9_on rfl
theorem mX8_when : MOK yX8_when cX8_when 4 (some .int) 1 := ⟨⟨mg (mT 1 (by decide +kernel)) rfl, mg (mT 601 (by decide +kernel)) rfl⟩, by decide +kernel, by decide +kernel, by decide +kernel, by decide⟩
theorem sX8_when : Cond.instanceMethod yX8_when ∈ lw_good ∧ Cond.selects yX8_when.cls yX8_when yX8_when ∈ lw_good := ⟨mg (mT 599 (by decide +kernel)) rfl, mg (mT 600 (by decide +kernel)) rfl⟩
theorem vL_74 : VOK RL 74 RX8 yX8_when cX8_when 4 (some .int) 1 := vok (mg (mT 598 (by decide +kernel)) rfl) sX8_when mX8_when rfl
theorem mX9_when : MOK yX9_when cX9_when 4 (some .int) 1 := ⟨⟨mg (mT 11 (by decide +kernel)) rfl, mg (mT 1055 (by decide +kernel)) rfl⟩, by decide +kernel, by decide +kernel, by decide +kernel, by decide⟩
theorem sX9_when : Cond.instanceMethod yX9_when ∈ lw_good ∧ Cond.selects yX9_when.cls yX9_when yX9_when ∈ lw_good := ⟨mg (mT 1053 (by decide +kernel)) rfl, mg (mT 1054 (by decide +kernel)) rfl⟩
theorem vL_77 : VOK RL 77 RX9 yX9_when cX9_when 4 (some .int) 1 := vok (mg (mT 1052 (by decide +kernel)) rfl) sX9_when mX9_when rfl
theorem mX8_start : MOK yX8_start cX8_start 6 (some .int) 1 := ⟨⟨mg (mT 1 (by decide +kernel)) rfl, mg (mT 605 (by decide +kernel)) rfl⟩, by decide +kernel, by decide +kernel, by decide +kernel, by decide⟩
theorem sX8_start : Cond.instanceMethod yX8_start ∈ lw_good ∧ Cond.selects yX8_start.cls yX8_start yX8_start ∈ lw_good := ⟨mg (mT 603 (by decide +kernel)) rfl, mg (mT 604 (by decide +kernel)) rfl⟩
theorem vL_78 : VOK RL 78 RX8 yX8_start cX8_start 6 (some .int) 1 := vok (mg (mT 602 (by decide +kernel)) rfl) sX8_start mX8_start rfl
theorem mX9_start : MOK yX9_start cX9_start 4 (some .int) 1 := ⟨⟨mg (mT 11 (by decide +kernel)) rfl, mg (mT 1059 (by decide +kernel)) rfl⟩, by decide +kernel, by decide +kernel, by decide +kernel, by decide⟩
theorem sX9_start : Cond.instanceMethod yX9_start ∈ lw_good ∧ Cond.selects yX9_start.cls yX9_start yX9_start ∈ lw_good := ⟨mg (mT 1057 (by decide +kernel)) rfl, mg (mT 1058 (by decide +kernel)) rfl⟩
theorem vL_81 : VOK RL 81 RX9 yX9_start cX9_start 4 (some .int) 1 := vok (mg (mT 1056 (by decide +kernel)) rfl) sX9_start mX9_start rfl
theorem mX8_waver : MOK yX8_waver cX8_waver 7 (some .int) 2 := ⟨⟨mg (mT 1 (by decide +kernel)) rfl, mg (mT 609 (by decide +kernel)) rfl⟩, by decide +kernel, by decide +kernel, by decide +kernel, by decide⟩
theorem sX8_waver : Cond.instanceMethod yX8_waver ∈ lw_good ∧ Cond.selects yX8_waver.cls yX8_waver yX8_waver ∈ lw_good := ⟨mg (mT 607 (by decide +kernel)) rfl, mg (mT 608 (by decide +kernel)) rfl⟩
theorem vL_82 : VOK RL 82 RX8 yX8_waver cX8_waver 7 (some .int) 2 := vok (mg (mT 606 (by decide +kernel)) rfl) sX8_waver mX8_waver rfl
theorem mX9_waver : MOK yX9_waver cX9_waver 7 (some .int) 2 := ⟨⟨mg (mT 11 (by decide +kernel)) rfl, mg (mT 1063 (by decide +kernel)) rfl⟩, by decide +kernel, by decide +kernel, by decide +kernel, by decide⟩
theorem sX9_waver : Cond.instanceMethod yX9_waver ∈ lw_good ∧ Cond.selects yX9_waver.cls yX9_waver yX9_waver ∈ lw_good := ⟨mg (mT 1061 (by decide +kernel)) rfl, mg (mT 1062 (by decide +kernel)) rfl⟩
theorem vL_85 : VOK RL 85 RX9 yX9_waver cX9_waver 7 (some .int) 2 := vok (mg (mT 1060 (by decide +kernel)) rfl) sX9_waver mX9_waver rfl
theorem mX8_clear : MOK yX8_clear cX8_clear 2 (some .int) 1 := ⟨⟨mg (mT 1 (by decide +kernel)) rfl, mg (mT 620 (by decide +kernel)) rfl⟩, by decide +kernel, by decide +kernel, by decide +kernel, by decide⟩
theorem sX8_clear : Cond.instanceMethod yX8_clear ∈ lw_good ∧ Cond.selects yX8_clear.cls yX8_clear yX8_clear ∈ lw_good := ⟨mg (mT 618 (by decide +kernel)) rfl, mg (mT 619 (by decide +kernel)) rfl⟩
theorem vL_86 : VOK RL 86 RX8 yX8_clear cX8_clear 2 (some .int) 1 := vok (mg (mT 617 (by decide +kernel)) rfl) sX8_clear mX8_clear rfl
theorem mX9_clear : MOK yX9_clear cX9_clear 6 (some .int) 1 := ⟨⟨mg (mT 11 (by decide +kernel)) rfl, mg (mT 1071 (by decide +kernel)) rfl⟩, by decide +kernel, by decide +kernel, by decide +kernel, by decide⟩
theorem sX9_clear : Cond.instanceMethod yX9_clear ∈ lw_good ∧ Cond.selects yX9_clear.cls yX9_clear yX9_clear ∈ lw_good := ⟨mg (mT 1069 (by decide +kernel)) rfl, mg (mT 1070 (by decide +kernel)) rfl⟩
theorem vL_89 : VOK RL 89 RX9 yX9_clear cX9_clear 6 (some .int) 1 := vok (mg (mT 1068 (by decide +kernel)) rfl) sX9_clear mX9_clear rfl
theorem mX8_bar : MOK yX8_bar cX8_bar 3 (some .int) 1 := ⟨⟨mg (mT 1 (by decide +kernel)) rfl, mg (mT 656 (by decide +kernel)) rfl⟩, by decide +kernel, by decide +kernel, by decide +kernel, by decide⟩
theorem sX8_bar : Cond.instanceMethod yX8_bar ∈ lw_good ∧ Cond.selects yX8_bar.cls yX8_bar yX8_bar ∈ lw_good := ⟨mg (mT 654 (by decide +kernel)) rfl, mg (mT 655 (by decide +kernel)) rfl⟩
theorem vL_90 : VOK RL 90 RX8 yX8_bar cX8_bar 3 (some .int) 1 := vok (mg (mT 653 (by decide +kernel)) rfl) sX8_bar mX8_bar rfl
theorem mX9_bar : MOK yX9_bar cX9_bar 5 (some .int) 1 := ⟨⟨mg (mT 11 (by decide +kernel)) rfl, mg (mT 1082 (by decide +kernel)) rfl⟩, by decide +kernel, by decide +kernel, by decide +kernel, by decide⟩
theorem sX9_bar : Cond.instanceMethod yX9_bar ∈ lw_good ∧ Cond.selects yX9_bar.cls yX9_bar yX9_bar ∈ lw_good := ⟨mg (mT 1080 (by decide +kernel)) rfl, mg (mT 1081 (by decide +kernel)) rfl⟩
theorem vL_93 : VOK RL 93 RX9 yX9_bar cX9_bar 5 (some .int) 1 := vok (mg (mT 1079 (by decide +kernel)) rfl) sX9_bar mX9_bar rfl
theorem mX8_see : MOK yX8_see cX8_see 5 (some .int) 3 := ⟨⟨mg (mT 1 (by decide +kernel)) rfl, mg (mT 662 (by decide +kernel)) rfl⟩, by decide +kernel, by decide +kernel, by decide +kernel, by decide⟩
theorem sX8_see : Cond.instanceMethod yX8_see ∈ lw_good ∧ Cond.selects yX8_see.cls yX8_see yX8_see ∈ lw_good := ⟨mg (mT 660 (by decide +kernel)) rfl, mg (mT 661 (by decide +kernel)) rfl⟩
theorem vL_94 : VOK RL 94 RX8 yX8_see cX8_see 5 (some .int) 3 := vok (mg (mT 659 (by decide +kernel)) rfl) sX8_see mX8_see rfl
theorem mX9_see : MOK yX9_see cX9_see 4 (some .int) 3 := ⟨⟨mg (mT 11 (by decide +kernel)) rfl, mg (mT 1086 (by decide +kernel)) rfl⟩, by decide +kernel, by decide +kernel, by decide +kernel, by decide⟩
theorem sX9_see : Cond.instanceMethod yX9_see ∈ lw_good ∧ Cond.selects yX9_see.cls yX9_see yX9_see ∈ lw_good := ⟨mg (mT 1084 (by decide +kernel)) rfl, mg (mT 1085 (by decide +kernel)) rfl⟩
theorem vL_97 : VOK RL 97 RX9 yX9_see cX9_see 4 (some .int) 3 := vok (mg (mT 1083 (by decide +kernel)) rfl) sX9_see mX9_see rfl
theorem mX8_from : MOK yX8_from cX8_from 4 (some .int) 1 := ⟨⟨mg (mT 1 (by decide +kernel)) rfl, mg (mT 666 (by decide +kernel)) rfl⟩, by decide +kernel, by decide +kernel, by decide +kernel, by decide⟩
theorem sX8_from : Cond.instanceMethod yX8_from ∈ lw_good ∧ Cond.selects yX8_from.cls yX8_from yX8_from ∈ lw_good := ⟨mg (mT 664 (by decide +kernel)) rfl, mg (mT 665 (by decide +kernel)) rfl⟩
theorem vL_98 : VOK RL 98 RX8 yX8_from cX8_from 4 (some .int) 1 := vok (mg (mT 663 (by decide +kernel)) rfl) sX8_from mX8_from rfl
theorem mX9_from : MOK yX9_from cX9_from 4 (some .int) 1 := ⟨⟨mg (mT 11 (by decide +kernel)) rfl, mg (mT 1090 (by decide +kernel)) rfl⟩, by decide +kernel, by decide +kernel, by decide +kernel, by decide⟩
theorem sX9_from : Cond.instanceMethod yX9_from ∈ lw_good ∧ Cond.selects yX9_from.cls yX9_from yX9_from ∈ lw_good := ⟨mg (mT 1088 (by decide +kernel)) rfl, mg (mT 1089 (by decide +kernel)) rfl⟩
theorem vL_101 : VOK RL 101 RX9 yX9_from cX9_from 4 (some .int) 1 := vok (mg (mT 1087 (by decide +kernel)) rfl) sX9_from mX9_from rfl
theorem mX8_firm : MOK yX8_firm cX8_firm 6 (some .int) 2 := ⟨⟨mg (mT 1 (by decide +kernel)) rfl, mg (mT 678 (by decide +kernel)) rfl⟩, by decide +kernel, by decide +kernel, by decide +kernel, by decide⟩
theorem sX8_firm : Cond.instanceMethod yX8_firm ∈ lw_good ∧ Cond.selects yX8_firm.cls yX8_firm yX8_firm ∈ lw_good := ⟨mg (mT 676 (by decide +kernel)) rfl, mg (mT 677 (by decide +kernel)) rfl⟩
theorem vL_102 : VOK RL 102 RX8 yX8_firm cX8_firm 6 (some .int) 2 := vok (mg (mT 675 (by decide +kernel)) rfl) sX8_firm mX8_firm rfl
theorem mX9_firm : MOK yX9_firm cX9_firm 8 (some .int) 2 := ⟨⟨mg (mT 11 (by decide +kernel)) rfl, mg (mT 1098 (by decide +kernel)) rfl⟩, by decide +kernel, by decide +kernel, by decide +kernel, by decide⟩
theorem sX9_firm : Cond.instanceMethod yX9_firm ∈ lw_good ∧ Cond.selects yX9_firm.cls yX9_firm yX9_firm ∈ lw_good := ⟨mg (mT 1096 (by decide +kernel)) rfl, mg (mT 1097 (by decide +kernel)) rfl⟩
theorem vL_105 : VOK RL 105 RX9 yX9_firm cX9_firm 8 (some .int) 2 := vok (mg (mT 1095 (by decide +kernel)) rfl) sX9_firm mX9_firm rfl
theorem mX8_odds : MOK yX8_odds cX8_odds 6 (some .long) 3 := ⟨⟨mg (mT 1 (by decide +kernel)) rfl, mg (mT 682 (by decide +kernel)) rfl⟩, by decide +kernel, by decide +kernel, by decide +kernel, by decide⟩
theorem sX8_odds : Cond.instanceMethod yX8_odds ∈ lw_good ∧ Cond.selects yX8_odds.cls yX8_odds yX8_odds ∈ lw_good := ⟨mg (mT 680 (by decide +kernel)) rfl, mg (mT 681 (by decide +kernel)) rfl⟩
theorem vL_106 : VOK RL 106 RX8 yX8_odds cX8_odds 6 (some .long) 3 := vok (mg (mT 679 (by decide +kernel)) rfl) sX8_odds mX8_odds rfl
theorem mX9_odds : MOK yX9_odds cX9_odds 7 (some .long) 3 := ⟨⟨mg (mT 11 (by decide +kernel)) rfl, mg (mT 1102 (by decide +kernel)) rfl⟩, by decide +kernel, by decide +kernel, by decide +kernel, by decide⟩
theorem sX9_odds : Cond.instanceMethod yX9_odds ∈ lw_good ∧ Cond.selects yX9_odds.cls yX9_odds yX9_odds ∈ lw_good := ⟨mg (mT 1100 (by decide +kernel)) rfl, mg (mT 1101 (by decide +kernel)) rfl⟩
theorem vL_110 : VOK RL 110 RX9 yX9_odds cX9_odds 7 (some .long) 3 := vok (mg (mT 1099 (by decide +kernel)) rfl) sX9_odds mX9_odds rfl
theorem mX8_mean : MOK yX8_mean cX8_mean 5 (some .long) 1 := ⟨⟨mg (mT 1 (by decide +kernel)) rfl, mg (mT 697 (by decide +kernel)) rfl⟩, by decide +kernel, by decide +kernel, by decide +kernel, by decide⟩
theorem sX8_mean : Cond.instanceMethod yX8_mean ∈ lw_good ∧ Cond.selects yX8_mean.cls yX8_mean yX8_mean ∈ lw_good := ⟨mg (mT 695 (by decide +kernel)) rfl, mg (mT 696 (by decide +kernel)) rfl⟩
theorem vL_111 : VOK RL 111 RX8 yX8_mean cX8_mean 5 (some .long) 1 := vok (mg (mT 694 (by decide +kernel)) rfl) sX8_mean mX8_mean rfl
theorem mX9_mean : MOK yX9_mean cX9_mean 8 (some .long) 1 := ⟨⟨mg (mT 11 (by decide +kernel)) rfl, mg (mT 1111 (by decide +kernel)) rfl⟩, by decide +kernel, by decide +kernel, by decide +kernel, by decide⟩
theorem sX9_mean : Cond.instanceMethod yX9_mean ∈ lw_good ∧ Cond.selects yX9_mean.cls yX9_mean yX9_mean ∈ lw_good := ⟨mg (mT 1109 (by decide +kernel)) rfl, mg (mT 1110 (by decide +kernel)) rfl⟩
theorem vL_115 : VOK RL 115 RX9 yX9_mean cX9_mean 8 (some .long) 1 := vok (mg (mT 1108 (by decide +kernel)) rfl) sX9_mean mX9_mean rfl
theorem mX8_plan : MOK yX8_plan cX8_plan 4 (some .int) 2 := ⟨⟨mg (mT 1 (by decide +kernel)) rfl, mg (mT 701 (by decide +kernel)) rfl⟩, by decide +kernel, by decide +kernel, by decide +kernel, by decide⟩
theorem sX8_plan : Cond.instanceMethod yX8_plan ∈ lw_good ∧ Cond.selects yX8_plan.cls yX8_plan yX8_plan ∈ lw_good := ⟨mg (mT 699 (by decide +kernel)) rfl, mg (mT 700 (by decide +kernel)) rfl⟩
theorem vL_116 : VOK RL 116 RX8 yX8_plan cX8_plan 4 (some .int) 2 := vok (mg (mT 698 (by decide +kernel)) rfl) sX8_plan mX8_plan rfl
theorem mX9_plan : MOK yX9_plan cX9_plan 3 (some .int) 2 := ⟨⟨mg (mT 11 (by decide +kernel)) rfl, mg (mT 1115 (by decide +kernel)) rfl⟩, by decide +kernel, by decide +kernel, by decide +kernel, by decide⟩
theorem sX9_plan : Cond.instanceMethod yX9_plan ∈ lw_good ∧ Cond.selects yX9_plan.cls yX9_plan yX9_plan ∈ lw_good := ⟨mg (mT 1113 (by decide +kernel)) rfl, mg (mT 1114 (by decide +kernel)) rfl⟩
theorem vL_119 : VOK RL 119 RX9 yX9_plan cX9_plan 3 (some .int) 2 := vok (mg (mT 1112 (by decide +kernel)) rfl) sX9_plan mX9_plan rfl
theorem mX8_done : MOK yX8_done cX8_done 5 (some .int) 1 := ⟨⟨mg (mT 1 (by decide +kernel)) rfl, mg (mT 705 (by decide +kernel)) rfl⟩, by decide +kernel, by decide +kernel, by decide +kernel, by decide⟩
theorem sX8_done : Cond.instanceMethod yX8_done ∈ lw_good ∧ Cond.selects yX8_done.cls yX8_done yX8_done ∈ lw_good := ⟨mg (mT 703 (by decide +kernel)) rfl, mg (mT 704 (by decide +kernel)) rfl⟩
theorem vL_120 : VOK RL 120 RX8 yX8_done cX8_done 5 (some .int) 1 := vok (mg (mT 702 (by decide +kernel)) rfl) sX8_done mX8_done rfl
theorem mX9_done : MOK yX9_done cX9_done 4 (some .int) 1 := ⟨⟨mg (mT 11 (by decide +kernel)) rfl, mg (mT 1119 (by decide +kernel)) rfl⟩, by decide +kernel, by decide +kernel, by decide +kernel, by decide⟩
theorem sX9_done : Cond.instanceMethod yX9_done ∈ lw_good ∧ Cond.selects yX9_done.cls yX9_done yX9_done ∈ lw_good := ⟨mg (mT 1117 (by decide +kernel)) rfl, mg (mT 1118 (by decide +kernel)) rfl⟩
theorem vL_123 : VOK RL 123 RX9 yX9_done cX9_done 4 (some .int) 1 := vok (mg (mT 1116 (by decide +kernel)) rfl) sX9_done mX9_done rfl
theorem mX8_book : MOK yX8_book cX8_book 3 (some .int) 2 := ⟨⟨mg (mT 1 (by decide +kernel)) rfl, mg (mT 713 (by decide +kernel)) rfl⟩, by decide +kernel, by decide +kernel, by decide +kernel, by decide⟩
theorem sX8_book : Cond.instanceMethod yX8_book ∈ lw_good ∧ Cond.selects yX8_book.cls yX8_book yX8_book ∈ lw_good := ⟨mg (mT 711 (by decide +kernel)) rfl, mg (mT 712 (by decide +kernel)) rfl⟩
theorem vL_124 : VOK RL 124 RX8 yX8_book cX8_book 3 (some .int) 2 := vok (mg (mT 710 (by decide +kernel)) rfl) sX8_book mX8_book rfl
theorem mX9_book : MOK yX9_book cX9_book 3 (some .int) 2 := ⟨⟨mg (mT 11 (by decide +kernel)) rfl, mg (mT 1127 (by decide +kernel)) rfl⟩, by decide +kernel, by decide +kernel, by decide +kernel, by decide⟩
theorem sX9_book : Cond.instanceMethod yX9_book ∈ lw_good ∧ Cond.selects yX9_book.cls yX9_book yX9_book ∈ lw_good := ⟨mg (mT 1125 (by decide +kernel)) rfl, mg (mT 1126 (by decide +kernel)) rfl⟩
theorem vL_127 : VOK RL 127 RX9 yX9_book cX9_book 3 (some .int) 2 := vok (mg (mT 1124 (by decide +kernel)) rfl) sX9_book mX9_book rfl
theorem mX8_looked : MOK yX8_looked cX8_looked 3 (some .int) 0 := ⟨⟨mg (mT 1 (by decide +kernel)) rfl, mg (mT 717 (by decide +kernel)) rfl⟩, by decide +kernel, by decide +kernel, by decide +kernel, by decide⟩
theorem sX8_looked : Cond.instanceMethod yX8_looked ∈ lw_good ∧ Cond.selects yX8_looked.cls yX8_looked yX8_looked ∈ lw_good := ⟨mg (mT 715 (by decide +kernel)) rfl, mg (mT 716 (by decide +kernel)) rfl⟩
theorem vL_128 : VOK RL 128 RX8 yX8_looked cX8_looked 3 (some .int) 0 := vok (mg (mT 714 (by decide +kernel)) rfl) sX8_looked mX8_looked rfl
theorem mX9_looked : MOK yX9_looked cX9_looked 2 (some .int) 0 := ⟨⟨mg (mT 11 (by decide +kernel)) rfl, mg (mT 1131 (by decide +kernel)) rfl⟩, by decide +kernel, by decide +kernel, by decide +kernel, by decide⟩
theorem sX9_looked : Cond.instanceMethod yX9_looked ∈ lw_good ∧ Cond.selects yX9_looked.cls yX9_looked yX9_looked ∈ lw_good := ⟨mg (mT 1129 (by decide +kernel)) rfl, mg (mT 1130 (by decide +kernel)) rfl⟩
theorem vL_131 : VOK RL 131 RX9 yX9_looked cX9_looked 2 (some .int) 0 := vok (mg (mT 1128 (by decide +kernel)) rfl) sX9_looked mX9_looked rfl
theorem mX8_act : MOK yX8_act cX8_act 4 (some .int) 3 := ⟨⟨mg (mT 1 (by decide +kernel)) rfl, mg (mT 721 (by decide +kernel)) rfl⟩, by decide +kernel, by decide +kernel, by decide +kernel, by decide⟩
theorem sX8_act : Cond.instanceMethod yX8_act ∈ lw_good ∧ Cond.selects yX8_act.cls yX8_act yX8_act ∈ lw_good := ⟨mg (mT 719 (by decide +kernel)) rfl, mg (mT 720 (by decide +kernel)) rfl⟩
theorem vL_132 : VOK RL 132 RX8 yX8_act cX8_act 4 (some .int) 3 := vok (mg (mT 718 (by decide +kernel)) rfl) sX8_act mX8_act rfl
theorem mX9_act : MOK yX9_act cX9_act 4 (some .int) 3 := ⟨⟨mg (mT 11 (by decide +kernel)) rfl, mg (mT 1135 (by decide +kernel)) rfl⟩, by decide +kernel, by decide +kernel, by decide +kernel, by decide⟩
theorem sX9_act : Cond.instanceMethod yX9_act ∈ lw_good ∧ Cond.selects yX9_act.cls yX9_act yX9_act ∈ lw_good := ⟨mg (mT 1133 (by decide +kernel)) rfl, mg (mT 1134 (by decide +kernel)) rfl⟩
theorem vL_135 : VOK RL 135 RX9 yX9_act cX9_act 4 (some .int) 3 := vok (mg (mT 1132 (by decide +kernel)) rfl) sX9_act mX9_act rfl
theorem mX8_trace : MOK yX8_trace cX8_trace 2 (some .int) 1 := ⟨⟨mg (mT 1 (by decide +kernel)) rfl, mg (mT 750 (by decide +kernel)) rfl⟩, by decide +kernel, by decide +kernel, by decide +kernel, by decide⟩
theorem sX8_trace : Cond.instanceMethod yX8_trace ∈ lw_good ∧ Cond.selects yX8_trace.cls yX8_trace yX8_trace ∈ lw_good := ⟨mg (mT 748 (by decide +kernel)) rfl, mg (mT 749 (by decide +kernel)) rfl⟩
theorem vL_136 : VOK RL 136 RX8 yX8_trace cX8_trace 2 (some .int) 1 := vok (mg (mT 747 (by decide +kernel)) rfl) sX8_trace mX8_trace rfl
theorem mX9_trace : MOK yX9_trace cX9_trace 2 (some .int) 1 := ⟨⟨mg (mT 11 (by decide +kernel)) rfl, mg (mT 1170 (by decide +kernel)) rfl⟩, by decide +kernel, by decide +kernel, by decide +kernel, by decide⟩
theorem sX9_trace : Cond.instanceMethod yX9_trace ∈ lw_good ∧ Cond.selects yX9_trace.cls yX9_trace yX9_trace ∈ lw_good := ⟨mg (mT 1168 (by decide +kernel)) rfl, mg (mT 1169 (by decide +kernel)) rfl⟩
theorem vL_139 : VOK RL 139 RX9 yX9_trace cX9_trace 2 (some .int) 1 := vok (mg (mT 1167 (by decide +kernel)) rfl) sX9_trace mX9_trace rfl
theorem mX8_as : MOK yX8_as cX8_as 3 (some .int) 2 := ⟨⟨mg (mT 1 (by decide +kernel)) rfl, mg (mT 758 (by decide +kernel)) rfl⟩, by decide +kernel, by decide +kernel, by decide +kernel, by decide⟩
theorem sX8_as : Cond.instanceMethod yX8_as ∈ lw_good ∧ Cond.selects yX8_as.cls yX8_as yX8_as ∈ lw_good := ⟨mg (mT 756 (by decide +kernel)) rfl, mg (mT 757 (by decide +kernel)) rfl⟩
theorem vL_140 : VOK RL 140 RX8 yX8_as cX8_as 3 (some .int) 2 := vok (mg (mT 755 (by decide +kernel)) rfl) sX8_as mX8_as rfl
theorem mX9_as : MOK yX9_as cX9_as 3 (some .int) 2 := ⟨⟨mg (mT 11 (by decide +kernel)) rfl, mg (mT 1174 (by decide +kernel)) rfl⟩, by decide +kernel, by decide +kernel, by decide +kernel, by decide⟩
theorem sX9_as : Cond.instanceMethod yX9_as ∈ lw_good ∧ Cond.selects yX9_as.cls yX9_as yX9_as ∈ lw_good := ⟨mg (mT 1172 (by decide +kernel)) rfl, mg (mT 1173 (by decide +kernel)) rfl⟩
theorem vL_143 : VOK RL 143 RX9 yX9_as cX9_as 3 (some .int) 2 := vok (mg (mT 1171 (by decide +kernel)) rfl) sX9_as mX9_as rfl
theorem mX8_image : MOK yX8_image cX8_image 1 (some .int) 0 := ⟨⟨mg (mT 1 (by decide +kernel)) rfl, mg (mT 766 (by decide +kernel)) rfl⟩, by decide +kernel, by decide +kernel, by decide +kernel, by decide⟩
theorem sX8_image : Cond.instanceMethod yX8_image ∈ lw_good ∧ Cond.selects yX8_image.cls yX8_image yX8_image ∈ lw_good := ⟨mg (mT 764 (by decide +kernel)) rfl, mg (mT 765 (by decide +kernel)) rfl⟩
theorem vL_144 : VOK RL 144 RX8 yX8_image cX8_image 1 (some .int) 0 := vok (mg (mT 763 (by decide +kernel)) rfl) sX8_image mX8_image rfl
theorem mX9_image : MOK yX9_image cX9_image 2 (some .int) 0 := ⟨⟨mg (mT 11 (by decide +kernel)) rfl, mg (mT 1178 (by decide +kernel)) rfl⟩, by decide +kernel, by decide +kernel, by decide +kernel, by decide⟩
theorem sX9_image : Cond.instanceMethod yX9_image ∈ lw_good ∧ Cond.selects yX9_image.cls yX9_image yX9_image ∈ lw_good := ⟨mg (mT 1176 (by decide +kernel)) rfl, mg (mT 1177 (by decide +kernel)) rfl⟩
theorem vL_147 : VOK RL 147 RX9 yX9_image cX9_image 2 (some .int) 0 := vok (mg (mT 1175 (by decide +kernel)) rfl) sX9_image mX9_image rfl
theorem mX8_undo : MOK yX8_undo cX8_undo 1 (some .int) 0 := ⟨⟨mg (mT 1 (by decide +kernel)) rfl, mg (mT 781 (by decide +kernel)) rfl⟩, by decide +kernel, by decide +kernel, by decide +kernel, by decide⟩
theorem sX8_undo : Cond.instanceMethod yX8_undo ∈ lw_good ∧ Cond.selects yX8_undo.cls yX8_undo yX8_undo ∈ lw_good := ⟨mg (mT 779 (by decide +kernel)) rfl, mg (mT 780 (by decide +kernel)) rfl⟩
theorem vL_148 : VOK RL 148 RX8 yX8_undo cX8_undo 1 (some .int) 0 := vok (mg (mT 778 (by decide +kernel)) rfl) sX8_undo mX8_undo rfl
theorem mX9_undo : MOK yX9_undo cX9_undo 2 (some .int) 0 := ⟨⟨mg (mT 11 (by decide +kernel)) rfl, mg (mT 1182 (by decide +kernel)) rfl⟩, by decide +kernel, by decide +kernel, by decide +kernel, by decide⟩
theorem sX9_undo : Cond.instanceMethod yX9_undo ∈ lw_good ∧ Cond.selects yX9_undo.cls yX9_undo yX9_undo ∈ lw_good := ⟨mg (mT 1180 (by decide +kernel)) rfl, mg (mT 1181 (by decide +kernel)) rfl⟩
theorem vL_151 : VOK RL 151 RX9 yX9_undo cX9_undo 2 (some .int) 0 := vok (mg (mT 1179 (by decide +kernel)) rfl) sX9_undo mX9_undo rfl
theorem mX8_count : MOK yX8_count cX8_count 2 (some .int) 1 := ⟨⟨mg (mT 1 (by decide +kernel)) rfl, mg (mT 785 (by decide +kernel)) rfl⟩, by decide +kernel, by decide +kernel, by decide +kernel, by decide⟩
theorem sX8_count : Cond.instanceMethod yX8_count ∈ lw_good ∧ Cond.selects yX8_count.cls yX8_count yX8_count ∈ lw_good := ⟨mg (mT 783 (by decide +kernel)) rfl, mg (mT 784 (by decide +kernel)) rfl⟩
theorem vL_152 : VOK RL 152 RX8 yX8_count cX8_count 2 (some .int) 1 := vok (mg (mT 782 (by decide +kernel)) rfl) sX8_count mX8_count rfl
theorem mX9_count : MOK yX9_count cX9_count 2 (some .int) 1 := ⟨⟨mg (mT 11 (by decide +kernel)) rfl, mg (mT 1186 (by decide +kernel)) rfl⟩, by decide +kernel, by decide +kernel, by decide +kernel, by decide⟩
theorem sX9_count : Cond.instanceMethod yX9_count ∈ lw_good ∧ Cond.selects yX9_count.cls yX9_count yX9_count ∈ lw_good := ⟨mg (mT 1184 (by decide +kernel)) rfl, mg (mT 1185 (by decide +kernel)) rfl⟩
theorem vL_155 : VOK RL 155 RX9 yX9_count cX9_count 2 (some .int) 1 := vok (mg (mT 1183 (by decide +kernel)) rfl) sX9_count mX9_count rfl
theorem fX0_9 : FOK RX0 9 0 0 := ⟨RX0, TX0, 7, rfl, by decide, gX0, mg (mT 217 (by decide +kernel)) rfl⟩
theorem fX0_15 : FOK RX0 15 0 1 := ⟨RX0, TX0, 7, rfl, by decide, gX0, mg (mT 218 (by decide +kernel)) rfl⟩
theorem fX0_18 : FNK RX0 18 4 0 := ⟨RX4, TX4, 7, "StraightFurrow", rfl, by decide, gX4, mT 183 (by decide +kernel)⟩
theorem fX0_30 : FOK RX0 30 2 7 := ⟨RX2, TX2, 10, rfl, by decide, gX2, mg (mT 64 (by decide +kernel)) rfl⟩
theorem fX0_33 : FOK RX0 33 0 3 := ⟨RX0, TX0, 7, rfl, by decide, gX0, mg (mT 220 (by decide +kernel)) rfl⟩
theorem fX0_37 : FNK RX0 37 4 1 := ⟨RX4, TX4, 7, "StraightFurrow", rfl, by decide, gX4, mT 185 (by decide +kernel)⟩
theorem fX0_41 : FOK RX0 41 3 3 := ⟨RX3, TX3, 4, rfl, by decide, gX3, mg (mT 105 (by decide +kernel)) rfl⟩
theorem fX0_46 : FOK RX0 46 0 4 := ⟨RX0, TX0, 7, rfl, by decide, gX0, mg (mT 221 (by decide +kernel)) rfl⟩
theorem fX0_49 : FOK RX0 49 0 2 := ⟨RX0, TX0, 7, rfl, by decide, gX0, mg (mT 219 (by decide +kernel)) rfl⟩
theorem fX0_52 : FOK RX0 52 2 4 := ⟨RX2, TX2, 10, rfl, by decide, gX2, mg (mT 53 (by decide +kernel)) rfl⟩
theorem fX0_59 : FOK RX0 59 0 5 := ⟨RX0, TX0, 7, rfl, by decide, gX0, mg (mT 222 (by decide +kernel)) rfl⟩
theorem fX0_62 : FOK RX0 62 0 6 := ⟨RX0, TX0, 7, rfl, by decide, gX0, mg (mT 223 (by decide +kernel)) rfl⟩
theorem mJ6_bitCount_0f7a4 : MOK yJ6_bitCount_0f7a4 cJ6_bitCount_0f7a4 1 (some .int) 1 := ⟨⟨mg (mT 18 (by decide +kernel)) rfl, mg (mT 636 (by decide +kernel)) rfl⟩, by decide +kernel, by decide +kernel, by decide +kernel, by decide⟩
theorem vX0_69 : SOK RX0 69 yJ6_bitCount_0f7a4 cJ6_bitCount_0f7a4 1 (some .int) 1 := ⟨⟨mg (mT 634 (by decide +kernel)) rfl, mg (mT 635 (by decide +kernel)) rfl, mJ6_bitCount_0f7a4.1.1, mJ6_bitCount_0f7a4.1.2⟩, mJ6_bitCount_0f7a4.2⟩
theorem mX8_isLane : MOK yX8_isLane cX8_isLane 1 (some .boolean) 1 := ⟨⟨mg (mT 1 (by decide +kernel)) rfl, mg (mT 455 (by decide +kernel)) rfl⟩, by decide +kernel, by decide +kernel, by decide +kernel, by decide⟩
theorem vX0_75 : NOK RX0 75 yX8_isLane "StraightFurrow" cX8_isLane 1 (some .boolean) 1 := ⟨⟨mT 640 (by decide +kernel), mg (mT 454 (by decide +kernel)) rfl, mX8_isLane.1.1, mX8_isLane.1.2⟩, mX8_isLane.2⟩
theorem mJ9_abs_0f7a4 : MOK yJ9_abs_0f7a4 cJ9_abs_0f7a4 1 (some .int) 1 := ⟨⟨mg (mT 6 (by decide +kernel)) rfl, mg (mT 508 (by decide +kernel)) rfl⟩, by decide +kernel, by decide +kernel, by decide +kernel, by decide⟩
theorem vX0_78 : SOK RX0 78 yJ9_abs_0f7a4 cJ9_abs_0f7a4 1 (some .int) 1 := ⟨⟨mg (mT 641 (by decide +kernel)) rfl, mg (mT 507 (by decide +kernel)) rfl, mJ9_abs_0f7a4.1.1, mJ9_abs_0f7a4.1.2⟩, mJ9_abs_0f7a4.2⟩
theorem mX0_latestOf : MOK yX0_latestOf cX0_latestOf 2 (some .int) 2 := ⟨⟨mg (mT 8 (by decide +kernel)) rfl, mg (mT 648 (by decide +kernel)) rfl⟩, by decide +kernel, by decide +kernel, by decide +kernel, by decide⟩
theorem vX0_87 : SOK RX0 87 yX0_latestOf cX0_latestOf 2 (some .int) 2 := ⟨⟨mg (mT 646 (by decide +kernel)) rfl, mg (mT 647 (by decide +kernel)) rfl, mX0_latestOf.1.1, mX0_latestOf.1.2⟩, mX0_latestOf.2⟩
theorem mX0_lossOf : MOK yX0_lossOf cX0_lossOf 2 (some .int) 2 := ⟨⟨mg (mT 8 (by decide +kernel)) rfl, mg (mT 651 (by decide +kernel)) rfl⟩, by decide +kernel, by decide +kernel, by decide +kernel, by decide⟩
theorem vX0_91 : SOK RX0 91 yX0_lossOf cX0_lossOf 2 (some .int) 2 := ⟨⟨mg (mT 649 (by decide +kernel)) rfl, mg (mT 650 (by decide +kernel)) rfl, mX0_lossOf.1.1, mX0_lossOf.1.2⟩, mX0_lossOf.2⟩
theorem mX8_bit : MOK yX8_bit cX8_bit 2 (some .int) 2 := ⟨⟨mg (mT 1 (by decide +kernel)) rfl, mg (mT 472 (by decide +kernel)) rfl⟩, by decide +kernel, by decide +kernel, by decide +kernel, by decide⟩
theorem vX0_94 : NOK RX0 94 yX8_bit "StraightFurrow" cX8_bit 2 (some .int) 2 := ⟨⟨mT 652 (by decide +kernel), mg (mT 471 (by decide +kernel)) rfl, mX8_bit.1.1, mX8_bit.1.2⟩, mX8_bit.2⟩
theorem mX2_has : MOK yX2_has cX2_has 2 (some .boolean) 1 := ⟨⟨mg (mT 3 (by decide +kernel)) rfl, mg (mT 468 (by decide +kernel)) rfl⟩, by decide +kernel, by decide +kernel, by decide +kernel, by decide⟩
theorem sX2_has : Cond.instanceMethod yX2_has ∈ lw_good ∧ Cond.selects yX2_has.cls yX2_has yX2_has ∈ lw_good := ⟨mg (mT 466 (by decide +kernel)) rfl, mg (mT 467 (by decide +kernel)) rfl⟩
theorem vX0_24 : VOK RX0 24 RX2 yX2_has cX2_has 2 (some .boolean) 1 := vok (mg (mT 628 (by decide +kernel)) rfl) sX2_has mX2_has rfl
theorem mX4_moved : MOK yX4_moved cX4_moved 6 (some .int) 3 := ⟨⟨mg (mT 7 (by decide +kernel)) rfl, mg (mT 485 (by decide +kernel)) rfl⟩, by decide +kernel, by decide +kernel, by decide +kernel, by decide⟩
theorem sX4_moved : Cond.instanceMethod yX4_moved ∈ lw_good ∧ Cond.selects yX4_moved.cls yX4_moved yX4_moved ∈ lw_good := ⟨mg (mT 483 (by decide +kernel)) rfl, mg (mT 484 (by decide +kernel)) rfl⟩
theorem vX0_55 : VOK RX0 55 RX4 yX4_moved cX4_moved 6 (some .int) 3 := vok (mg (mT 629 (by decide +kernel)) rfl) sX4_moved mX4_moved rfl
theorem mX0_search : MOK yX0_search cX0_search 7 none 5 := ⟨⟨mg (mT 8 (by decide +kernel)) rfl, mg (mT 633 (by decide +kernel)) rfl⟩, by decide +kernel, by decide +kernel, by decide +kernel, by decide⟩
theorem sX0_search : Cond.instanceMethod yX0_search ∈ lw_good ∧ Cond.selects yX0_search.cls yX0_search yX0_search ∈ lw_good := ⟨mg (mT 632 (by decide +kernel)) rfl, mg (mS 12 (by decide +kernel)) rfl⟩
theorem vX0_65 : VOK RX0 65 RX0 yX0_search cX0_search 7 none 5 := vok (mg (mT 630 (by decide +kernel)) rfl) sX0_search mX0_search rfl
theorem mX0_keeps : MOK yX0_keeps cX0_keeps 5 none 2 := ⟨⟨mg (mT 8 (by decide +kernel)) rfl, mg (mT 645 (by decide +kernel)) rfl⟩, by decide +kernel, by decide +kernel, by decide +kernel, by decide⟩
theorem sX0_keeps : Cond.instanceMethod yX0_keeps ∈ lw_good ∧ Cond.selects yX0_keeps.cls yX0_keeps yX0_keeps ∈ lw_good := ⟨mg (mT 644 (by decide +kernel)) rfl, mg (mS 13 (by decide +kernel)) rfl⟩
theorem vX0_83 : VOK RX0 83 RX0 yX0_keeps cX0_keeps 5 none 2 := vok (mg (mT 642 (by decide +kernel)) rfl) sX0_keeps mX0_keeps rfl
theorem pX0_33 : POK RX0 33 0 3 .int := ⟨RX0, TX0, 7, tyX0, rfl, by decide, gX0, tyX0_ok, nmX0, mg (mT 220 (by decide +kernel)) rfl, rfl, by decide +kernel⟩
theorem pX0_46 : POK RX0 46 0 4 .int := ⟨RX0, TX0, 7, tyX0, rfl, by decide, gX0, tyX0_ok, nmX0, mg (mT 221 (by decide +kernel)) rfl, rfl, by decide +kernel⟩
theorem pX0_49 : POK RX0 49 0 2 .int := ⟨RX0, TX0, 7, tyX0, rfl, by decide, gX0, tyX0_ok, nmX0, mg (mT 219 (by decide +kernel)) rfl, rfl, by decide +kernel⟩
theorem pX0_59 : POK RX0 59 0 5 .int := ⟨RX0, TX0, 7, tyX0, rfl, by decide, gX0, tyX0_ok, nmX0, mg (mT 222 (by decide +kernel)) rfl, rfl, by decide +kernel⟩
theorem pX0_62 : POK RX0 62 0 6 .int := ⟨RX0, TX0, 7, tyX0, rfl, by decide, gX0, tyX0_ok, nmX0, mg (mT 223 (by decide +kernel)) rfl, rfl, by decide +kernel⟩
theorem fX1_9 : FOK RX1 9 1 0 := ⟨RX1, TX1, 5, rfl, by decide, gX1, mg (mT 270 (by decide +kernel)) rfl⟩
theorem fX1_15 : FOK RX1 15 1 1 := ⟨RX1, TX1, 5, rfl, by decide, gX1, mg (mT 271 (by decide +kernel)) rfl⟩
theorem fX1_25 : FOK RX1 25 1 2 := ⟨RX1, TX1, 5, rfl, by decide, gX1, mg (mT 273 (by decide +kernel)) rfl⟩
theorem fX1_28 : FOK RX1 28 2 5 := ⟨RX2, TX2, 10, rfl, by decide, gX2, mg (mT 57 (by decide +kernel)) rfl⟩
theorem fX1_31 : FOK RX1 31 1 3 := ⟨RX1, TX1, 5, rfl, by decide, gX1, mg (mT 274 (by decide +kernel)) rfl⟩
theorem fX1_34 : FOK RX1 34 2 6 := ⟨RX2, TX2, 10, rfl, by decide, gX2, mg (mT 61 (by decide +kernel)) rfl⟩
theorem fX1_37 : FOK RX1 37 1 4 := ⟨RX1, TX1, 5, rfl, by decide, gX1, mg (mT 275 (by decide +kernel)) rfl⟩
theorem zX1_52 : Cond.fieldLinkNest RX1 52 "StraightFurrow" "ABOVE" "[I" "StraightFurrow" ∈ lw_tbl := mT 741 (by decide +kernel)
theorem zX1_58 : Cond.fieldLink RX1 58 "StraightFurrow$Deeds" "BODIES" "[I" ∈ lw_good := mg (mT 739 (by decide +kernel)) rfl
theorem mX1_bodyOf : MOK yX1_bodyOf cX1_bodyOf 5 (some .int) 2 := ⟨⟨mg (mT 10 (by decide +kernel)) rfl, mg (mT 737 (by decide +kernel)) rfl⟩, by decide +kernel, by decide +kernel, by decide +kernel, by decide⟩
theorem vX1_44 : SOK RX1 44 yX1_bodyOf cX1_bodyOf 5 (some .int) 2 := ⟨⟨mg (mT 735 (by decide +kernel)) rfl, mg (mT 736 (by decide +kernel)) rfl, mX1_bodyOf.1.1, mX1_bodyOf.1.2⟩, mX1_bodyOf.2⟩
theorem mX8_isKind : MOK yX8_isKind cX8_isKind 1 (some .boolean) 1 := ⟨⟨mg (mT 1 (by decide +kernel)) rfl, mg (mT 452 (by decide +kernel)) rfl⟩, by decide +kernel, by decide +kernel, by decide +kernel, by decide⟩
theorem vX1_55 : NOK RX1 55 yX8_isKind "StraightFurrow" cX8_isKind 1 (some .boolean) 1 := ⟨⟨mT 738 (by decide +kernel), mg (mT 451 (by decide +kernel)) rfl, mX8_isKind.1.1, mX8_isKind.1.2⟩, mX8_isKind.2⟩
theorem vX1_19 : VOK RX1 19 RX2 yX2_has cX2_has 2 (some .boolean) 1 := vok (mg (mT 730 (by decide +kernel)) rfl) sX2_has mX2_has rfl
theorem mX1_runs : MOK yX1_runs cX1_runs 7 (some .int) 4 := ⟨⟨mg (mT 10 (by decide +kernel)) rfl, mg (mT 734 (by decide +kernel)) rfl⟩, by decide +kernel, by decide +kernel, by decide +kernel, by decide⟩
theorem sX1_runs : Cond.instanceMethod yX1_runs ∈ lw_good ∧ Cond.selects yX1_runs.cls yX1_runs yX1_runs ∈ lw_good := ⟨mg (mT 733 (by decide +kernel)) rfl, mg (mS 15 (by decide +kernel)) rfl⟩
theorem vX1_40 : VOK RX1 40 RX1 yX1_runs cX1_runs 7 (some .int) 4 := vok (mg (mT 731 (by decide +kernel)) rfl) sX1_runs mX1_runs rfl
theorem mX1_begins : MOK yX1_begins cX1_begins 2 none 1 := ⟨⟨mg (mT 10 (by decide +kernel)) rfl, mg (mT 746 (by decide +kernel)) rfl⟩, by decide +kernel, by decide +kernel, by decide +kernel, by decide⟩
theorem sX1_begins : Cond.instanceMethod yX1_begins ∈ lw_good ∧ Cond.selects yX1_begins.cls yX1_begins yX1_begins ∈ lw_good := ⟨mg (mT 745 (by decide +kernel)) rfl, mg (mS 16 (by decide +kernel)) rfl⟩
theorem vX1_48 : VOK RX1 48 RX1 yX1_begins cX1_begins 2 none 1 := vok (mg (mT 743 (by decide +kernel)) rfl) sX1_begins mX1_begins rfl
theorem pX1_15 : POK RX1 15 1 1 .int := ⟨RX1, TX1, 5, tyX1, rfl, by decide, gX1, tyX1_ok, nmX1, mg (mT 271 (by decide +kernel)) rfl, rfl, by decide +kernel⟩
theorem pX1_25 : POK RX1 25 1 2 .int := ⟨RX1, TX1, 5, tyX1, rfl, by decide, gX1, tyX1_ok, nmX1, mg (mT 273 (by decide +kernel)) rfl, rfl, by decide +kernel⟩
theorem pX1_31 : POK RX1 31 1 3 .int := ⟨RX1, TX1, 5, tyX1, rfl, by decide, gX1, tyX1_ok, nmX1, mg (mT 274 (by decide +kernel)) rfl, rfl, by decide +kernel⟩
theorem pX1_37 : POK RX1 37 1 4 .int := ⟨RX1, TX1, 5, tyX1, rfl, by decide, gX1, tyX1_ok, nmX1, mg (mT 275 (by decide +kernel)) rfl, rfl, by decide +kernel⟩
theorem fX2_9 : FOK RX2 9 2 4 := ⟨RX2, TX2, 10, rfl, by decide, gX2, mg (mT 51 (by decide +kernel)) rfl⟩
theorem fX2_15 : FOK RX2 15 2 5 := ⟨RX2, TX2, 10, rfl, by decide, gX2, mg (mT 55 (by decide +kernel)) rfl⟩
theorem fX2_18 : FOK RX2 18 2 6 := ⟨RX2, TX2, 10, rfl, by decide, gX2, mg (mT 59 (by decide +kernel)) rfl⟩
theorem fX2_21 : FOK RX2 21 2 7 := ⟨RX2, TX2, 10, rfl, by decide, gX2, mg (mT 63 (by decide +kernel)) rfl⟩
theorem fX2_24 : FOK RX2 24 2 8 := ⟨RX2, TX2, 10, rfl, by decide, gX2, mg (mT 67 (by decide +kernel)) rfl⟩
theorem fX2_27 : FOK RX2 27 2 9 := ⟨RX2, TX2, 10, rfl, by decide, gX2, mg (mT 70 (by decide +kernel)) rfl⟩
theorem fX2_30 : FOK RX2 30 2 1 := ⟨RX2, TX2, 10, rfl, by decide, gX2, mg (mT 42 (by decide +kernel)) rfl⟩
theorem fX2_38 : FOK RX2 38 2 2 := ⟨RX2, TX2, 10, rfl, by decide, gX2, mg (mT 45 (by decide +kernel)) rfl⟩
theorem fX2_41 : FOK RX2 41 2 0 := ⟨RX2, TX2, 10, rfl, by decide, gX2, mg (mT 40 (by decide +kernel)) rfl⟩
theorem fX2_44 : FOK RX2 44 2 3 := ⟨RX2, TX2, 10, rfl, by decide, gX2, mg (mT 49 (by decide +kernel)) rfl⟩
theorem aX2_47 : AOK RX2 47 := ⟨mg (mT 596 (by decide +kernel)) rfl, mg (mT 444 (by decide +kernel)) rfl, mg (mT 443 (by decide +kernel)) rfl, mg (mT 16 (by decide +kernel)) rfl⟩
theorem vX2_34 : VOK RX2 34 RX2 yX2_has cX2_has 2 (some .boolean) 1 := vok (mg (mT 525 (by decide +kernel)) rfl) sX2_has mX2_has rfl
theorem pX2_30 : POK RX2 30 2 1 .int := ⟨RX2, TX2, 10, tyX2, rfl, by decide, gX2, tyX2_ok, nmX2, mg (mT 42 (by decide +kernel)) rfl, rfl, by decide +kernel⟩
theorem pX2_38 : POK RX2 38 2 2 .int := ⟨RX2, TX2, 10, tyX2, rfl, by decide, gX2, tyX2_ok, nmX2, mg (mT 45 (by decide +kernel)) rfl, rfl, by decide +kernel⟩
theorem pX2_41 : POK RX2 41 2 0 .int := ⟨RX2, TX2, 10, tyX2, rfl, by decide, gX2, tyX2_ok, nmX2, mg (mT 40 (by decide +kernel)) rfl, rfl, by decide +kernel⟩
theorem pX2_44 : POK RX2 44 2 3 .int := ⟨RX2, TX2, 10, tyX2, rfl, by decide, gX2, tyX2_ok, nmX2, mg (mT 49 (by decide +kernel)) rfl, rfl, by decide +kernel⟩
theorem fX3_9 : FOK RX3 9 3 0 := ⟨RX3, TX3, 4, rfl, by decide, gX3, mg (mT 101 (by decide +kernel)) rfl⟩
theorem fX3_15 : FOK RX3 15 3 1 := ⟨RX3, TX3, 4, rfl, by decide, gX3, mg (mT 102 (by decide +kernel)) rfl⟩
theorem fX3_18 : FOK RX3 18 3 3 := ⟨RX3, TX3, 4, rfl, by decide, gX3, mg (mT 104 (by decide +kernel)) rfl⟩
theorem fX3_22 : FOK RX3 22 3 2 := ⟨RX3, TX3, 4, rfl, by decide, gX3, mg (mT 103 (by decide +kernel)) rfl⟩
theorem aX3_25 : AOK RX3 25 := ⟨mg (mT 442 (by decide +kernel)) rfl, mg (mT 444 (by decide +kernel)) rfl, mg (mT 443 (by decide +kernel)) rfl, mg (mT 16 (by decide +kernel)) rfl⟩
theorem pX3_18 : POK RX3 18 3 3 .int := ⟨RX3, TX3, 4, tyX3, rfl, by decide, gX3, tyX3_ok, nmX3, mg (mT 104 (by decide +kernel)) rfl, rfl, by decide +kernel⟩
theorem pX3_22 : POK RX3 22 3 2 .int := ⟨RX3, TX3, 4, tyX3, rfl, by decide, gX3, tyX3_ok, nmX3, mg (mT 103 (by decide +kernel)) rfl, rfl, by decide +kernel⟩
theorem fX4_11 : FOK RX4 11 4 2 := ⟨RX4, TX4, 7, rfl, by decide, gX4, mg (mT 186 (by decide +kernel)) rfl⟩
theorem fX4_17 : FOK RX4 17 4 3 := ⟨RX4, TX4, 7, rfl, by decide, gX4, mg (mT 187 (by decide +kernel)) rfl⟩
theorem fX4_20 : FOK RX4 20 4 4 := ⟨RX4, TX4, 7, rfl, by decide, gX4, mg (mT 188 (by decide +kernel)) rfl⟩
theorem fX4_23 : FOK RX4 23 4 0 := ⟨RX4, TX4, 7, rfl, by decide, gX4, mg (mT 182 (by decide +kernel)) rfl⟩
theorem fX4_27 : FOK RX4 27 4 1 := ⟨RX4, TX4, 7, rfl, by decide, gX4, mg (mT 184 (by decide +kernel)) rfl⟩
theorem fX4_40 : FOK RX4 40 2 6 := ⟨RX2, TX2, 10, rfl, by decide, gX2, mg (mT 60 (by decide +kernel)) rfl⟩
theorem fX4_43 : FOK RX4 43 2 4 := ⟨RX2, TX2, 10, rfl, by decide, gX2, mg (mT 52 (by decide +kernel)) rfl⟩
theorem fX4_46 : FOK RX4 46 2 5 := ⟨RX2, TX2, 10, rfl, by decide, gX2, mg (mT 56 (by decide +kernel)) rfl⟩
theorem fX4_49 : FOK RX4 49 2 0 := ⟨RX2, TX2, 10, rfl, by decide, gX2, mg (mT 39 (by decide +kernel)) rfl⟩
theorem fX4_57 : FOK RX4 57 2 9 := ⟨RX2, TX2, 10, rfl, by decide, gX2, mg (mT 71 (by decide +kernel)) rfl⟩
theorem fX4_67 : FOK RX4 67 4 5 := ⟨RX4, TX4, 7, rfl, by decide, gX4, mg (mT 190 (by decide +kernel)) rfl⟩
theorem fX4_70 : FOK RX4 70 4 6 := ⟨RX4, TX4, 7, rfl, by decide, gX4, mg (mT 192 (by decide +kernel)) rfl⟩
theorem fX4_89 : FOK RX4 89 2 7 := ⟨RX2, TX2, 10, rfl, by decide, gX2, mg (mT 66 (by decide +kernel)) rfl⟩
theorem fX4_96 : FOK RX4 96 2 1 := ⟨RX2, TX2, 10, rfl, by decide, gX2, mg (mT 43 (by decide +kernel)) rfl⟩
theorem fX4_99 : FOK RX4 99 2 2 := ⟨RX2, TX2, 10, rfl, by decide, gX2, mg (mT 47 (by decide +kernel)) rfl⟩
theorem fX4_112 : FOK RX4 112 2 8 := ⟨RX2, TX2, 10, rfl, by decide, gX2, mg (mT 69 (by decide +kernel)) rfl⟩
theorem fX4_118 : FOK RX4 118 3 3 := ⟨RX3, TX3, 4, rfl, by decide, gX3, mg (mT 108 (by decide +kernel)) rfl⟩
theorem mX8_isStep : MOK yX8_isStep cX8_isStep 1 (some .boolean) 1 := ⟨⟨mg (mT 1 (by decide +kernel)) rfl, mg (mT 492 (by decide +kernel)) rfl⟩, by decide +kernel, by decide +kernel, by decide +kernel, by decide⟩
theorem vX4_37 : NOK RX4 37 yX8_isStep "StraightFurrow" cX8_isStep 1 (some .boolean) 1 := ⟨⟨mT 490 (by decide +kernel), mg (mT 491 (by decide +kernel)) rfl, mX8_isStep.1.1, mX8_isStep.1.2⟩, mX8_isStep.2⟩
theorem vX4_64 : NOK RX4 64 yX8_isLane "StraightFurrow" cX8_isLane 1 (some .boolean) 1 := ⟨⟨mT 497 (by decide +kernel), mg (mT 454 (by decide +kernel)) rfl, mX8_isLane.1.1, mX8_isLane.1.2⟩, mX8_isLane.2⟩
theorem vX4_80 : SOK RX4 80 yJ9_abs_0f7a4 cJ9_abs_0f7a4 1 (some .int) 1 := ⟨⟨mg (mT 506 (by decide +kernel)) rfl, mg (mT 507 (by decide +kernel)) rfl, mJ9_abs_0f7a4.1.1, mJ9_abs_0f7a4.1.2⟩, mJ9_abs_0f7a4.2⟩
theorem vX4_102 : NOK RX4 102 yX8_bit "StraightFurrow" cX8_bit 2 (some .int) 2 := ⟨⟨mT 555 (by decide +kernel), mg (mT 471 (by decide +kernel)) rfl, mX8_bit.1.1, mX8_bit.1.2⟩, mX8_bit.2⟩
theorem mJ9_min_7cf53 : MOK yJ9_min_7cf53 cJ9_min_7cf53 2 (some .int) 2 := ⟨⟨mg (mT 6 (by decide +kernel)) rfl, mg (mT 126 (by decide +kernel)) rfl⟩, by decide +kernel, by decide +kernel, by decide +kernel, by decide⟩
theorem vX4_115 : SOK RX4 115 yJ9_min_7cf53 cJ9_min_7cf53 2 (some .int) 2 := ⟨⟨mg (mT 571 (by decide +kernel)) rfl, mg (mT 125 (by decide +kernel)) rfl, mJ9_min_7cf53.1.1, mJ9_min_7cf53.1.2⟩, mJ9_min_7cf53.2⟩
theorem vX4_31 : VOK RX4 31 RX2 yX2_has cX2_has 2 (some .boolean) 1 := vok (mg (mT 477 (by decide +kernel)) rfl) sX2_has mX2_has rfl
theorem mX3_drift : MOK yX3_drift cX3_drift 8 (some .int) 1 := ⟨⟨mg (mT 4 (by decide +kernel)) rfl, mg (mT 496 (by decide +kernel)) rfl⟩, by decide +kernel, by decide +kernel, by decide +kernel, by decide⟩
theorem sX3_drift : Cond.instanceMethod yX3_drift ∈ lw_good ∧ Cond.selects yX3_drift.cls yX3_drift yX3_drift ∈ lw_good := ⟨mg (mT 494 (by decide +kernel)) rfl, mg (mT 495 (by decide +kernel)) rfl⟩
theorem vX4_53 : VOK RX4 53 RX3 yX3_drift cX3_drift 8 (some .int) 1 := vok (mg (mT 493 (by decide +kernel)) rfl) sX3_drift mX3_drift rfl
theorem mX4_strayed : MOK yX4_strayed cX4_strayed 7 (some .int) 3 := ⟨⟨mg (mT 7 (by decide +kernel)) rfl, mg (mT 489 (by decide +kernel)) rfl⟩, by decide +kernel, by decide +kernel, by decide +kernel, by decide⟩
theorem sX4_strayed : Cond.instanceMethod yX4_strayed ∈ lw_good ∧ Cond.selects yX4_strayed.cls yX4_strayed yX4_strayed ∈ lw_good := ⟨mg (mT 487 (by decide +kernel)) rfl, mg (mT 488 (by decide +kernel)) rfl⟩
theorem vX4_60 : VOK RX4 60 RX4 yX4_strayed cX4_strayed 7 (some .int) 3 := vok (mg (mT 486 (by decide +kernel)) rfl) sX4_strayed mX4_strayed rfl
theorem vX4_73 : VOK RX4 73 RX4 yX4_moved cX4_moved 6 (some .int) 3 := vok (mg (mT 482 (by decide +kernel)) rfl) sX4_moved mX4_moved rfl
theorem mX4_score : MOK yX4_score cX4_score 1 (some .int) 0 := ⟨⟨mg (mT 7 (by decide +kernel)) rfl, mg (mT 501 (by decide +kernel)) rfl⟩, by decide +kernel, by decide +kernel, by decide +kernel, by decide⟩
theorem sX4_score : Cond.instanceMethod yX4_score ∈ lw_good ∧ Cond.selects yX4_score.cls yX4_score yX4_score ∈ lw_good := ⟨mg (mT 499 (by decide +kernel)) rfl, mg (mT 500 (by decide +kernel)) rfl⟩
theorem vX4_76 : VOK RX4 76 RX4 yX4_score cX4_score 1 (some .int) 0 := vok (mg (mT 498 (by decide +kernel)) rfl) sX4_score mX4_score rfl
theorem mX4_span : MOK yX4_span cX4_span 1 (some .int) 0 := ⟨⟨mg (mT 7 (by decide +kernel)) rfl, mg (mT 505 (by decide +kernel)) rfl⟩, by decide +kernel, by decide +kernel, by decide +kernel, by decide⟩
theorem sX4_span : Cond.instanceMethod yX4_span ∈ lw_good ∧ Cond.selects yX4_span.cls yX4_span yX4_span ∈ lw_good := ⟨mg (mT 503 (by decide +kernel)) rfl, mg (mT 504 (by decide +kernel)) rfl⟩
theorem vX4_86 : VOK RX4 86 RX4 yX4_span cX4_span 1 (some .int) 0 := vok (mg (mT 502 (by decide +kernel)) rfl) sX4_span mX4_span rfl
theorem mX4_goes : MOK yX4_goes cX4_goes 6 (some .int) 2 := ⟨⟨mg (mT 7 (by decide +kernel)) rfl, mg (mT 481 (by decide +kernel)) rfl⟩, by decide +kernel, by decide +kernel, by decide +kernel, by decide⟩
theorem sX4_goes : Cond.instanceMethod yX4_goes ∈ lw_good ∧ Cond.selects yX4_goes.cls yX4_goes yX4_goes ∈ lw_good := ⟨mg (mT 479 (by decide +kernel)) rfl, mg (mT 480 (by decide +kernel)) rfl⟩
theorem vX4_92 : VOK RX4 92 RX4 yX4_goes cX4_goes 6 (some .int) 2 := vok (mg (mT 478 (by decide +kernel)) rfl) sX4_goes mX4_goes rfl
theorem mX4_scoresAll : MOK yX4_scoresAll cX4_scoresAll 2 none 0 := ⟨⟨mg (mT 7 (by decide +kernel)) rfl, mg (mT 554 (by decide +kernel)) rfl⟩, by decide +kernel, by decide +kernel, by decide +kernel, by decide⟩
theorem sX4_scoresAll : Cond.instanceMethod yX4_scoresAll ∈ lw_good ∧ Cond.selects yX4_scoresAll.cls yX4_scoresAll yX4_scoresAll ∈ lw_good := ⟨mg (mT 552 (by decide +kernel)) rfl, mg (mT 553 (by decide +kernel)) rfl⟩
theorem vX4_106 : VOK RX4 106 RX4 yX4_scoresAll cX4_scoresAll 2 none 0 := vok (mg (mT 569 (by decide +kernel)) rfl) sX4_scoresAll mX4_scoresAll rfl
theorem mX4_bestOfAll : MOK yX4_bestOfAll cX4_bestOfAll 4 (some .int) 0 := ⟨⟨mg (mT 7 (by decide +kernel)) rfl, mg (mT 559 (by decide +kernel)) rfl⟩, by decide +kernel, by decide +kernel, by decide +kernel, by decide⟩
theorem sX4_bestOfAll : Cond.instanceMethod yX4_bestOfAll ∈ lw_good ∧ Cond.selects yX4_bestOfAll.cls yX4_bestOfAll yX4_bestOfAll ∈ lw_good := ⟨mg (mT 557 (by decide +kernel)) rfl, mg (mT 558 (by decide +kernel)) rfl⟩
theorem vX4_109 : VOK RX4 109 RX4 yX4_bestOfAll cX4_bestOfAll 4 (some .int) 0 := vok (mg (mT 570 (by decide +kernel)) rfl) sX4_bestOfAll mX4_bestOfAll rfl
theorem mX4_whoHas : MOK yX4_whoHas cX4_whoHas 4 (some .int) 1 := ⟨⟨mg (mT 7 (by decide +kernel)) rfl, mg (mT 575 (by decide +kernel)) rfl⟩, by decide +kernel, by decide +kernel, by decide +kernel, by decide⟩
theorem sX4_whoHas : Cond.instanceMethod yX4_whoHas ∈ lw_good ∧ Cond.selects yX4_whoHas.cls yX4_whoHas yX4_whoHas ∈ lw_good := ⟨mg (mT 573 (by decide +kernel)) rfl, mg (mT 574 (by decide +kernel)) rfl⟩
theorem vX4_121 : VOK RX4 121 RX4 yX4_whoHas cX4_whoHas 4 (some .int) 1 := vok (mg (mT 572 (by decide +kernel)) rfl) sX4_whoHas mX4_whoHas rfl
theorem pX4_49 : POK RX4 49 2 0 .int := ⟨RX2, TX2, 10, tyX2, rfl, by decide, gX2, tyX2_ok, nmX2, mg (mT 39 (by decide +kernel)) rfl, rfl, by decide +kernel⟩
theorem pX4_67 : POK RX4 67 4 5 .int := ⟨RX4, TX4, 7, tyX4, rfl, by decide, gX4, tyX4_ok, nmX4, mg (mT 190 (by decide +kernel)) rfl, rfl, by decide +kernel⟩
theorem pX4_70 : POK RX4 70 4 6 .int := ⟨RX4, TX4, 7, tyX4, rfl, by decide, gX4, tyX4_ok, nmX4, mg (mT 192 (by decide +kernel)) rfl, rfl, by decide +kernel⟩
theorem pX4_124 : POK RX4 124 2 3 .int := ⟨RX2, TX2, 10, tyX2, rfl, by decide, gX2, tyX2_ok, nmX2, mg (mT 50 (by decide +kernel)) rfl, rfl, by decide +kernel⟩
theorem fX5_12 : FOK RX5 12 5 0 := ⟨RX5, TX5, 5, rfl, by decide, gX5, mg (mT 247 (by decide +kernel)) rfl⟩
theorem fX5_18 : FOK RX5 18 5 1 := ⟨RX5, TX5, 5, rfl, by decide, gX5, mg (mT 249 (by decide +kernel)) rfl⟩
theorem fX5_25 : FOK RX5 25 5 2 := ⟨RX5, TX5, 5, rfl, by decide, gX5, mg (mT 250 (by decide +kernel)) rfl⟩
theorem fX5_32 : FOK RX5 32 5 3 := ⟨RX5, TX5, 5, rfl, by decide, gX5, mg (mT 251 (by decide +kernel)) rfl⟩
theorem fX5_45 : FOK RX5 45 5 4 := ⟨RX5, TX5, 5, rfl, by decide, gX5, mg (mT 252 (by decide +kernel)) rfl⟩
theorem fX5_96 : FOK RX5 96 6 2 := ⟨RX6, TX6, 3, rfl, by decide, gX6, mg (mT 134 (by decide +kernel)) rfl⟩
theorem fX5_101 : FNK RX5 101 6 1 := ⟨RX6, TX6, 3, "StraightFurrow", rfl, by decide, gX6, mT 132 (by decide +kernel)⟩
theorem mX8_isDigit : MOK yX8_isDigit cX8_isDigit 1 (some .boolean) 1 := ⟨⟨mg (mT 1 (by decide +kernel)) rfl, mg (mT 407 (by decide +kernel)) rfl⟩, by decide +kernel, by decide +kernel, by decide +kernel, by decide⟩
theorem vX5_93 : NOK RX5 93 yX8_isDigit "StraightFurrow" cX8_isDigit 1 (some .boolean) 1 := ⟨⟨mT 405 (by decide +kernel), mg (mT 406 (by decide +kernel)) rfl, mX8_isDigit.1.1, mX8_isDigit.1.2⟩, mX8_isDigit.2⟩
theorem mX3_empties : MOK yX3_empties cX3_empties 1 none 0 := ⟨⟨mg (mT 4 (by decide +kernel)) rfl, mg (mT 337 (by decide +kernel)) rfl⟩, by decide +kernel, by decide +kernel, by decide +kernel, by decide⟩
theorem sX3_empties : Cond.instanceMethod yX3_empties ∈ lw_good ∧ Cond.selects yX3_empties.cls yX3_empties yX3_empties ∈ lw_good := ⟨mg (mT 335 (by decide +kernel)) rfl, mg (mT 336 (by decide +kernel)) rfl⟩
theorem vX5_22 : VOK RX5 22 RX3 yX3_empties cX3_empties 1 none 0 := vok (mg (mT 334 (by decide +kernel)) rfl) sX3_empties mX3_empties rfl
theorem mX5_goesOn : MOK yX5_goesOn cX5_goesOn 1 none 0 := ⟨⟨mg (mT 9 (by decide +kernel)) rfl, mg (mT 341 (by decide +kernel)) rfl⟩, by decide +kernel, by decide +kernel, by decide +kernel, by decide⟩
theorem sX5_goesOn : Cond.instanceMethod yX5_goesOn ∈ lw_good ∧ Cond.selects yX5_goesOn.cls yX5_goesOn yX5_goesOn ∈ lw_good := ⟨mg (mT 340 (by decide +kernel)) rfl, mg (mS 0 (by decide +kernel)) rfl⟩
theorem vX5_29 : VOK RX5 29 RX5 yX5_goesOn cX5_goesOn 1 none 0 := vok (mg (mT 338 (by decide +kernel)) rfl) sX5_goesOn mX5_goesOn rfl
theorem mX5_heads : MOK yX5_heads cX5_heads 3 (some .boolean) 1 := ⟨⟨mg (mT 9 (by decide +kernel)) rfl, mg (mT 348 (by decide +kernel)) rfl⟩, by decide +kernel, by decide +kernel, by decide +kernel, by decide⟩
theorem sX5_heads : Cond.instanceMethod yX5_heads ∈ lw_good ∧ Cond.selects yX5_heads.cls yX5_heads yX5_heads ∈ lw_good := ⟨mg (mT 347 (by decide +kernel)) rfl, mg (mS 1 (by decide +kernel)) rfl⟩
theorem vX5_41 : VOK RX5 41 RX5 yX5_heads cX5_heads 3 (some .boolean) 1 := vok (mg (mT 345 (by decide +kernel)) rfl) sX5_heads mX5_heads rfl
theorem mX5_eats : MOK yX5_eats cX5_eats 3 (some .boolean) 1 := ⟨⟨mg (mT 9 (by decide +kernel)) rfl, mg (mT 400 (by decide +kernel)) rfl⟩, by decide +kernel, by decide +kernel, by decide +kernel, by decide⟩
theorem sX5_eats : Cond.instanceMethod yX5_eats ∈ lw_good ∧ Cond.selects yX5_eats.cls yX5_eats yX5_eats ∈ lw_good := ⟨mg (mT 399 (by decide +kernel)) rfl, mg (mS 2 (by decide +kernel)) rfl⟩
theorem vX5_51 : VOK RX5 51 RX5 yX5_eats cX5_eats 3 (some .boolean) 1 := vok (mg (mT 397 (by decide +kernel)) rfl) sX5_eats mX5_eats rfl
theorem mX5_either : MOK yX5_either cX5_either 4 (some .boolean) 1 := ⟨⟨mg (mT 9 (by decide +kernel)) rfl, mg (mT 411 (by decide +kernel)) rfl⟩, by decide +kernel, by decide +kernel, by decide +kernel, by decide⟩
theorem sX5_either : Cond.instanceMethod yX5_either ∈ lw_good ∧ Cond.selects yX5_either.cls yX5_either yX5_either ∈ lw_good := ⟨mg (mT 410 (by decide +kernel)) rfl, mg (mS 4 (by decide +kernel)) rfl⟩
theorem vX5_55 : VOK RX5 55 RX5 yX5_either cX5_either 4 (some .boolean) 1 := vok (mg (mT 408 (by decide +kernel)) rfl) sX5_either mX5_either rfl
theorem mX3_adds : MOK yX3_adds cX3_adds 3 none 2 := ⟨⟨mg (mT 4 (by decide +kernel)) rfl, mg (mT 433 (by decide +kernel)) rfl⟩, by decide +kernel, by decide +kernel, by decide +kernel, by decide⟩
theorem sX3_adds : Cond.instanceMethod yX3_adds ∈ lw_good ∧ Cond.selects yX3_adds.cls yX3_adds yX3_adds ∈ lw_good := ⟨mg (mT 431 (by decide +kernel)) rfl, mg (mT 432 (by decide +kernel)) rfl⟩
theorem vX5_58 : VOK RX5 58 RX3 yX3_adds cX3_adds 3 none 2 := vok (mg (mT 430 (by decide +kernel)) rfl) sX3_adds mX3_adds rfl
theorem mJ0_length_8abf5 : MOK yJ0_length_8abf5 cJ0_length_8abf5 1 (some .int) 0 := ⟨⟨mg (mT 12 (by decide +kernel)) rfl, mg (mT 352 (by decide +kernel)) rfl⟩, by decide +kernel, by decide +kernel, by decide +kernel, by decide⟩
theorem sJ0_length_8abf5 : Cond.instanceMethod yJ0_length_8abf5 ∈ lw_good ∧ Cond.selects yJ0_length_8abf5.cls yJ0_length_8abf5 yJ0_length_8abf5 ∈ lw_good := ⟨mg (mT 350 (by decide +kernel)) rfl, mg (mT 351 (by decide +kernel)) rfl⟩
theorem vX5_62 : VOK RX5 62 RJ0 yJ0_length_8abf5 cJ0_length_8abf5 1 (some .int) 0 := vok (mg (mT 349 (by decide +kernel)) rfl) sJ0_length_8abf5 mJ0_length_8abf5 rfl
theorem mJ0_charAt_5068e : MOK yJ0_charAt_5068e cJ0_charAt_5068e 2 (some .char) 1 := ⟨⟨mg (mT 12 (by decide +kernel)) rfl, mg (mT 362 (by decide +kernel)) rfl⟩, by decide +kernel, by decide +kernel, by decide +kernel, by decide⟩
theorem sJ0_charAt_5068e : Cond.instanceMethod yJ0_charAt_5068e ∈ lw_good ∧ Cond.selects yJ0_charAt_5068e.cls yJ0_charAt_5068e yJ0_charAt_5068e ∈ lw_good := ⟨mg (mT 360 (by decide +kernel)) rfl, mg (mT 361 (by decide +kernel)) rfl⟩
theorem vX5_68 : VOK RX5 68 RJ0 yJ0_charAt_5068e cJ0_charAt_5068e 2 (some .char) 1 := vok (mg (mT 359 (by decide +kernel)) rfl) sJ0_charAt_5068e mJ0_charAt_5068e rfl
theorem mX5_readsNumber : MOK yX5_readsNumber cX5_readsNumber 1 (some .boolean) 0 := ⟨⟨mg (mT 9 (by decide +kernel)) rfl, mg (mT 404 (by decide +kernel)) rfl⟩, by decide +kernel, by decide +kernel, by decide +kernel, by decide⟩
theorem sX5_readsNumber : Cond.instanceMethod yX5_readsNumber ∈ lw_good ∧ Cond.selects yX5_readsNumber.cls yX5_readsNumber yX5_readsNumber ∈ lw_good := ⟨mg (mT 403 (by decide +kernel)) rfl, mg (mS 3 (by decide +kernel)) rfl⟩
theorem vX5_72 : VOK RX5 72 RX5 yX5_readsNumber cX5_readsNumber 1 (some .boolean) 0 := vok (mg (mT 401 (by decide +kernel)) rfl) sX5_readsNumber mX5_readsNumber rfl
theorem mX5_both : MOK yX5_both cX5_both 4 (some .boolean) 1 := ⟨⟨mg (mT 9 (by decide +kernel)) rfl, mg (mT 415 (by decide +kernel)) rfl⟩, by decide +kernel, by decide +kernel, by decide +kernel, by decide⟩
theorem sX5_both : Cond.instanceMethod yX5_both ∈ lw_good ∧ Cond.selects yX5_both.cls yX5_both yX5_both ∈ lw_good := ⟨mg (mT 414 (by decide +kernel)) rfl, mg (mS 5 (by decide +kernel)) rfl⟩
theorem vX5_76 : VOK RX5 76 RX5 yX5_both cX5_both 4 (some .boolean) 1 := vok (mg (mT 412 (by decide +kernel)) rfl) sX5_both mX5_both rfl
theorem mX5_factor : MOK yX5_factor cX5_factor 4 (some .boolean) 1 := ⟨⟨mg (mT 9 (by decide +kernel)) rfl, mg (mT 419 (by decide +kernel)) rfl⟩, by decide +kernel, by decide +kernel, by decide +kernel, by decide⟩
theorem sX5_factor : Cond.instanceMethod yX5_factor ∈ lw_good ∧ Cond.selects yX5_factor.cls yX5_factor yX5_factor ∈ lw_good := ⟨mg (mT 418 (by decide +kernel)) rfl, mg (mS 6 (by decide +kernel)) rfl⟩
theorem vX5_79 : VOK RX5 79 RX5 yX5_factor cX5_factor 4 (some .boolean) 1 := vok (mg (mT 416 (by decide +kernel)) rfl) sX5_factor mX5_factor rfl
theorem mX5_test : MOK yX5_test cX5_test 3 (some .boolean) 0 := ⟨⟨mg (mT 9 (by decide +kernel)) rfl, mg (mT 423 (by decide +kernel)) rfl⟩, by decide +kernel, by decide +kernel, by decide +kernel, by decide⟩
theorem sX5_test : Cond.instanceMethod yX5_test ∈ lw_good ∧ Cond.selects yX5_test.cls yX5_test yX5_test ∈ lw_good := ⟨mg (mT 422 (by decide +kernel)) rfl, mg (mS 7 (by decide +kernel)) rfl⟩
theorem vX5_82 : VOK RX5 82 RX5 yX5_test cX5_test 3 (some .boolean) 0 := vok (mg (mT 420 (by decide +kernel)) rfl) sX5_test mX5_test rfl
theorem mX5_eatsOneOf : MOK yX5_eatsOneOf cX5_eatsOneOf 3 (some .int) 1 := ⟨⟨mg (mT 9 (by decide +kernel)) rfl, mg (mT 428 (by decide +kernel)) rfl⟩, by decide +kernel, by decide +kernel, by decide +kernel, by decide⟩
theorem sX5_eatsOneOf : Cond.instanceMethod yX5_eatsOneOf ∈ lw_good ∧ Cond.selects yX5_eatsOneOf.cls yX5_eatsOneOf yX5_eatsOneOf ∈ lw_good := ⟨mg (mT 427 (by decide +kernel)) rfl, mg (mS 8 (by decide +kernel)) rfl⟩
theorem vX5_87 : VOK RX5 87 RX5 yX5_eatsOneOf cX5_eatsOneOf 3 (some .int) 1 := vok (mg (mT 425 (by decide +kernel)) rfl) sX5_eatsOneOf mX5_eatsOneOf rfl
theorem pX5_25 : POK RX5 25 5 2 .int := ⟨RX5, TX5, 5, tyX5, rfl, by decide, gX5, tyX5_ok, nmX5, mg (mT 250 (by decide +kernel)) rfl, rfl, by decide +kernel⟩
theorem pX5_32 : POK RX5 32 5 3 .int := ⟨RX5, TX5, 5, tyX5, rfl, by decide, gX5, tyX5_ok, nmX5, mg (mT 251 (by decide +kernel)) rfl, rfl, by decide +kernel⟩
theorem pX5_45 : POK RX5 45 5 4 .int := ⟨RX5, TX5, 5, tyX5, rfl, by decide, gX5, tyX5_ok, nmX5, mg (mT 252 (by decide +kernel)) rfl, rfl, by decide +kernel⟩
theorem pX5_48 : POK RX5 48 3 3 .int := ⟨RX3, TX3, 4, tyX3, rfl, by decide, gX3, tyX3_ok, nmX3, mg (mT 106 (by decide +kernel)) rfl, rfl, by decide +kernel⟩
theorem fX6_18 : FOK RX6 18 6 0 := ⟨RX6, TX6, 3, rfl, by decide, gX6, mg (mT 130 (by decide +kernel)) rfl⟩
theorem fX6_24 : FOK RX6 24 6 1 := ⟨RX6, TX6, 3, rfl, by decide, gX6, mg (mT 131 (by decide +kernel)) rfl⟩
theorem fX6_28 : FOK RX6 28 6 2 := ⟨RX6, TX6, 3, rfl, by decide, gX6, mg (mT 133 (by decide +kernel)) rfl⟩
theorem vX6_9 : SOK RX6 9 yJ9_min_7cf53 cJ9_min_7cf53 2 (some .int) 2 := ⟨⟨mg (mT 124 (by decide +kernel)) rfl, mg (mT 125 (by decide +kernel)) rfl, mJ9_min_7cf53.1.1, mJ9_min_7cf53.1.2⟩, mJ9_min_7cf53.2⟩
theorem mJ9_max_7cf53 : MOK yJ9_max_7cf53 cJ9_max_7cf53 2 (some .int) 2 := ⟨⟨mg (mT 6 (by decide +kernel)) rfl, mg (mT 129 (by decide +kernel)) rfl⟩, by decide +kernel, by decide +kernel, by decide +kernel, by decide⟩
theorem vX6_15 : SOK RX6 15 yJ9_max_7cf53 cJ9_max_7cf53 2 (some .int) 2 := ⟨⟨mg (mT 127 (by decide +kernel)) rfl, mg (mT 128 (by decide +kernel)) rfl, mJ9_max_7cf53.1.1, mJ9_max_7cf53.1.2⟩, mJ9_max_7cf53.2⟩
theorem aX6_31 : AOK RX6 31 := ⟨mg (mT 777 (by decide +kernel)) rfl, mg (mT 444 (by decide +kernel)) rfl, mg (mT 443 (by decide +kernel)) rfl, mg (mT 16 (by decide +kernel)) rfl⟩
theorem pX6_28 : POK RX6 28 6 2 .int := ⟨RX6, TX6, 3, tyX6, rfl, by decide, gX6, tyX6_ok, nmX6, mg (mT 133 (by decide +kernel)) rfl, rfl, by decide +kernel⟩
theorem fX7_12 : FOK RX7 12 7 0 := ⟨RX7, TX7, 8, rfl, by decide, gX7, mg (mT 143 (by decide +kernel)) rfl⟩
theorem fX7_21 : FOK RX7 21 7 1 := ⟨RX7, TX7, 8, rfl, by decide, gX7, mg (mT 145 (by decide +kernel)) rfl⟩
theorem fX7_30 : FOK RX7 30 7 2 := ⟨RX7, TX7, 8, rfl, by decide, gX7, mg (mT 147 (by decide +kernel)) rfl⟩
theorem fX7_34 : FOK RX7 34 7 3 := ⟨RX7, TX7, 8, rfl, by decide, gX7, mg (mT 149 (by decide +kernel)) rfl⟩
theorem fX7_37 : FOK RX7 37 7 4 := ⟨RX7, TX7, 8, rfl, by decide, gX7, mg (mT 151 (by decide +kernel)) rfl⟩
theorem fX7_40 : FOK RX7 40 7 5 := ⟨RX7, TX7, 8, rfl, by decide, gX7, mg (mT 153 (by decide +kernel)) rfl⟩
theorem fX7_43 : FOK RX7 43 7 6 := ⟨RX7, TX7, 8, rfl, by decide, gX7, mg (mT 155 (by decide +kernel)) rfl⟩
theorem fX7_56 : FOK RX7 56 7 7 := ⟨RX7, TX7, 8, rfl, by decide, gX7, mg (mT 157 (by decide +kernel)) rfl⟩
theorem mX2_takes : MOK yX2_takes cX2_takes 2 none 1 := ⟨⟨mg (mT 3 (by decide +kernel)) rfl, mg (mT 595 (by decide +kernel)) rfl⟩, by decide +kernel, by decide +kernel, by decide +kernel, by decide⟩
theorem sX2_takes : Cond.instanceMethod yX2_takes ∈ lw_good ∧ Cond.selects yX2_takes.cls yX2_takes yX2_takes ∈ lw_good := ⟨mg (mT 593 (by decide +kernel)) rfl, mg (mT 594 (by decide +kernel)) rfl⟩
theorem vX7_46 : VOK RX7 46 RX2 yX2_takes cX2_takes 2 none 1 := vok (mg (mT 771 (by decide +kernel)) rfl) sX2_takes mX2_takes rfl
theorem mX3_takes : MOK yX3_takes cX3_takes 2 none 1 := ⟨⟨mg (mT 4 (by decide +kernel)) rfl, mg (mT 441 (by decide +kernel)) rfl⟩, by decide +kernel, by decide +kernel, by decide +kernel, by decide⟩
theorem sX3_takes : Cond.instanceMethod yX3_takes ∈ lw_good ∧ Cond.selects yX3_takes.cls yX3_takes yX3_takes ∈ lw_good := ⟨mg (mT 439 (by decide +kernel)) rfl, mg (mT 440 (by decide +kernel)) rfl⟩
theorem vX7_50 : VOK RX7 50 RX3 yX3_takes cX3_takes 2 none 1 := vok (mg (mT 772 (by decide +kernel)) rfl) sX3_takes mX3_takes rfl
theorem mX6_takes : MOK yX6_takes cX6_takes 3 none 1 := ⟨⟨mg (mT 5 (by decide +kernel)) rfl, mg (mT 776 (by decide +kernel)) rfl⟩, by decide +kernel, by decide +kernel, by decide +kernel, by decide⟩
theorem sX6_takes : Cond.instanceMethod yX6_takes ∈ lw_good ∧ Cond.selects yX6_takes.cls yX6_takes yX6_takes ∈ lw_good := ⟨mg (mT 774 (by decide +kernel)) rfl, mg (mT 775 (by decide +kernel)) rfl⟩
theorem vX7_53 : VOK RX7 53 RX6 yX6_takes cX6_takes 3 none 1 := vok (mg (mT 773 (by decide +kernel)) rfl) sX6_takes mX6_takes rfl
theorem pX7_56 : POK RX7 56 7 7 .int := ⟨RX7, TX7, 8, tyX7, rfl, by decide, gX7, tyX7_ok, nmX7, mg (mT 157 (by decide +kernel)) rfl, rfl, by decide +kernel⟩
theorem fX8_12 : FOK RX8 12 8 0 := ⟨RX8, TX8, 10, rfl, by decide, gX8, mg (mT 287 (by decide +kernel)) rfl⟩
theorem fX8_18 : FOK RX8 18 8 1 := ⟨RX8, TX8, 10, rfl, by decide, gX8, mg (mT 288 (by decide +kernel)) rfl⟩
theorem fX8_21 : FOK RX8 21 7 0 := ⟨RX7, TX7, 8, rfl, by decide, gX7, mg (mT 144 (by decide +kernel)) rfl⟩
theorem fX8_25 : FOK RX8 25 8 3 := ⟨RX8, TX8, 10, rfl, by decide, gX8, mg (mT 290 (by decide +kernel)) rfl⟩
theorem fX8_28 : FOK RX8 28 7 1 := ⟨RX7, TX7, 8, rfl, by decide, gX7, mg (mT 146 (by decide +kernel)) rfl⟩
theorem fX8_35 : FOK RX8 35 8 4 := ⟨RX8, TX8, 10, rfl, by decide, gX8, mg (mT 291 (by decide +kernel)) rfl⟩
theorem fX8_42 : FOK RX8 42 8 5 := ⟨RX8, TX8, 10, rfl, by decide, gX8, mg (mT 292 (by decide +kernel)) rfl⟩
theorem fX8_45 : FOK RX8 45 8 6 := ⟨RX8, TX8, 10, rfl, by decide, gX8, mg (mT 293 (by decide +kernel)) rfl⟩
theorem fX8_51 : FOK RX8 51 8 7 := ⟨RX8, TX8, 10, rfl, by decide, gX8, mg (mT 294 (by decide +kernel)) rfl⟩
theorem fX8_57 : FOK RX8 57 7 2 := ⟨RX7, TX7, 8, rfl, by decide, gX7, mg (mT 148 (by decide +kernel)) rfl⟩
theorem fX8_64 : FOK RX8 64 8 8 := ⟨RX8, TX8, 10, rfl, by decide, gX8, mg (mT 295 (by decide +kernel)) rfl⟩
theorem fX8_71 : FOK RX8 71 8 9 := ⟨RX8, TX8, 10, rfl, by decide, gX8, mg (mT 296 (by decide +kernel)) rfl⟩
theorem fX8_81 : FOK RX8 81 7 7 := ⟨RX7, TX7, 8, rfl, by decide, gX7, mg (mT 158 (by decide +kernel)) rfl⟩
theorem fX8_92 : FOK RX8 92 5 0 := ⟨RX5, TX5, 5, rfl, by decide, gX5, mg (mT 248 (by decide +kernel)) rfl⟩
theorem fX8_116 : FOK RX8 116 2 5 := ⟨RX2, TX2, 10, rfl, by decide, gX2, mg (mT 58 (by decide +kernel)) rfl⟩
theorem fX8_120 : FOK RX8 120 2 6 := ⟨RX2, TX2, 10, rfl, by decide, gX2, mg (mT 62 (by decide +kernel)) rfl⟩
theorem fX8_123 : FOK RX8 123 2 7 := ⟨RX2, TX2, 10, rfl, by decide, gX2, mg (mT 65 (by decide +kernel)) rfl⟩
theorem fX8_126 : FOK RX8 126 2 2 := ⟨RX2, TX2, 10, rfl, by decide, gX2, mg (mT 46 (by decide +kernel)) rfl⟩
theorem fX8_133 : FOK RX8 133 2 8 := ⟨RX2, TX2, 10, rfl, by decide, gX2, mg (mT 68 (by decide +kernel)) rfl⟩
theorem fX8_136 : FOK RX8 136 2 3 := ⟨RX2, TX2, 10, rfl, by decide, gX2, mg (mT 48 (by decide +kernel)) rfl⟩
theorem fX8_143 : FOK RX8 143 2 9 := ⟨RX2, TX2, 10, rfl, by decide, gX2, mg (mT 72 (by decide +kernel)) rfl⟩
theorem fX8_153 : FOK RX8 153 2 4 := ⟨RX2, TX2, 10, rfl, by decide, gX2, mg (mT 54 (by decide +kernel)) rfl⟩
theorem fX8_156 : FOK RX8 156 7 3 := ⟨RX7, TX7, 8, rfl, by decide, gX7, mg (mT 150 (by decide +kernel)) rfl⟩
theorem fX8_159 : FOK RX8 159 6 2 := ⟨RX6, TX6, 3, rfl, by decide, gX6, mg (mT 135 (by decide +kernel)) rfl⟩
theorem fX8_165 : FOK RX8 165 2 0 := ⟨RX2, TX2, 10, rfl, by decide, gX2, mg (mT 41 (by decide +kernel)) rfl⟩
theorem fX8_168 : FOK RX8 168 3 3 := ⟨RX3, TX3, 4, rfl, by decide, gX3, mg (mT 107 (by decide +kernel)) rfl⟩
theorem fX8_181 : FOK RX8 181 4 4 := ⟨RX4, TX4, 7, rfl, by decide, gX4, mg (mT 189 (by decide +kernel)) rfl⟩
theorem fX8_184 : FOK RX8 184 4 5 := ⟨RX4, TX4, 7, rfl, by decide, gX4, mg (mT 191 (by decide +kernel)) rfl⟩
theorem fX8_187 : FOK RX8 187 4 6 := ⟨RX4, TX4, 7, rfl, by decide, gX4, mg (mT 193 (by decide +kernel)) rfl⟩
theorem fX8_199 : FOK RX8 199 2 1 := ⟨RX2, TX2, 10, rfl, by decide, gX2, mg (mT 44 (by decide +kernel)) rfl⟩
theorem fX8_236 : FOK RX8 236 7 4 := ⟨RX7, TX7, 8, rfl, by decide, gX7, mg (mT 152 (by decide +kernel)) rfl⟩
theorem fX8_252 : FOK RX8 252 7 5 := ⟨RX7, TX7, 8, rfl, by decide, gX7, mg (mT 154 (by decide +kernel)) rfl⟩
theorem fX8_258 : FOK RX8 258 7 6 := ⟨RX7, TX7, 8, rfl, by decide, gX7, mg (mT 156 (by decide +kernel)) rfl⟩
theorem fX8_278 : FOK RX8 278 8 2 := ⟨RX8, TX8, 10, rfl, by decide, gX8, mg (mT 289 (by decide +kernel)) rfl⟩
theorem fX8_282 : FOK RX8 282 1 1 := ⟨RX1, TX1, 5, rfl, by decide, gX1, mg (mT 272 (by decide +kernel)) rfl⟩
theorem zX8_291 : Cond.fieldLink RX8 291 "StraightFurrow" "ABOVE" "[I" ∈ lw_good := mg (mT 762 (by decide +kernel)) rfl
theorem vX8_101 : SOK RX8 101 yX8_isKind cX8_isKind 1 (some .boolean) 1 := ⟨⟨mg (mT 450 (by decide +kernel)) rfl, mg (mT 451 (by decide +kernel)) rfl, mX8_isKind.1.1, mX8_isKind.1.2⟩, mX8_isKind.2⟩
theorem vX8_105 : SOK RX8 105 yX8_isLane cX8_isLane 1 (some .boolean) 1 := ⟨⟨mg (mT 453 (by decide +kernel)) rfl, mg (mT 454 (by decide +kernel)) rfl, mX8_isLane.1.1, mX8_isLane.1.2⟩, mX8_isLane.2⟩
theorem vX8_108 : SOK RX8 108 yX8_isDigit cX8_isDigit 1 (some .boolean) 1 := ⟨⟨mg (mT 456 (by decide +kernel)) rfl, mg (mT 406 (by decide +kernel)) rfl, mX8_isDigit.1.1, mX8_isDigit.1.2⟩, mX8_isDigit.2⟩
theorem vX8_129 : SOK RX8 129 yX8_bit cX8_bit 2 (some .int) 2 := ⟨⟨mg (mT 470 (by decide +kernel)) rfl, mg (mT 471 (by decide +kernel)) rfl, mX8_bit.1.1, mX8_bit.1.2⟩, mX8_bit.2⟩
theorem vX8_150 : SOK RX8 150 yX8_isStep cX8_isStep 1 (some .boolean) 1 := ⟨⟨mg (mT 530 (by decide +kernel)) rfl, mg (mT 491 (by decide +kernel)) rfl, mX8_isStep.1.1, mX8_isStep.1.2⟩, mX8_isStep.2⟩
theorem mX8_isFind : MOK yX8_isFind cX8_isFind 1 (some .boolean) 1 := ⟨⟨mg (mT 1 (by decide +kernel)) rfl, mg (mT 612 (by decide +kernel)) rfl⟩, by decide +kernel, by decide +kernel, by decide +kernel, by decide⟩
theorem vX8_209 : SOK RX8 209 yX8_isFind cX8_isFind 1 (some .boolean) 1 := ⟨⟨mg (mT 610 (by decide +kernel)) rfl, mg (mT 611 (by decide +kernel)) rfl, mX8_isFind.1.1, mX8_isFind.1.2⟩, mX8_isFind.2⟩
theorem mJ7_fill_53178 : MOK yJ7_fill_53178 cJ7_fill_53178 4 none 2 := ⟨⟨mg (mT 17 (by decide +kernel)) rfl, mg (mT 623 (by decide +kernel)) rfl⟩, by decide +kernel, by decide +kernel, by decide +kernel, by decide⟩
theorem vX8_215 : SOK RX8 215 yJ7_fill_53178 cJ7_fill_53178 4 none 2 := ⟨⟨mg (mT 621 (by decide +kernel)) rfl, mg (mT 622 (by decide +kernel)) rfl, mJ7_fill_53178.1.1, mJ7_fill_53178.1.2⟩, mJ7_fill_53178.2⟩
theorem vX8_231 : SOK RX8 231 yJ6_bitCount_0f7a4 cJ6_bitCount_0f7a4 1 (some .int) 1 := ⟨⟨mg (mT 658 (by decide +kernel)) rfl, mg (mT 635 (by decide +kernel)) rfl, mJ6_bitCount_0f7a4.1.1, mJ6_bitCount_0f7a4.1.2⟩, mJ6_bitCount_0f7a4.2⟩
theorem mX8_isPart : MOK yX8_isPart cX8_isPart 1 (some .boolean) 1 := ⟨⟨mg (mT 1 (by decide +kernel)) rfl, mg (mT 685 (by decide +kernel)) rfl⟩, by decide +kernel, by decide +kernel, by decide +kernel, by decide⟩
theorem vX8_243 : SOK RX8 243 yX8_isPart cX8_isPart 1 (some .boolean) 1 := ⟨⟨mg (mT 683 (by decide +kernel)) rfl, mg (mT 684 (by decide +kernel)) rfl, mX8_isPart.1.1, mX8_isPart.1.2⟩, mX8_isPart.2⟩
theorem mX8_partOf : MOK yX8_partOf cX8_partOf 4 (some .long) 3 := ⟨⟨mg (mT 1 (by decide +kernel)) rfl, mg (mT 689 (by decide +kernel)) rfl⟩, by decide +kernel, by decide +kernel, by decide +kernel, by decide⟩
theorem vX8_248 : SOK RX8 248 yX8_partOf cX8_partOf 4 (some .long) 3 := ⟨⟨mg (mT 687 (by decide +kernel)) rfl, mg (mT 688 (by decide +kernel)) rfl, mX8_partOf.1.1, mX8_partOf.1.2⟩, mX8_partOf.2⟩
theorem mX8_isUnder : MOK yX8_isUnder cX8_isUnder 4 (some .boolean) 2 := ⟨⟨mg (mT 1 (by decide +kernel)) rfl, mg (mT 761 (by decide +kernel)) rfl⟩, by decide +kernel, by decide +kernel, by decide +kernel, by decide⟩
theorem vX8_271 : SOK RX8 271 yX8_isUnder cX8_isUnder 4 (some .boolean) 2 := ⟨⟨mg (mT 759 (by decide +kernel)) rfl, mg (mT 760 (by decide +kernel)) rfl, mX8_isUnder.1.1, mX8_isUnder.1.2⟩, mX8_isUnder.2⟩
theorem vX8_294 : SOK RX8 294 yJ9_abs_0f7a4 cJ9_abs_0f7a4 1 (some .int) 1 := ⟨⟨mg (mT 690 (by decide +kernel)) rfl, mg (mT 507 (by decide +kernel)) rfl, mJ9_abs_0f7a4.1.1, mJ9_abs_0f7a4.1.2⟩, mJ9_abs_0f7a4.2⟩
theorem mX8_commonOf : MOK yX8_commonOf cX8_commonOf 6 (some .int) 2 := ⟨⟨mg (mT 1 (by decide +kernel)) rfl, mg (mT 693 (by decide +kernel)) rfl⟩, by decide +kernel, by decide +kernel, by decide +kernel, by decide⟩
theorem vX8_299 : SOK RX8 299 yX8_commonOf cX8_commonOf 6 (some .int) 2 := ⟨⟨mg (mT 691 (by decide +kernel)) rfl, mg (mT 692 (by decide +kernel)) rfl, mX8_commonOf.1.1, mX8_commonOf.1.2⟩, mX8_commonOf.2⟩
theorem mX6_adds : MOK yX6_adds cX6_adds 5 (some .int) 3 := ⟨⟨mg (mT 5 (by decide +kernel)) rfl, mg (mT 325 (by decide +kernel)) rfl⟩, by decide +kernel, by decide +kernel, by decide +kernel, by decide⟩
theorem sX6_adds : Cond.instanceMethod yX6_adds ∈ lw_good ∧ Cond.selects yX6_adds.cls yX6_adds yX6_adds ∈ lw_good := ⟨mg (mT 323 (by decide +kernel)) rfl, mg (mT 324 (by decide +kernel)) rfl⟩
theorem vX8_75 : VOK RX8 75 RX6 yX6_adds cX6_adds 5 (some .int) 3 := vok (mg (mT 322 (by decide +kernel)) rfl) sX6_adds mX6_adds rfl
theorem mX5_faultOfTape : MOK yX5_faultOfTape cX5_faultOfTape 5 (some .int) 0 := ⟨⟨mg (mT 9 (by decide +kernel)) rfl, mg (mT 333 (by decide +kernel)) rfl⟩, by decide +kernel, by decide +kernel, by decide +kernel, by decide⟩
theorem sX5_faultOfTape : Cond.instanceMethod yX5_faultOfTape ∈ lw_good ∧ Cond.selects yX5_faultOfTape.cls yX5_faultOfTape yX5_faultOfTape ∈ lw_good := ⟨mg (mT 331 (by decide +kernel)) rfl, mg (mT 332 (by decide +kernel)) rfl⟩
theorem vX8_85 : VOK RX8 85 RX5 yX5_faultOfTape cX5_faultOfTape 5 (some .int) 0 := vok (mg (mT 330 (by decide +kernel)) rfl) sX5_faultOfTape mX5_faultOfTape rfl
theorem mX6_empties : MOK yX6_empties cX6_empties 1 (some .int) 0 := ⟨⟨mg (mT 5 (by decide +kernel)) rfl, mg (mT 437 (by decide +kernel)) rfl⟩, by decide +kernel, by decide +kernel, by decide +kernel, by decide⟩
theorem sX6_empties : Cond.instanceMethod yX6_empties ∈ lw_good ∧ Cond.selects yX6_empties.cls yX6_empties yX6_empties ∈ lw_good := ⟨mg (mT 435 (by decide +kernel)) rfl, mg (mT 436 (by decide +kernel)) rfl⟩
theorem vX8_89 : VOK RX8 89 RX6 yX6_empties cX6_empties 1 (some .int) 0 := vok (mg (mT 434 (by decide +kernel)) rfl) sX6_empties mX6_empties rfl
theorem vX8_95 : VOK RX8 95 RX3 yX3_takes cX3_takes 2 none 1 := vok (mg (mT 438 (by decide +kernel)) rfl) sX3_takes mX3_takes rfl
theorem mX2_adds : MOK yX2_adds cX2_adds 5 (some .int) 3 := ⟨⟨mg (mT 3 (by decide +kernel)) rfl, mg (mT 460 (by decide +kernel)) rfl⟩, by decide +kernel, by decide +kernel, by decide +kernel, by decide⟩
theorem sX2_adds : Cond.instanceMethod yX2_adds ∈ lw_good ∧ Cond.selects yX2_adds.cls yX2_adds yX2_adds ∈ lw_good := ⟨mg (mT 458 (by decide +kernel)) rfl, mg (mT 459 (by decide +kernel)) rfl⟩
theorem vX8_111 : VOK RX8 111 RX2 yX2_adds cX2_adds 5 (some .int) 3 := vok (mg (mT 457 (by decide +kernel)) rfl) sX2_adds mX2_adds rfl
theorem vX8_112 : VOK RX8 112 RX2 yX2_has cX2_has 2 (some .boolean) 1 := vok (mg (mT 465 (by decide +kernel)) rfl) sX2_has mX2_has rfl
theorem mX4_pegScore : MOK yX4_pegScore cX4_pegScore 2 (some .int) 1 := ⟨⟨mg (mT 7 (by decide +kernel)) rfl, mg (mT 476 (by decide +kernel)) rfl⟩, by decide +kernel, by decide +kernel, by decide +kernel, by decide⟩
theorem sX4_pegScore : Cond.instanceMethod yX4_pegScore ∈ lw_good ∧ Cond.selects yX4_pegScore.cls yX4_pegScore yX4_pegScore ∈ lw_good := ⟨mg (mT 474 (by decide +kernel)) rfl, mg (mT 475 (by decide +kernel)) rfl⟩
theorem vX8_139 : VOK RX8 139 RX4 yX4_pegScore cX4_pegScore 2 (some .int) 1 := vok (mg (mT 473 (by decide +kernel)) rfl) sX4_pegScore mX4_pegScore rfl
theorem mX2_goesAway : MOK yX2_goesAway cX2_goesAway 3 none 2 := ⟨⟨mg (mT 3 (by decide +kernel)) rfl, mg (mT 524 (by decide +kernel)) rfl⟩, by decide +kernel, by decide +kernel, by decide +kernel, by decide⟩
theorem sX2_goesAway : Cond.instanceMethod yX2_goesAway ∈ lw_good ∧ Cond.selects yX2_goesAway.cls yX2_goesAway yX2_goesAway ∈ lw_good := ⟨mg (mT 522 (by decide +kernel)) rfl, mg (mT 523 (by decide +kernel)) rfl⟩
theorem vX8_146 : VOK RX8 146 RX2 yX2_goesAway cX2_goesAway 3 none 2 := vok (mg (mT 521 (by decide +kernel)) rfl) sX2_goesAway mX2_goesAway rfl
theorem mX8_decided : MOK yX8_decided cX8_decided 5 (some .int) 2 := ⟨⟨mg (mT 1 (by decide +kernel)) rfl, mg (mT 542 (by decide +kernel)) rfl⟩, by decide +kernel, by decide +kernel, by decide +kernel, by decide⟩
theorem sX8_decided : Cond.instanceMethod yX8_decided ∈ lw_good ∧ Cond.selects yX8_decided.cls yX8_decided yX8_decided ∈ lw_good := ⟨mg (mT 541 (by decide +kernel)) rfl, mg (mS 9 (by decide +kernel)) rfl⟩
theorem vX8_162 : VOK RX8 162 RX8 yX8_decided cX8_decided 5 (some .int) 2 := vok (mg (mT 539 (by decide +kernel)) rfl) sX8_decided mX8_decided rfl
theorem mX8_winner : MOK yX8_winner cX8_winner 1 (some .int) 0 := ⟨⟨mg (mT 1 (by decide +kernel)) rfl, mg (mT 550 (by decide +kernel)) rfl⟩, by decide +kernel, by decide +kernel, by decide +kernel, by decide⟩
theorem sX8_winner : Cond.instanceMethod yX8_winner ∈ lw_good ∧ Cond.selects yX8_winner.cls yX8_winner yX8_winner ∈ lw_good := ⟨mg (mT 549 (by decide +kernel)) rfl, mg (mS 10 (by decide +kernel)) rfl⟩
theorem vX8_171 : VOK RX8 171 RX8 yX8_winner cX8_winner 1 (some .int) 0 := vok (mg (mT 547 (by decide +kernel)) rfl) sX8_winner mX8_winner rfl
theorem mX4_yearsGo : MOK yX4_yearsGo cX4_yearsGo 7 none 2 := ⟨⟨mg (mT 7 (by decide +kernel)) rfl, mg (mT 568 (by decide +kernel)) rfl⟩, by decide +kernel, by decide +kernel, by decide +kernel, by decide⟩
theorem sX4_yearsGo : Cond.instanceMethod yX4_yearsGo ∈ lw_good ∧ Cond.selects yX4_yearsGo.cls yX4_yearsGo yX4_yearsGo ∈ lw_good := ⟨mg (mT 566 (by decide +kernel)) rfl, mg (mT 567 (by decide +kernel)) rfl⟩
theorem vX8_174 : VOK RX8 174 RX4 yX4_yearsGo cX4_yearsGo 7 none 2 := vok (mg (mT 565 (by decide +kernel)) rfl) sX4_yearsGo mX4_yearsGo rfl
theorem vX8_178 : VOK RX8 178 RX4 yX4_goes cX4_goes 6 (some .int) 2 := vok (mg (mT 580 (by decide +kernel)) rfl) sX4_goes mX4_goes rfl
theorem vX8_190 : VOK RX8 190 RX4 yX4_span cX4_span 1 (some .int) 0 := vok (mg (mT 581 (by decide +kernel)) rfl) sX4_span mX4_span rfl
theorem vX8_193 : VOK RX8 193 RX4 yX4_score cX4_score 1 (some .int) 0 := vok (mg (mT 582 (by decide +kernel)) rfl) sX4_score mX4_score rfl
theorem vX8_196 : VOK RX8 196 RX4 yX4_strayed cX4_strayed 7 (some .int) 3 := vok (mg (mT 587 (by decide +kernel)) rfl) sX4_strayed mX4_strayed rfl
theorem vX8_202 : VOK RX8 202 RX2 yX2_takes cX2_takes 2 none 1 := vok (mg (mT 592 (by decide +kernel)) rfl) sX2_takes mX2_takes rfl
theorem mX6_at : MOK yX6_at cX6_at 4 (some .int) 2 := ⟨⟨mg (mT 5 (by decide +kernel)) rfl, mg (mT 546 (by decide +kernel)) rfl⟩, by decide +kernel, by decide +kernel, by decide +kernel, by decide⟩
theorem sX6_at : Cond.instanceMethod yX6_at ∈ lw_good ∧ Cond.selects yX6_at.cls yX6_at yX6_at ∈ lw_good := ⟨mg (mT 544 (by decide +kernel)) rfl, mg (mT 545 (by decide +kernel)) rfl⟩
theorem vX8_206 : VOK RX8 206 RX6 yX6_at cX6_at 4 (some .int) 2 := vok (mg (mT 543 (by decide +kernel)) rfl) sX6_at mX6_at rfl
theorem mX8_scoreIfLaid : MOK yX8_scoreIfLaid cX8_scoreIfLaid 4 (some .int) 3 := ⟨⟨mg (mT 1 (by decide +kernel)) rfl, mg (mT 616 (by decide +kernel)) rfl⟩, by decide +kernel, by decide +kernel, by decide +kernel, by decide⟩
theorem sX8_scoreIfLaid : Cond.instanceMethod yX8_scoreIfLaid ∈ lw_good ∧ Cond.selects yX8_scoreIfLaid.cls yX8_scoreIfLaid yX8_scoreIfLaid ∈ lw_good := ⟨mg (mT 615 (by decide +kernel)) rfl, mg (mS 11 (by decide +kernel)) rfl⟩
theorem vX8_212 : VOK RX8 212 RX8 yX8_scoreIfLaid cX8_scoreIfLaid 4 (some .int) 3 := vok (mg (mT 613 (by decide +kernel)) rfl) sX8_scoreIfLaid mX8_scoreIfLaid rfl
theorem mX0_fewestTaken : MOK yX0_fewestTaken cX0_fewestTaken 6 (some .int) 3 := ⟨⟨mg (mT 8 (by decide +kernel)) rfl, mg (mT 627 (by decide +kernel)) rfl⟩, by decide +kernel, by decide +kernel, by decide +kernel, by decide⟩
theorem sX0_fewestTaken : Cond.instanceMethod yX0_fewestTaken ∈ lw_good ∧ Cond.selects yX0_fewestTaken.cls yX0_fewestTaken yX0_fewestTaken ∈ lw_good := ⟨mg (mT 625 (by decide +kernel)) rfl, mg (mT 626 (by decide +kernel)) rfl⟩
theorem vX8_221 : VOK RX8 221 RX0 yX0_fewestTaken cX0_fewestTaken 6 (some .int) 3 := vok (mg (mT 624 (by decide +kernel)) rfl) sX0_fewestTaken mX0_fewestTaken rfl
theorem vX8_225 : VOK RX8 225 RX4 yX4_scoresAll cX4_scoresAll 2 none 0 := vok (mg (mT 551 (by decide +kernel)) rfl) sX4_scoresAll mX4_scoresAll rfl
theorem vX8_228 : VOK RX8 228 RX4 yX4_whoHas cX4_whoHas 4 (some .int) 1 := vok (mg (mT 657 (by decide +kernel)) rfl) sX4_whoHas mX4_whoHas rfl
theorem mX8_isAsSeen : MOK yX8_isAsSeen cX8_isAsSeen 5 (some .boolean) 2 := ⟨⟨mg (mT 1 (by decide +kernel)) rfl, mg (mT 670 (by decide +kernel)) rfl⟩, by decide +kernel, by decide +kernel, by decide +kernel, by decide⟩
theorem sX8_isAsSeen : Cond.instanceMethod yX8_isAsSeen ∈ lw_good ∧ Cond.selects yX8_isAsSeen.cls yX8_isAsSeen yX8_isAsSeen ∈ lw_good := ⟨mg (mT 669 (by decide +kernel)) rfl, mg (mS 14 (by decide +kernel)) rfl⟩
theorem vX8_239 : VOK RX8 239 RX8 yX8_isAsSeen cX8_isAsSeen 5 (some .boolean) 2 := vok (mg (mT 667 (by decide +kernel)) rfl) sX8_isAsSeen mX8_isAsSeen rfl
theorem mX2_winsOfAll : MOK yX2_winsOfAll cX2_winsOfAll 3 (some .int) 0 := ⟨⟨mg (mT 3 (by decide +kernel)) rfl, mg (mT 709 (by decide +kernel)) rfl⟩, by decide +kernel, by decide +kernel, by decide +kernel, by decide⟩
theorem sX2_winsOfAll : Cond.instanceMethod yX2_winsOfAll ∈ lw_good ∧ Cond.selects yX2_winsOfAll.cls yX2_winsOfAll yX2_winsOfAll ∈ lw_good := ⟨mg (mT 707 (by decide +kernel)) rfl, mg (mT 708 (by decide +kernel)) rfl⟩
theorem vX8_255 : VOK RX8 255 RX2 yX2_winsOfAll cX2_winsOfAll 3 (some .int) 0 := vok (mg (mT 706 (by decide +kernel)) rfl) sX2_winsOfAll mX2_winsOfAll rfl
theorem mX1_forgets : MOK yX1_forgets cX1_forgets 1 none 0 := ⟨⟨mg (mT 10 (by decide +kernel)) rfl, mg (mT 725 (by decide +kernel)) rfl⟩, by decide +kernel, by decide +kernel, by decide +kernel, by decide⟩
theorem sX1_forgets : Cond.instanceMethod yX1_forgets ∈ lw_good ∧ Cond.selects yX1_forgets.cls yX1_forgets yX1_forgets ∈ lw_good := ⟨mg (mT 723 (by decide +kernel)) rfl, mg (mT 724 (by decide +kernel)) rfl⟩
theorem vX8_261 : VOK RX8 261 RX1 yX1_forgets cX1_forgets 1 none 0 := vok (mg (mT 722 (by decide +kernel)) rfl) sX1_forgets mX1_forgets rfl
theorem mX1_acts : MOK yX1_acts cX1_acts 5 (some .int) 4 := ⟨⟨mg (mT 10 (by decide +kernel)) rfl, mg (mT 729 (by decide +kernel)) rfl⟩, by decide +kernel, by decide +kernel, by decide +kernel, by decide⟩
theorem sX1_acts : Cond.instanceMethod yX1_acts ∈ lw_good ∧ Cond.selects yX1_acts.cls yX1_acts yX1_acts ∈ lw_good := ⟨mg (mT 727 (by decide +kernel)) rfl, mg (mT 728 (by decide +kernel)) rfl⟩
theorem vX8_264 : VOK RX8 264 RX1 yX1_acts cX1_acts 5 (some .int) 4 := vok (mg (mT 726 (by decide +kernel)) rfl) sX1_acts mX1_acts rfl
theorem mX1_bodyAt : MOK yX1_bodyAt cX1_bodyAt 2 (some .int) 1 := ⟨⟨mg (mT 10 (by decide +kernel)) rfl, mg (mT 754 (by decide +kernel)) rfl⟩, by decide +kernel, by decide +kernel, by decide +kernel, by decide⟩
theorem sX1_bodyAt : Cond.instanceMethod yX1_bodyAt ∈ lw_good ∧ Cond.selects yX1_bodyAt.cls yX1_bodyAt yX1_bodyAt ∈ lw_good := ⟨mg (mT 752 (by decide +kernel)) rfl, mg (mT 753 (by decide +kernel)) rfl⟩
theorem vX8_268 : VOK RX8 268 RX1 yX1_bodyAt cX1_bodyAt 2 (some .int) 1 := vok (mg (mT 751 (by decide +kernel)) rfl) sX1_bodyAt mX1_bodyAt rfl
theorem mX7_takes : MOK yX7_takes cX7_takes 2 none 1 := ⟨⟨mg (mT 2 (by decide +kernel)) rfl, mg (mT 770 (by decide +kernel)) rfl⟩, by decide +kernel, by decide +kernel, by decide +kernel, by decide⟩
theorem sX7_takes : Cond.instanceMethod yX7_takes ∈ lw_good ∧ Cond.selects yX7_takes.cls yX7_takes yX7_takes ∈ lw_good := ⟨mg (mT 768 (by decide +kernel)) rfl, mg (mT 769 (by decide +kernel)) rfl⟩
theorem vX8_275 : VOK RX8 275 RX7 yX7_takes cX7_takes 2 none 1 := vok (mg (mT 767 (by decide +kernel)) rfl) sX7_takes mX7_takes rfl
theorem vX8_285 : VOK RX8 285 RX4 yX4_bestOfAll cX4_bestOfAll 4 (some .int) 0 := vok (mg (mT 556 (by decide +kernel)) rfl) sX4_bestOfAll mX4_bestOfAll rfl
theorem mX4_laneAt : MOK yX4_laneAt cX4_laneAt 2 (some .int) 1 := ⟨⟨mg (mT 7 (by decide +kernel)) rfl, mg (mT 674 (by decide +kernel)) rfl⟩, by decide +kernel, by decide +kernel, by decide +kernel, by decide⟩
theorem sX4_laneAt : Cond.instanceMethod yX4_laneAt ∈ lw_good ∧ Cond.selects yX4_laneAt.cls yX4_laneAt yX4_laneAt ∈ lw_good := ⟨mg (mT 672 (by decide +kernel)) rfl, mg (mT 673 (by decide +kernel)) rfl⟩
theorem vX8_288 : VOK RX8 288 RX4 yX4_laneAt cX4_laneAt 2 (some .int) 1 := vok (mg (mT 671 (by decide +kernel)) rfl) sX4_laneAt mX4_laneAt rfl
theorem pX8_81 : POK RX8 81 7 7 .int := ⟨RX7, TX7, 8, tyX7, rfl, by decide, gX7, tyX7_ok, nmX7, mg (mT 158 (by decide +kernel)) rfl, rfl, by decide +kernel⟩
theorem pX8_278 : POK RX8 278 8 2 .boolean := ⟨RX8, TX8, 10, tyX8, rfl, by decide, gX8, tyX8_ok, nmX8, mg (mT 289 (by decide +kernel)) rfl, rfl, by decide +kernel⟩
theorem fX9_9 : FOK RX9 9 9 1 := ⟨RX9, TX9, 22, rfl, by decide, gX9, mg (mT 792 (by decide +kernel)) rfl⟩
theorem fX9_15 : FOK RX9 15 9 2 := ⟨RX9, TX9, 22, rfl, by decide, gX9, mg (mT 793 (by decide +kernel)) rfl⟩
theorem fX9_18 : FOK RX9 18 9 3 := ⟨RX9, TX9, 22, rfl, by decide, gX9, mg (mT 794 (by decide +kernel)) rfl⟩
theorem fX9_21 : FOK RX9 21 9 10 := ⟨RX9, TX9, 22, rfl, by decide, gX9, mg (mT 801 (by decide +kernel)) rfl⟩
theorem fX9_24 : FOK RX9 24 9 11 := ⟨RX9, TX9, 22, rfl, by decide, gX9, mg (mT 802 (by decide +kernel)) rfl⟩
theorem fX9_28 : FOK RX9 28 9 12 := ⟨RX9, TX9, 22, rfl, by decide, gX9, mg (mT 803 (by decide +kernel)) rfl⟩
theorem fX9_31 : FOK RX9 31 9 15 := ⟨RX9, TX9, 22, rfl, by decide, gX9, mg (mT 806 (by decide +kernel)) rfl⟩
theorem fX9_34 : FOK RX9 34 9 16 := ⟨RX9, TX9, 22, rfl, by decide, gX9, mg (mT 807 (by decide +kernel)) rfl⟩
theorem fX9_37 : FOK RX9 37 9 17 := ⟨RX9, TX9, 22, rfl, by decide, gX9, mg (mT 808 (by decide +kernel)) rfl⟩
theorem fX9_48 : FOK RX9 48 9 6 := ⟨RX9, TX9, 22, rfl, by decide, gX9, mg (mT 797 (by decide +kernel)) rfl⟩
theorem fX9_51 : FOK RX9 51 9 7 := ⟨RX9, TX9, 22, rfl, by decide, gX9, mg (mT 798 (by decide +kernel)) rfl⟩
theorem fX9_54 : FOK RX9 54 9 8 := ⟨RX9, TX9, 22, rfl, by decide, gX9, mg (mT 799 (by decide +kernel)) rfl⟩
theorem fX9_75 : FOK RX9 75 9 5 := ⟨RX9, TX9, 22, rfl, by decide, gX9, mg (mT 796 (by decide +kernel)) rfl⟩
theorem fX9_78 : FOK RX9 78 9 9 := ⟨RX9, TX9, 22, rfl, by decide, gX9, mg (mT 800 (by decide +kernel)) rfl⟩
theorem fX9_132 : FOK RX9 132 9 13 := ⟨RX9, TX9, 22, rfl, by decide, gX9, mg (mT 804 (by decide +kernel)) rfl⟩
theorem fX9_135 : FOK RX9 135 9 14 := ⟨RX9, TX9, 22, rfl, by decide, gX9, mg (mT 805 (by decide +kernel)) rfl⟩
theorem fX9_222 : FOK RX9 222 9 18 := ⟨RX9, TX9, 22, rfl, by decide, gX9, mg (mT 809 (by decide +kernel)) rfl⟩
theorem fX9_228 : FOK RX9 228 9 20 := ⟨RX9, TX9, 22, rfl, by decide, gX9, mg (mT 811 (by decide +kernel)) rfl⟩
theorem fX9_231 : FOK RX9 231 9 19 := ⟨RX9, TX9, 22, rfl, by decide, gX9, mg (mT 810 (by decide +kernel)) rfl⟩
theorem fX9_243 : FOK RX9 243 9 21 := ⟨RX9, TX9, 22, rfl, by decide, gX9, mg (mT 812 (by decide +kernel)) rfl⟩
theorem fX9_258 : FOK RX9 258 9 4 := ⟨RX9, TX9, 22, rfl, by decide, gX9, mg (mT 795 (by decide +kernel)) rfl⟩
theorem mX9_in : MOK yX9_in cX9_in 3 (some .boolean) 3 := ⟨⟨mg (mT 11 (by decide +kernel)) rfl, mg (mT 865 (by decide +kernel)) rfl⟩, by decide +kernel, by decide +kernel, by decide +kernel, by decide⟩
theorem vX9_44 : SOK RX9 44 yX9_in cX9_in 3 (some .boolean) 3 := ⟨⟨mg (mT 863 (by decide +kernel)) rfl, mg (mT 864 (by decide +kernel)) rfl, mX9_in.1.1, mX9_in.1.2⟩, mX9_in.2⟩
theorem mX9_went : MOK yX9_went cX9_went 2 (some .int) 2 := ⟨⟨mg (mT 11 (by decide +kernel)) rfl, mg (mT 963 (by decide +kernel)) rfl⟩, by decide +kernel, by decide +kernel, by decide +kernel, by decide⟩
theorem vX9_141 : SOK RX9 141 yX9_went cX9_went 2 (some .int) 2 := ⟨⟨mg (mT 961 (by decide +kernel)) rfl, mg (mT 962 (by decide +kernel)) rfl, mX9_went.1.1, mX9_went.1.2⟩, mX9_went.2⟩
theorem mX9_isLane : MOK yX9_isLane cX9_isLane 1 (some .boolean) 1 := ⟨⟨mg (mT 11 (by decide +kernel)) rfl, mg (mT 931 (by decide +kernel)) rfl⟩, by decide +kernel, by decide +kernel, by decide +kernel, by decide⟩
theorem vX9_158 : SOK RX9 158 yX9_isLane cX9_isLane 1 (some .boolean) 1 := ⟨⟨mg (mT 929 (by decide +kernel)) rfl, mg (mT 930 (by decide +kernel)) rfl, mX9_isLane.1.1, mX9_isLane.1.2⟩, mX9_isLane.2⟩
theorem mX9_isStep : MOK yX9_isStep cX9_isStep 1 (some .boolean) 1 := ⟨⟨mg (mT 11 (by decide +kernel)) rfl, mg (mT 994 (by decide +kernel)) rfl⟩, by decide +kernel, by decide +kernel, by decide +kernel, by decide⟩
theorem vX9_169 : SOK RX9 169 yX9_isStep cX9_isStep 1 (some .boolean) 1 := ⟨⟨mg (mT 992 (by decide +kernel)) rfl, mg (mT 993 (by decide +kernel)) rfl, mX9_isStep.1.1, mX9_isStep.1.2⟩, mX9_isStep.2⟩
theorem mX9_countOf : MOK yX9_countOf cX9_countOf 3 (some .int) 1 := ⟨⟨mg (mT 11 (by decide +kernel)) rfl, mg (mT 1074 (by decide +kernel)) rfl⟩, by decide +kernel, by decide +kernel, by decide +kernel, by decide⟩
theorem vX9_200 : SOK RX9 200 yX9_countOf cX9_countOf 3 (some .int) 1 := ⟨⟨mg (mT 1072 (by decide +kernel)) rfl, mg (mT 1073 (by decide +kernel)) rfl, mX9_countOf.1.1, mX9_countOf.1.2⟩, mX9_countOf.2⟩
theorem mX9_lowest : MOK yX9_lowest cX9_lowest 11 (some .long) 3 := ⟨⟨mg (mT 11 (by decide +kernel)) rfl, mg (mT 1107 (by decide +kernel)) rfl⟩, by decide +kernel, by decide +kernel, by decide +kernel, by decide⟩
theorem vX9_214 : SOK RX9 214 yX9_lowest cX9_lowest 11 (some .long) 3 := ⟨⟨mg (mT 1105 (by decide +kernel)) rfl, mg (mT 1106 (by decide +kernel)) rfl, mX9_lowest.1.1, mX9_lowest.1.2⟩, mX9_lowest.2⟩
theorem mX9_isUnder : MOK yX9_isUnder cX9_isUnder 2 (some .boolean) 2 := ⟨⟨mg (mT 11 (by decide +kernel)) rfl, mg (mT 1142 (by decide +kernel)) rfl⟩, by decide +kernel, by decide +kernel, by decide +kernel, by decide⟩
theorem vX9_234 : SOK RX9 234 yX9_isUnder cX9_isUnder 2 (some .boolean) 2 := ⟨⟨mg (mT 1140 (by decide +kernel)) rfl, mg (mT 1141 (by decide +kernel)) rfl, mX9_isUnder.1.1, mX9_isUnder.1.2⟩, mX9_isUnder.2⟩
theorem mX9_here : MOK yX9_here cX9_here 1 (some .int) 0 := ⟨⟨mg (mT 11 (by decide +kernel)) rfl, mg (mT 877 (by decide +kernel)) rfl⟩, by decide +kernel, by decide +kernel, by decide +kernel, by decide⟩
theorem sX9_here : Cond.instanceMethod yX9_here ∈ lw_good ∧ Cond.selects yX9_here.cls yX9_here yX9_here ∈ lw_good := ⟨mg (mT 876 (by decide +kernel)) rfl, mg (mS 18 (by decide +kernel)) rfl⟩
theorem vX9_58 : VOK RX9 58 RX9 yX9_here cX9_here 1 (some .int) 0 := vok (mg (mT 874 (by decide +kernel)) rfl) sX9_here mX9_here rfl
theorem vX9_62 : VOK RX9 62 RJ0 yJ0_length_8abf5 cJ0_length_8abf5 1 (some .int) 0 := vok (mg (mT 887 (by decide +kernel)) rfl) sJ0_length_8abf5 mJ0_length_8abf5 rfl
theorem vX9_67 : VOK RX9 67 RJ0 yJ0_charAt_5068e cJ0_charAt_5068e 2 (some .char) 1 := vok (mg (mT 888 (by decide +kernel)) rfl) sJ0_charAt_5068e mJ0_charAt_5068e rfl
theorem mX9_must : MOK yX9_must cX9_must 2 none 1 := ⟨⟨mg (mT 11 (by decide +kernel)) rfl, mg (mT 892 (by decide +kernel)) rfl⟩, by decide +kernel, by decide +kernel, by decide +kernel, by decide⟩
theorem sX9_must : Cond.instanceMethod yX9_must ∈ lw_good ∧ Cond.selects yX9_must.cls yX9_must yX9_must ∈ lw_good := ⟨mg (mT 891 (by decide +kernel)) rfl, mg (mS 21 (by decide +kernel)) rfl⟩
theorem vX9_71 : VOK RX9 71 RX9 yX9_must cX9_must 2 none 1 := vok (mg (mT 889 (by decide +kernel)) rfl) sX9_must mX9_must rfl
theorem mX9_factor : MOK yX9_factor cX9_factor 5 none 0 := ⟨⟨mg (mT 11 (by decide +kernel)) rfl, mg (mT 913 (by decide +kernel)) rfl⟩, by decide +kernel, by decide +kernel, by decide +kernel, by decide⟩
theorem sX9_factor : Cond.instanceMethod yX9_factor ∈ lw_good ∧ Cond.selects yX9_factor.cls yX9_factor yX9_factor ∈ lw_good := ⟨mg (mT 912 (by decide +kernel)) rfl, mg (mS 26 (by decide +kernel)) rfl⟩
theorem vX9_81 : VOK RX9 81 RX9 yX9_factor cX9_factor 5 none 0 := vok (mg (mT 910 (by decide +kernel)) rfl) sX9_factor mX9_factor rfl
theorem mX9_emits : MOK yX9_emits cX9_emits 2 none 1 := ⟨⟨mg (mT 11 (by decide +kernel)) rfl, mg (mT 917 (by decide +kernel)) rfl⟩, by decide +kernel, by decide +kernel, by decide +kernel, by decide⟩
theorem sX9_emits : Cond.instanceMethod yX9_emits ∈ lw_good ∧ Cond.selects yX9_emits.cls yX9_emits yX9_emits ∈ lw_good := ⟨mg (mT 916 (by decide +kernel)) rfl, mg (mS 27 (by decide +kernel)) rfl⟩
theorem vX9_84 : VOK RX9 84 RX9 yX9_emits cX9_emits 2 none 1 := vok (mg (mT 914 (by decide +kernel)) rfl) sX9_emits mX9_emits rfl
theorem mX9_some : MOK yX9_some cX9_some 1 none 0 := ⟨⟨mg (mT 11 (by decide +kernel)) rfl, mg (mT 905 (by decide +kernel)) rfl⟩, by decide +kernel, by decide +kernel, by decide +kernel, by decide⟩
theorem sX9_some : Cond.instanceMethod yX9_some ∈ lw_good ∧ Cond.selects yX9_some.cls yX9_some yX9_some ∈ lw_good := ⟨mg (mT 904 (by decide +kernel)) rfl, mg (mS 24 (by decide +kernel)) rfl⟩
theorem vX9_87 : VOK RX9 87 RX9 yX9_some cX9_some 1 none 0 := vok (mg (mT 902 (by decide +kernel)) rfl) sX9_some mX9_some rfl
theorem mX9_among : MOK yX9_among cX9_among 3 (some .int) 1 := ⟨⟨mg (mT 11 (by decide +kernel)) rfl, mg (mT 922 (by decide +kernel)) rfl⟩, by decide +kernel, by decide +kernel, by decide +kernel, by decide⟩
theorem sX9_among : Cond.instanceMethod yX9_among ∈ lw_good ∧ Cond.selects yX9_among.cls yX9_among yX9_among ∈ lw_good := ⟨mg (mT 921 (by decide +kernel)) rfl, mg (mS 28 (by decide +kernel)) rfl⟩
theorem vX9_92 : VOK RX9 92 RX9 yX9_among cX9_among 3 (some .int) 1 := vok (mg (mT 919 (by decide +kernel)) rfl) sX9_among mX9_among rfl
theorem mX9_figures : MOK yX9_figures cX9_figures 3 (some .int) 0 := ⟨⟨mg (mT 11 (by decide +kernel)) rfl, mg (mT 896 (by decide +kernel)) rfl⟩, by decide +kernel, by decide +kernel, by decide +kernel, by decide⟩
theorem sX9_figures : Cond.instanceMethod yX9_figures ∈ lw_good ∧ Cond.selects yX9_figures.cls yX9_figures yX9_figures ∈ lw_good := ⟨mg (mT 895 (by decide +kernel)) rfl, mg (mS 22 (by decide +kernel)) rfl⟩
theorem vX9_98 : VOK RX9 98 RX9 yX9_figures cX9_figures 3 (some .int) 0 := vok (mg (mT 893 (by decide +kernel)) rfl) sX9_figures mX9_figures rfl
theorem mX9_every : MOK yX9_every cX9_every 1 none 0 := ⟨⟨mg (mT 11 (by decide +kernel)) rfl, mg (mT 909 (by decide +kernel)) rfl⟩, by decide +kernel, by decide +kernel, by decide +kernel, by decide⟩
theorem sX9_every : Cond.instanceMethod yX9_every ∈ lw_good ∧ Cond.selects yX9_every.cls yX9_every yX9_every ∈ lw_good := ⟨mg (mT 908 (by decide +kernel)) rfl, mg (mS 25 (by decide +kernel)) rfl⟩
theorem vX9_101 : VOK RX9 101 RX9 yX9_every cX9_every 1 none 0 := vok (mg (mT 906 (by decide +kernel)) rfl) sX9_every mX9_every rfl
theorem mX9_spells : MOK yX9_spells cX9_spells 3 none 1 := ⟨⟨mg (mT 11 (by decide +kernel)) rfl, mg (mT 886 (by decide +kernel)) rfl⟩, by decide +kernel, by decide +kernel, by decide +kernel, by decide⟩
theorem sX9_spells : Cond.instanceMethod yX9_spells ∈ lw_good ∧ Cond.selects yX9_spells.cls yX9_spells yX9_spells ∈ lw_good := ⟨mg (mT 885 (by decide +kernel)) rfl, mg (mS 20 (by decide +kernel)) rfl⟩
theorem vX9_104 : VOK RX9 104 RX9 yX9_spells cX9_spells 3 none 1 := vok (mg (mT 883 (by decide +kernel)) rfl) sX9_spells mX9_spells rfl
theorem mX9_tellsHere : MOK yX9_tellsHere cX9_tellsHere 4 none 2 := ⟨⟨mg (mT 11 (by decide +kernel)) rfl, mg (mT 882 (by decide +kernel)) rfl⟩, by decide +kernel, by decide +kernel, by decide +kernel, by decide⟩
theorem sX9_tellsHere : Cond.instanceMethod yX9_tellsHere ∈ lw_good ∧ Cond.selects yX9_tellsHere.cls yX9_tellsHere yX9_tellsHere ∈ lw_good := ⟨mg (mT 881 (by decide +kernel)) rfl, mg (mS 19 (by decide +kernel)) rfl⟩
theorem vX9_110 : VOK RX9 110 RX9 yX9_tellsHere cX9_tellsHere 4 none 2 := vok (mg (mT 879 (by decide +kernel)) rfl) sX9_tellsHere mX9_tellsHere rfl
theorem mX9_much : MOK yX9_much cX9_much 4 none 2 := ⟨⟨mg (mT 11 (by decide +kernel)) rfl, mg (mT 901 (by decide +kernel)) rfl⟩, by decide +kernel, by decide +kernel, by decide +kernel, by decide⟩
theorem sX9_much : Cond.instanceMethod yX9_much ∈ lw_good ∧ Cond.selects yX9_much.cls yX9_much yX9_much ∈ lw_good := ⟨mg (mT 900 (by decide +kernel)) rfl, mg (mS 23 (by decide +kernel)) rfl⟩
theorem vX9_116 : VOK RX9 116 RX9 yX9_much cX9_much 4 none 2 := vok (mg (mT 898 (by decide +kernel)) rfl) sX9_much mX9_much rfl
theorem mX9_clauseHere : MOK yX9_clauseHere cX9_clauseHere 1 none 0 := ⟨⟨mg (mT 11 (by decide +kernel)) rfl, mg (mT 873 (by decide +kernel)) rfl⟩, by decide +kernel, by decide +kernel, by decide +kernel, by decide⟩
theorem sX9_clauseHere : Cond.instanceMethod yX9_clauseHere ∈ lw_good ∧ Cond.selects yX9_clauseHere.cls yX9_clauseHere yX9_clauseHere ∈ lw_good := ⟨mg (mT 872 (by decide +kernel)) rfl, mg (mS 17 (by decide +kernel)) rfl⟩
theorem vX9_121 : VOK RX9 121 RX9 yX9_clauseHere cX9_clauseHere 1 none 0 := vok (mg (mT 870 (by decide +kernel)) rfl) sX9_clauseHere mX9_clauseHere rfl
theorem mX9_tellsOf : MOK yX9_tellsOf cX9_tellsOf 3 (some .int) 2 := ⟨⟨mg (mT 11 (by decide +kernel)) rfl, mg (mT 960 (by decide +kernel)) rfl⟩, by decide +kernel, by decide +kernel, by decide +kernel, by decide⟩
theorem sX9_tellsOf : Cond.instanceMethod yX9_tellsOf ∈ lw_good ∧ Cond.selects yX9_tellsOf.cls yX9_tellsOf yX9_tellsOf ∈ lw_good := ⟨mg (mT 959 (by decide +kernel)) rfl, mg (mS 34 (by decide +kernel)) rfl⟩
theorem vX9_124 : VOK RX9 124 RX9 yX9_tellsOf cX9_tellsOf 3 (some .int) 2 := vok (mg (mT 957 (by decide +kernel)) rfl) sX9_tellsOf mX9_tellsOf rfl
theorem mX9_driftOf : MOK yX9_driftOf cX9_driftOf 14 (some .int) 4 := ⟨⟨mg (mT 11 (by decide +kernel)) rfl, mg (mT 956 (by decide +kernel)) rfl⟩, by decide +kernel, by decide +kernel, by decide +kernel, by decide⟩
theorem sX9_driftOf : Cond.instanceMethod yX9_driftOf ∈ lw_good ∧ Cond.selects yX9_driftOf.cls yX9_driftOf yX9_driftOf ∈ lw_good := ⟨mg (mT 955 (by decide +kernel)) rfl, mg (mS 33 (by decide +kernel)) rfl⟩
theorem vX9_128 : VOK RX9 128 RX9 yX9_driftOf cX9_driftOf 14 (some .int) 4 := vok (mg (mT 953 (by decide +kernel)) rfl) sX9_driftOf mX9_driftOf rfl
theorem mX9_straysBy : MOK yX9_straysBy cX9_straysBy 7 (some .int) 4 := ⟨⟨mg (mT 11 (by decide +kernel)) rfl, mg (mT 952 (by decide +kernel)) rfl⟩, by decide +kernel, by decide +kernel, by decide +kernel, by decide⟩
theorem sX9_straysBy : Cond.instanceMethod yX9_straysBy ∈ lw_good ∧ Cond.selects yX9_straysBy.cls yX9_straysBy yX9_straysBy ∈ lw_good := ⟨mg (mT 951 (by decide +kernel)) rfl, mg (mS 32 (by decide +kernel)) rfl⟩
theorem vX9_138 : VOK RX9 138 RX9 yX9_straysBy cX9_straysBy 7 (some .int) 4 := vok (mg (mT 949 (by decide +kernel)) rfl) sX9_straysBy mX9_straysBy rfl
theorem mX9_countsLine : MOK yX9_countsLine cX9_countsLine 4 none 0 := ⟨⟨mg (mT 11 (by decide +kernel)) rfl, mg (mT 967 (by decide +kernel)) rfl⟩, by decide +kernel, by decide +kernel, by decide +kernel, by decide⟩
theorem sX9_countsLine : Cond.instanceMethod yX9_countsLine ∈ lw_good ∧ Cond.selects yX9_countsLine.cls yX9_countsLine yX9_countsLine ∈ lw_good := ⟨mg (mT 966 (by decide +kernel)) rfl, mg (mS 35 (by decide +kernel)) rfl⟩
theorem vX9_144 : VOK RX9 144 RX9 yX9_countsLine cX9_countsLine 4 none 0 := vok (mg (mT 964 (by decide +kernel)) rfl) sX9_countsLine mX9_countsLine rfl
theorem mX9_span : MOK yX9_span cX9_span 1 (some .int) 0 := ⟨⟨mg (mT 11 (by decide +kernel)) rfl, mg (mT 971 (by decide +kernel)) rfl⟩, by decide +kernel, by decide +kernel, by decide +kernel, by decide⟩
theorem sX9_span : Cond.instanceMethod yX9_span ∈ lw_good ∧ Cond.selects yX9_span.cls yX9_span yX9_span ∈ lw_good := ⟨mg (mT 970 (by decide +kernel)) rfl, mg (mS 36 (by decide +kernel)) rfl⟩
theorem vX9_147 : VOK RX9 147 RX9 yX9_span cX9_span 1 (some .int) 0 := vok (mg (mT 968 (by decide +kernel)) rfl) sX9_span mX9_span rfl
theorem mX9_scoreFrom : MOK yX9_scoreFrom cX9_scoreFrom 4 (some .int) 2 := ⟨⟨mg (mT 11 (by decide +kernel)) rfl, mg (mT 948 (by decide +kernel)) rfl⟩, by decide +kernel, by decide +kernel, by decide +kernel, by decide⟩
theorem sX9_scoreFrom : Cond.instanceMethod yX9_scoreFrom ∈ lw_good ∧ Cond.selects yX9_scoreFrom.cls yX9_scoreFrom yX9_scoreFrom ∈ lw_good := ⟨mg (mT 947 (by decide +kernel)) rfl, mg (mS 31 (by decide +kernel)) rfl⟩
theorem vX9_150 : VOK RX9 150 RX9 yX9_scoreFrom cX9_scoreFrom 4 (some .int) 2 := vok (mg (mT 945 (by decide +kernel)) rfl) sX9_scoreFrom mX9_scoreFrom rfl
theorem mX9_scoreOf : MOK yX9_scoreOf cX9_scoreOf 2 (some .int) 1 := ⟨⟨mg (mT 11 (by decide +kernel)) rfl, mg (mT 944 (by decide +kernel)) rfl⟩, by decide +kernel, by decide +kernel, by decide +kernel, by decide⟩
theorem sX9_scoreOf : Cond.instanceMethod yX9_scoreOf ∈ lw_good ∧ Cond.selects yX9_scoreOf.cls yX9_scoreOf yX9_scoreOf ∈ lw_good := ⟨mg (mT 943 (by decide +kernel)) rfl, mg (mS 30 (by decide +kernel)) rfl⟩
theorem vX9_154 : VOK RX9 154 RX9 yX9_scoreOf cX9_scoreOf 2 (some .int) 1 := vok (mg (mT 941 (by decide +kernel)) rfl) sX9_scoreOf mX9_scoreOf rfl
theorem mX9_isMan : MOK yX9_isMan cX9_isMan 2 (some .boolean) 1 := ⟨⟨mg (mT 11 (by decide +kernel)) rfl, mg (mT 939 (by decide +kernel)) rfl⟩, by decide +kernel, by decide +kernel, by decide +kernel, by decide⟩
theorem sX9_isMan : Cond.instanceMethod yX9_isMan ∈ lw_good ∧ Cond.selects yX9_isMan.cls yX9_isMan yX9_isMan ∈ lw_good := ⟨mg (mT 938 (by decide +kernel)) rfl, mg (mS 29 (by decide +kernel)) rfl⟩
theorem vX9_162 : VOK RX9 162 RX9 yX9_isMan cX9_isMan 2 (some .boolean) 1 := vok (mg (mT 936 (by decide +kernel)) rfl) sX9_isMan mX9_isMan rfl
theorem mX9_becomes : MOK yX9_becomes cX9_becomes 4 (some .int) 2 := ⟨⟨mg (mT 11 (by decide +kernel)) rfl, mg (mT 979 (by decide +kernel)) rfl⟩, by decide +kernel, by decide +kernel, by decide +kernel, by decide⟩
theorem sX9_becomes : Cond.instanceMethod yX9_becomes ∈ lw_good ∧ Cond.selects yX9_becomes.cls yX9_becomes yX9_becomes ∈ lw_good := ⟨mg (mT 978 (by decide +kernel)) rfl, mg (mS 37 (by decide +kernel)) rfl⟩
theorem vX9_166 : VOK RX9 166 RX9 yX9_becomes cX9_becomes 4 (some .int) 2 := vok (mg (mT 976 (by decide +kernel)) rfl) sX9_becomes mX9_becomes rfl
theorem mX9_bitsOf : MOK yX9_bitsOf cX9_bitsOf 4 (some .int) 1 := ⟨⟨mg (mT 11 (by decide +kernel)) rfl, mg (mT 1006 (by decide +kernel)) rfl⟩, by decide +kernel, by decide +kernel, by decide +kernel, by decide⟩
theorem sX9_bitsOf : Cond.instanceMethod yX9_bitsOf ∈ lw_good ∧ Cond.selects yX9_bitsOf.cls yX9_bitsOf yX9_bitsOf ∈ lw_good := ⟨mg (mT 1005 (by decide +kernel)) rfl, mg (mS 38 (by decide +kernel)) rfl⟩
theorem vX9_172 : VOK RX9 172 RX9 yX9_bitsOf cX9_bitsOf 4 (some .int) 1 := vok (mg (mT 1003 (by decide +kernel)) rfl) sX9_bitsOf mX9_bitsOf rfl
theorem mX9_bestOne : MOK yX9_bestOne cX9_bestOne 5 (some .int) 0 := ⟨⟨mg (mT 11 (by decide +kernel)) rfl, mg (mT 1010 (by decide +kernel)) rfl⟩, by decide +kernel, by decide +kernel, by decide +kernel, by decide⟩
theorem sX9_bestOne : Cond.instanceMethod yX9_bestOne ∈ lw_good ∧ Cond.selects yX9_bestOne.cls yX9_bestOne yX9_bestOne ∈ lw_good := ⟨mg (mT 1009 (by decide +kernel)) rfl, mg (mS 39 (by decide +kernel)) rfl⟩
theorem vX9_175 : VOK RX9 175 RX9 yX9_bestOne cX9_bestOne 5 (some .int) 0 := vok (mg (mT 1007 (by decide +kernel)) rfl) sX9_bestOne mX9_bestOne rfl
theorem mX9_isCase : MOK yX9_isCase cX9_isCase 2 (some .boolean) 1 := ⟨⟨mg (mT 11 (by decide +kernel)) rfl, mg (mT 1015 (by decide +kernel)) rfl⟩, by decide +kernel, by decide +kernel, by decide +kernel, by decide⟩
theorem sX9_isCase : Cond.instanceMethod yX9_isCase ∈ lw_good ∧ Cond.selects yX9_isCase.cls yX9_isCase yX9_isCase ∈ lw_good := ⟨mg (mT 1014 (by decide +kernel)) rfl, mg (mS 40 (by decide +kernel)) rfl⟩
theorem vX9_178 : VOK RX9 178 RX9 yX9_isCase cX9_isCase 2 (some .boolean) 1 := vok (mg (mT 1012 (by decide +kernel)) rfl) sX9_isCase mX9_isCase rfl
theorem mX9_decided : MOK yX9_decided cX9_decided 4 (some .int) 1 := ⟨⟨mg (mT 11 (by decide +kernel)) rfl, mg (mT 1019 (by decide +kernel)) rfl⟩, by decide +kernel, by decide +kernel, by decide +kernel, by decide⟩
theorem sX9_decided : Cond.instanceMethod yX9_decided ∈ lw_good ∧ Cond.selects yX9_decided.cls yX9_decided yX9_decided ∈ lw_good := ⟨mg (mT 1018 (by decide +kernel)) rfl, mg (mS 41 (by decide +kernel)) rfl⟩
theorem vX9_181 : VOK RX9 181 RX9 yX9_decided cX9_decided 4 (some .int) 1 := vok (mg (mT 1016 (by decide +kernel)) rfl) sX9_decided mX9_decided rfl
theorem mX9_goes : MOK yX9_goes cX9_goes 3 none 0 := ⟨⟨mg (mT 11 (by decide +kernel)) rfl, mg (mT 1031 (by decide +kernel)) rfl⟩, by decide +kernel, by decide +kernel, by decide +kernel, by decide⟩
theorem sX9_goes : Cond.instanceMethod yX9_goes ∈ lw_good ∧ Cond.selects yX9_goes.cls yX9_goes yX9_goes ∈ lw_good := ⟨mg (mT 1030 (by decide +kernel)) rfl, mg (mS 43 (by decide +kernel)) rfl⟩
theorem vX9_184 : VOK RX9 184 RX9 yX9_goes cX9_goes 3 none 0 := vok (mg (mT 1028 (by decide +kernel)) rfl) sX9_goes mX9_goes rfl
theorem mX9_goesOn : MOK yX9_goesOn cX9_goesOn 3 none 1 := ⟨⟨mg (mT 11 (by decide +kernel)) rfl, mg (mT 1027 (by decide +kernel)) rfl⟩, by decide +kernel, by decide +kernel, by decide +kernel, by decide⟩
theorem sX9_goesOn : Cond.instanceMethod yX9_goesOn ∈ lw_good ∧ Cond.selects yX9_goesOn.cls yX9_goesOn yX9_goesOn ∈ lw_good := ⟨mg (mT 1026 (by decide +kernel)) rfl, mg (mS 42 (by decide +kernel)) rfl⟩
theorem vX9_187 : VOK RX9 187 RX9 yX9_goesOn cX9_goesOn 3 none 1 := vok (mg (mT 1024 (by decide +kernel)) rfl) sX9_goesOn mX9_goesOn rfl
theorem mX9_keeps : MOK yX9_keeps cX9_keeps 2 none 0 := ⟨⟨mg (mT 11 (by decide +kernel)) rfl, mg (mT 1047 (by decide +kernel)) rfl⟩, by decide +kernel, by decide +kernel, by decide +kernel, by decide⟩
theorem sX9_keeps : Cond.instanceMethod yX9_keeps ∈ lw_good ∧ Cond.selects yX9_keeps.cls yX9_keeps yX9_keeps ∈ lw_good := ⟨mg (mT 1046 (by decide +kernel)) rfl, mg (mS 44 (by decide +kernel)) rfl⟩
theorem vX9_190 : VOK RX9 190 RX9 yX9_keeps cX9_keeps 2 none 0 := vok (mg (mT 1044 (by decide +kernel)) rfl) sX9_keeps mX9_keeps rfl
theorem mX9_goesBack : MOK yX9_goesBack cX9_goesBack 2 none 0 := ⟨⟨mg (mT 11 (by decide +kernel)) rfl, mg (mT 1051 (by decide +kernel)) rfl⟩, by decide +kernel, by decide +kernel, by decide +kernel, by decide⟩
theorem sX9_goesBack : Cond.instanceMethod yX9_goesBack ∈ lw_good ∧ Cond.selects yX9_goesBack.cls yX9_goesBack yX9_goesBack ∈ lw_good := ⟨mg (mT 1050 (by decide +kernel)) rfl, mg (mS 45 (by decide +kernel)) rfl⟩
theorem vX9_193 : VOK RX9 193 RX9 yX9_goesBack cX9_goesBack 2 none 0 := vok (mg (mT 1048 (by decide +kernel)) rfl) sX9_goesBack mX9_goesBack rfl
theorem mX9_scoreLaying : MOK yX9_scoreLaying cX9_scoreLaying 6 (some .int) 3 := ⟨⟨mg (mT 11 (by decide +kernel)) rfl, mg (mT 1067 (by decide +kernel)) rfl⟩, by decide +kernel, by decide +kernel, by decide +kernel, by decide⟩
theorem sX9_scoreLaying : Cond.instanceMethod yX9_scoreLaying ∈ lw_good ∧ Cond.selects yX9_scoreLaying.cls yX9_scoreLaying yX9_scoreLaying ∈ lw_good := ⟨mg (mT 1066 (by decide +kernel)) rfl, mg (mS 46 (by decide +kernel)) rfl⟩
theorem vX9_196 : VOK RX9 196 RX9 yX9_scoreLaying cX9_scoreLaying 6 (some .int) 3 := vok (mg (mT 1064 (by decide +kernel)) rfl) sX9_scoreLaying mX9_scoreLaying rfl
theorem mX9_scoreClearing : MOK yX9_scoreClearing cX9_scoreClearing 5 (some .int) 2 := ⟨⟨mg (mT 11 (by decide +kernel)) rfl, mg (mT 1078 (by decide +kernel)) rfl⟩, by decide +kernel, by decide +kernel, by decide +kernel, by decide⟩
theorem sX9_scoreClearing : Cond.instanceMethod yX9_scoreClearing ∈ lw_good ∧ Cond.selects yX9_scoreClearing.cls yX9_scoreClearing yX9_scoreClearing ∈ lw_good := ⟨mg (mT 1077 (by decide +kernel)) rfl, mg (mS 47 (by decide +kernel)) rfl⟩
theorem vX9_203 : VOK RX9 203 RX9 yX9_scoreClearing cX9_scoreClearing 5 (some .int) 2 := vok (mg (mT 1075 (by decide +kernel)) rfl) sX9_scoreClearing mX9_scoreClearing rfl
theorem mX9_isAsSeen : MOK yX9_isAsSeen cX9_isAsSeen 5 (some .boolean) 2 := ⟨⟨mg (mT 11 (by decide +kernel)) rfl, mg (mT 1094 (by decide +kernel)) rfl⟩, by decide +kernel, by decide +kernel, by decide +kernel, by decide⟩
theorem sX9_isAsSeen : Cond.instanceMethod yX9_isAsSeen ∈ lw_good ∧ Cond.selects yX9_isAsSeen.cls yX9_isAsSeen yX9_isAsSeen ∈ lw_good := ⟨mg (mT 1093 (by decide +kernel)) rfl, mg (mS 48 (by decide +kernel)) rfl⟩
theorem vX9_206 : VOK RX9 206 RX9 yX9_isAsSeen cX9_isAsSeen 5 (some .boolean) 2 := vok (mg (mT 1091 (by decide +kernel)) rfl) sX9_isAsSeen mX9_isAsSeen rfl
theorem mX9_goesBy : MOK yX9_goesBy cX9_goesBy 3 none 2 := ⟨⟨mg (mT 11 (by decide +kernel)) rfl, mg (mT 1123 (by decide +kernel)) rfl⟩, by decide +kernel, by decide +kernel, by decide +kernel, by decide⟩
theorem sX9_goesBy : Cond.instanceMethod yX9_goesBy ∈ lw_good ∧ Cond.selects yX9_goesBy.cls yX9_goesBy yX9_goesBy ∈ lw_good := ⟨mg (mT 1122 (by decide +kernel)) rfl, mg (mS 49 (by decide +kernel)) rfl⟩
theorem vX9_218 : VOK RX9 218 RX9 yX9_goesBy cX9_goesBy 3 none 2 := vok (mg (mT 1120 (by decide +kernel)) rfl) sX9_goesBy mX9_goesBy rfl
theorem mX9_ranBody : MOK yX9_ranBody cX9_ranBody 2 none 1 := ⟨⟨mg (mT 11 (by decide +kernel)) rfl, mg (mT 1146 (by decide +kernel)) rfl⟩, by decide +kernel, by decide +kernel, by decide +kernel, by decide⟩
theorem sX9_ranBody : Cond.instanceMethod yX9_ranBody ∈ lw_good ∧ Cond.selects yX9_ranBody.cls yX9_ranBody yX9_ranBody ∈ lw_good := ⟨mg (mT 1145 (by decide +kernel)) rfl, mg (mS 51 (by decide +kernel)) rfl⟩
theorem vX9_225 : VOK RX9 225 RX9 yX9_ranBody cX9_ranBody 2 none 1 := vok (mg (mT 1143 (by decide +kernel)) rfl) sX9_ranBody mX9_ranBody rfl
theorem mX9_plainPloughs : MOK yX9_plainPloughs cX9_plainPloughs 2 (some .int) 1 := ⟨⟨mg (mT 11 (by decide +kernel)) rfl, mg (mT 1150 (by decide +kernel)) rfl⟩, by decide +kernel, by decide +kernel, by decide +kernel, by decide⟩
theorem sX9_plainPloughs : Cond.instanceMethod yX9_plainPloughs ∈ lw_good ∧ Cond.selects yX9_plainPloughs.cls yX9_plainPloughs yX9_plainPloughs ∈ lw_good := ⟨mg (mT 1149 (by decide +kernel)) rfl, mg (mS 52 (by decide +kernel)) rfl⟩
theorem vX9_237 : VOK RX9 237 RX9 yX9_plainPloughs cX9_plainPloughs 2 (some .int) 1 := vok (mg (mT 1147 (by decide +kernel)) rfl) sX9_plainPloughs mX9_plainPloughs rfl
theorem mX9_ploughsActs : MOK yX9_ploughsActs cX9_ploughsActs 2 (some .int) 1 := ⟨⟨mg (mT 11 (by decide +kernel)) rfl, mg (mT 1139 (by decide +kernel)) rfl⟩, by decide +kernel, by decide +kernel, by decide +kernel, by decide⟩
theorem sX9_ploughsActs : Cond.instanceMethod yX9_ploughsActs ∈ lw_good ∧ Cond.selects yX9_ploughsActs.cls yX9_ploughsActs yX9_ploughsActs ∈ lw_good := ⟨mg (mT 1138 (by decide +kernel)) rfl, mg (mS 50 (by decide +kernel)) rfl⟩
theorem vX9_240 : VOK RX9 240 RX9 yX9_ploughsActs cX9_ploughsActs 2 (some .int) 1 := vok (mg (mT 1136 (by decide +kernel)) rfl) sX9_ploughsActs mX9_ploughsActs rfl
theorem mX9_plainLooks : MOK yX9_plainLooks cX9_plainLooks 2 (some .int) 1 := ⟨⟨mg (mT 11 (by decide +kernel)) rfl, mg (mT 1158 (by decide +kernel)) rfl⟩, by decide +kernel, by decide +kernel, by decide +kernel, by decide⟩
theorem sX9_plainLooks : Cond.instanceMethod yX9_plainLooks ∈ lw_good ∧ Cond.selects yX9_plainLooks.cls yX9_plainLooks yX9_plainLooks ∈ lw_good := ⟨mg (mT 1157 (by decide +kernel)) rfl, mg (mS 54 (by decide +kernel)) rfl⟩
theorem vX9_246 : VOK RX9 246 RX9 yX9_plainLooks cX9_plainLooks 2 (some .int) 1 := vok (mg (mT 1155 (by decide +kernel)) rfl) sX9_plainLooks mX9_plainLooks rfl
theorem mX9_looksActs : MOK yX9_looksActs cX9_looksActs 2 (some .int) 1 := ⟨⟨mg (mT 11 (by decide +kernel)) rfl, mg (mT 1154 (by decide +kernel)) rfl⟩, by decide +kernel, by decide +kernel, by decide +kernel, by decide⟩
theorem sX9_looksActs : Cond.instanceMethod yX9_looksActs ∈ lw_good ∧ Cond.selects yX9_looksActs.cls yX9_looksActs yX9_looksActs ∈ lw_good := ⟨mg (mT 1153 (by decide +kernel)) rfl, mg (mS 53 (by decide +kernel)) rfl⟩
theorem vX9_249 : VOK RX9 249 RX9 yX9_looksActs cX9_looksActs 2 (some .int) 1 := vok (mg (mT 1151 (by decide +kernel)) rfl) sX9_looksActs mX9_looksActs rfl
theorem mX9_plainTelling : MOK yX9_plainTelling cX9_plainTelling 2 (some .int) 1 := ⟨⟨mg (mT 11 (by decide +kernel)) rfl, mg (mT 1166 (by decide +kernel)) rfl⟩, by decide +kernel, by decide +kernel, by decide +kernel, by decide⟩
theorem sX9_plainTelling : Cond.instanceMethod yX9_plainTelling ∈ lw_good ∧ Cond.selects yX9_plainTelling.cls yX9_plainTelling yX9_plainTelling ∈ lw_good := ⟨mg (mT 1165 (by decide +kernel)) rfl, mg (mS 56 (by decide +kernel)) rfl⟩
theorem vX9_252 : VOK RX9 252 RX9 yX9_plainTelling cX9_plainTelling 2 (some .int) 1 := vok (mg (mT 1163 (by decide +kernel)) rfl) sX9_plainTelling mX9_plainTelling rfl
theorem mX9_swearsActs : MOK yX9_swearsActs cX9_swearsActs 3 (some .int) 1 := ⟨⟨mg (mT 11 (by decide +kernel)) rfl, mg (mT 1162 (by decide +kernel)) rfl⟩, by decide +kernel, by decide +kernel, by decide +kernel, by decide⟩
theorem sX9_swearsActs : Cond.instanceMethod yX9_swearsActs ∈ lw_good ∧ Cond.selects yX9_swearsActs.cls yX9_swearsActs yX9_swearsActs ∈ lw_good := ⟨mg (mT 1161 (by decide +kernel)) rfl, mg (mS 55 (by decide +kernel)) rfl⟩
theorem vX9_255 : VOK RX9 255 RX9 yX9_swearsActs cX9_swearsActs 3 (some .int) 1 := vok (mg (mT 1159 (by decide +kernel)) rfl) sX9_swearsActs mX9_swearsActs rfl
theorem pX9_48 : POK RX9 48 9 6 .int := ⟨RX9, TX9, 22, tyX9, rfl, by decide, gX9, tyX9_ok, nmX9, mg (mT 797 (by decide +kernel)) rfl, rfl, by decide +kernel⟩
theorem pX9_51 : POK RX9 51 9 7 .int := ⟨RX9, TX9, 22, tyX9, rfl, by decide, gX9, tyX9_ok, nmX9, mg (mT 798 (by decide +kernel)) rfl, rfl, by decide +kernel⟩
theorem pX9_54 : POK RX9 54 9 8 .boolean := ⟨RX9, TX9, 22, tyX9, rfl, by decide, gX9, tyX9_ok, nmX9, mg (mT 799 (by decide +kernel)) rfl, rfl, by decide +kernel⟩
theorem pX9_75 : POK RX9 75 9 5 .int := ⟨RX9, TX9, 22, tyX9, rfl, by decide, gX9, tyX9_ok, nmX9, mg (mT 796 (by decide +kernel)) rfl, rfl, by decide +kernel⟩
theorem pX9_78 : POK RX9 78 9 9 .int := ⟨RX9, TX9, 22, tyX9, rfl, by decide, gX9, tyX9_ok, nmX9, mg (mT 800 (by decide +kernel)) rfl, rfl, by decide +kernel⟩
theorem pX9_132 : POK RX9 132 9 13 .int := ⟨RX9, TX9, 22, tyX9, rfl, by decide, gX9, tyX9_ok, nmX9, mg (mT 804 (by decide +kernel)) rfl, rfl, by decide +kernel⟩
theorem pX9_135 : POK RX9 135 9 14 .int := ⟨RX9, TX9, 22, tyX9, rfl, by decide, gX9, tyX9_ok, nmX9, mg (mT 805 (by decide +kernel)) rfl, rfl, by decide +kernel⟩
theorem pX9_222 : POK RX9 222 9 18 .int := ⟨RX9, TX9, 22, tyX9, rfl, by decide, gX9, tyX9_ok, nmX9, mg (mT 809 (by decide +kernel)) rfl, rfl, by decide +kernel⟩
theorem pX9_228 : POK RX9 228 9 20 .int := ⟨RX9, TX9, 22, tyX9, rfl, by decide, gX9, tyX9_ok, nmX9, mg (mT 811 (by decide +kernel)) rfl, rfl, by decide +kernel⟩
theorem pX9_231 : POK RX9 231 9 19 .int := ⟨RX9, TX9, 22, tyX9, rfl, by decide, gX9, tyX9_ok, nmX9, mg (mT 810 (by decide +kernel)) rfl, rfl, by decide +kernel⟩
theorem pX9_243 : POK RX9 243 9 21 .int := ⟨RX9, TX9, 22, tyX9, rfl, by decide, gX9, tyX9_ok, nmX9, mg (mT 812 (by decide +kernel)) rfl, rfl, by decide +kernel⟩
theorem pX9_258 : POK RX9 258 9 4 .boolean := ⟨RX9, TX9, 22, tyX9, rfl, by decide, gX9, tyX9_ok, nmX9, mg (mT 795 (by decide +kernel)) rfl, rfl, by decide +kernel⟩
end
section
/-! ===== more rows: indexes as nI of a Nat, calls by functional contracts, known branches, shapes ===== -/
theorem nx_add {x y : Int32} {a b : Nat} (hx : x = nI a) (hy : y = nI b) : x + y = nI (a + b) := by rw [hx, hy, nI_add]
theorem nx_mul {x y : Int32} {a b : Nat} (hx : x = nI a) (hy : y = nI b) : x * y = nI (a * b) := by rw [hx, hy, pk_mul]
def bI (p : Prop) [Decidable p] : Int32 := if p then 1 else 0
theorem bI_t {p : Prop} [Decidable p] (h : p) : bI p = 1 := if_pos h
theorem bI_f {p : Prop} [Decidable p] (h : ¬ p) : bI p = 0 := if_neg h
theorem bI_0 {p : Prop} [Decidable p] : bI p = 0 ↔ ¬ p := by unfold bI; split <;> simp_all
theorem bI_n0 {p : Prop} [Decidable p] : ¬ bI p = 0 ↔ p := by unfold bI; split <;> simp_all
theorem bI_cases (p : Prop) [Decidable p] : bI p = 0 ∨ bI p = 1 := by unfold bI; split <;> simp
theorem nb_ok {v : Int32} (h : v = 0 ∨ v = 1) : narrow .boolean (.int v) = .int v := by rcases h with rfl | rfl <;> rfl
theorem fb_ok {v : Int32} (h : v = 0 ∨ v = 1) : fits .boolean (.int v) = true := by rcases h with rfl | rfl <;> rfl
theorem vb_ok {v : Int32} (h : v = 0 ∨ v = 1) : vp_nar .boolean v = v := by rcases h with rfl | rfl <;> rfl
section Rows5
variable {E : Ev} {Γ : Cx} {cc : ByteArray} {nL : Nat} {own : String} {d pc : Nat} {L S : List Value} {μ : Mem} {ret : Option FieldType} {Q : Option Value → Mem → Prop}
theorem cw_ial {q n jn : Nat} {x : List (Option Nat)} {j : Int32} (hd : decode cc pc = .ok (.iaload, 1)) (hs : shape[q]? = some (100, n, x)) (hj : j = nI jn) (hlt : jn < n) (hn : n < 2 ^ 31) (k : CW E Γ cc nL own d (pc + 1) L (.int (μ q jn) :: S) μ) : CW E Γ cc nL own d pc L (.int j :: .ref q :: S) μ := by
  subst hj
  exact cw_iald hd hs (vp_in_nI hlt (by omega)) (by rw [nI_clamp (by omega)]; exact k)
theorem cw_bal {q n jn : Nat} {x : List (Option Nat)} {j : Int32} (hd : decode cc pc = .ok (.baload, 1)) (hs : shape[q]? = some (101, n, x)) (hj : j = nI jn) (hlt : jn < n) (hn : n < 2 ^ 31) (k : CW E Γ cc nL own d (pc + 1) L (.int (μ q jn) :: S) μ) : CW E Γ cc nL own d pc L (.int j :: .ref q :: S) μ := by
  subst hj
  exact cw_bald hd hs (vp_in_nI hlt (by omega)) (by rw [nI_clamp (by omega)]; exact k)
theorem cw_ias {q n jn : Nat} {x : List (Option Nat)} {j v : Int32} (hd : decode cc pc = .ok (.iastore, 1)) (hs : shape[q]? = some (100, n, x)) (hj : j = nI jn) (hlt : jn < n) (hn : n < 2 ^ 31) (k : CW E Γ cc nL own d (pc + 1) L S (st μ q jn v)) : CW E Γ cc nL own d pc L (.int v :: .int j :: .ref q :: S) μ := by
  subst hj
  exact cw_iast hd hs (vp_in_nI hlt (by omega)) (by rw [nI_clamp (by omega)]; exact k)
theorem cw_bas {q n jn : Nat} {x : List (Option Nat)} {j v : Int32} (hd : decode cc pc = .ok (.bastore, 1)) (hs : shape[q]? = some (101, n, x)) (hj : j = nI jn) (hlt : jn < n) (hn : n < 2 ^ 31) (hv : v = 0 ∨ v = 1) (k : CW E Γ cc nL own d (pc + 1) L S (st μ q jn v)) : CW E Γ cc nL own d pc L (.int v :: .int j :: .ref q :: S) μ := by
  subst hj
  exact cw_bast hd hs (vp_in_nI hlt (by omega)) (by rw [nI_clamp (by omega), vb_ok hv]; exact k)
theorem cw_putZ {q idx ci i n : Nat} {fs : List (Option Nat)} {v : Int32} (hd : decode cc pc = .ok (.putfield idx, 3)) (hF : POK own idx ci i .boolean) (hs : shape[q]? = some (ci, n, fs)) (hc : ci < 100) (ho : fs[i]? = some none) (hv : v = 0 ∨ v = 1) (k : CW E Γ cc nL own d (pc + 3) L S (st μ q i v)) : CW E Γ cc nL own d pc L (.int v :: .ref q :: S) μ := cw_putf hd hF hs hc ho (nb_ok hv) (fb_ok hv) k
theorem cw_iincL {i : Nat} {n : Int} {x c : Int32} {L' : List Value} (hd : decode cc pc = .ok (.iinc i n, 3)) (hx : L[i]? = some (.int x)) (hv : Int32.ofInt n = c) (hn : i < nL) (hno : noL L i = true) (hL : L.set i (.int (x + c)) = L') (k : CW E Γ cc nL own d (pc + 3) L' S μ) : CW E Γ cc nL own d pc L S μ := cw_iinc hd hx (by rw [hv]) hn hno hL k
theorem CW.joinP {y : MethodName} {cc' : ByteArray} {nL' dd : Nat} {ret' : Option FieldType} {vs : List Value} {P : Option Value → Mem → Prop} (h : AM E y cc' nL' ret' dd vs μ P) (k : ∀ r μ', P r μ' → CW E Γ cc nL own d (pc + 3) L (r.toList ++ S) μ') : AM E y cc' nL' ret' dd vs μ (fun r μ' => CW E Γ cc nL own d (pc + 3) L (r.toList ++ S) μ') := h.mono k

theorem cw_invI {y : MethodName} {cc' : ByteArray} {nL' n ci idx q dd m' : Nat} {ret' : Option FieldType} {fs : List (Option Nat)} {As st0 : List Value} {rq : vw_C} {x : Int32} {μ0 : Mem} (hd : decode cc pc = .ok (.invokevirtual idx, 3)) (h : AM E y cc' nL' ret' dd (.ref q :: As) μ (fun r μ' => r = some (.int x) ∧ μ' = μ0)) (hq : vwCl[ci]? = some rq) (hV : VOK own idx rq.1 y cc' nL' ret' n) (hs : shape[q]? = some (ci, m', fs)) (hc : ci < 100) (hn : As.length = n) (hst : st0 = As.reverse ++ .ref q :: S) (hcat : Nat.ble (S.map Value.category).sum 8 = true) (hdd : dd < d) (k : CW E Γ cc nL own d (pc + 3) L (.int x :: S) μ0) : CW E Γ cc nL own d pc L st0 μ :=
  cw_inv (rest := []) hd hq hV hs hc hn hst (Nat.le_of_ble_eq_true hcat) hdd (CW.joinP h (by rintro _ _ ⟨rfl, rfl⟩; exact k))
theorem cw_invL {y : MethodName} {cc' : ByteArray} {nL' n ci idx q dd m' : Nat} {ret' : Option FieldType} {fs : List (Option Nat)} {As st0 : List Value} {rq : vw_C} {x : Int64} {μ0 : Mem} (hd : decode cc pc = .ok (.invokevirtual idx, 3)) (h : AM E y cc' nL' ret' dd (.ref q :: As) μ (fun r μ' => r = some (.long x) ∧ μ' = μ0)) (hq : vwCl[ci]? = some rq) (hV : VOK own idx rq.1 y cc' nL' ret' n) (hs : shape[q]? = some (ci, m', fs)) (hc : ci < 100) (hn : As.length = n) (hst : st0 = As.reverse ++ .ref q :: S) (hcat : Nat.ble (S.map Value.category).sum 8 = true) (hdd : dd < d) (k : CW E Γ cc nL own d (pc + 3) L (.long x :: S) μ0) : CW E Γ cc nL own d pc L st0 μ :=
  cw_inv (rest := []) hd hq hV hs hc hn hst (Nat.le_of_ble_eq_true hcat) hdd (CW.joinP h (by rintro _ _ ⟨rfl, rfl⟩; exact k))
theorem cw_invV {y : MethodName} {cc' : ByteArray} {nL' n ci idx q dd m' : Nat} {ret' : Option FieldType} {fs : List (Option Nat)} {As st0 : List Value} {rq : vw_C} {μ0 : Mem} (hd : decode cc pc = .ok (.invokevirtual idx, 3)) (h : AM E y cc' nL' ret' dd (.ref q :: As) μ (fun r μ' => r = none ∧ μ' = μ0)) (hq : vwCl[ci]? = some rq) (hV : VOK own idx rq.1 y cc' nL' ret' n) (hs : shape[q]? = some (ci, m', fs)) (hc : ci < 100) (hn : As.length = n) (hst : st0 = As.reverse ++ .ref q :: S) (hcat : Nat.ble (S.map Value.category).sum 8 = true) (hdd : dd < d) (k : CW E Γ cc nL own d (pc + 3) L (S) μ0) : CW E Γ cc nL own d pc L st0 μ :=
  cw_inv (rest := []) hd hq hV hs hc hn hst (Nat.le_of_ble_eq_true hcat) hdd (CW.joinP h (by rintro _ _ ⟨rfl, rfl⟩; exact k))
theorem cw_invP {y : MethodName} {cc' : ByteArray} {nL' n ci idx q dd m' : Nat} {ret' : Option FieldType} {fs : List (Option Nat)} {As st0 : List Value} {rq : vw_C} {P : Option Value → Mem → Prop} (hd : decode cc pc = .ok (.invokevirtual idx, 3)) (h : AM E y cc' nL' ret' dd (.ref q :: As) μ P) (hq : vwCl[ci]? = some rq) (hV : VOK own idx rq.1 y cc' nL' ret' n) (hs : shape[q]? = some (ci, m', fs)) (hc : ci < 100) (hn : As.length = n) (hst : st0 = As.reverse ++ .ref q :: S) (hcat : Nat.ble (S.map Value.category).sum 8 = true) (hdd : dd < d) (k : ∀ r μ', P r μ' → CW E Γ cc nL own d (pc + 3) L (r.toList ++ S) μ') : CW E Γ cc nL own d pc L st0 μ :=
  cw_inv (rest := []) hd hq hV hs hc hn hst (Nat.le_of_ble_eq_true hcat) hdd (CW.joinP h k)
theorem cw_invSI {y : MethodName} {cc' : ByteArray} {nL' n idx i dd : Nat} {ret' : Option FieldType} {As st0 : List Value} {x : Int32} {μ0 : Mem} (hi : i < 8) (hd : decode cc pc = .ok (.invokevirtual idx, 3)) (h : AM E y cc' nL' ret' dd (.ref (80 + i) :: As) μ (fun r μ' => r = some (.int x) ∧ μ' = μ0)) (hV : VOK own idx "java/lang/String" y cc' nL' ret' n) (hn : As.length = n) (hst : st0 = As.reverse ++ .ref (80 + i) :: S) (hcat : Nat.ble (S.map Value.category).sum 8 = true) (hdd : dd < d) (k : CW E Γ cc nL own d (pc + 3) L (.int x :: S) μ0) : CW E Γ cc nL own d pc L st0 μ :=
  cw_invS hi hd hV hn hst (Nat.le_of_ble_eq_true hcat) hdd (CW.joinP h (by rintro _ _ ⟨rfl, rfl⟩; exact k))
theorem cw_invSL {y : MethodName} {cc' : ByteArray} {nL' n idx i dd : Nat} {ret' : Option FieldType} {As st0 : List Value} {x : Int64} {μ0 : Mem} (hi : i < 8) (hd : decode cc pc = .ok (.invokevirtual idx, 3)) (h : AM E y cc' nL' ret' dd (.ref (80 + i) :: As) μ (fun r μ' => r = some (.long x) ∧ μ' = μ0)) (hV : VOK own idx "java/lang/String" y cc' nL' ret' n) (hn : As.length = n) (hst : st0 = As.reverse ++ .ref (80 + i) :: S) (hcat : Nat.ble (S.map Value.category).sum 8 = true) (hdd : dd < d) (k : CW E Γ cc nL own d (pc + 3) L (.long x :: S) μ0) : CW E Γ cc nL own d pc L st0 μ :=
  cw_invS hi hd hV hn hst (Nat.le_of_ble_eq_true hcat) hdd (CW.joinP h (by rintro _ _ ⟨rfl, rfl⟩; exact k))
theorem cw_invSV {y : MethodName} {cc' : ByteArray} {nL' n idx i dd : Nat} {ret' : Option FieldType} {As st0 : List Value} {μ0 : Mem} (hi : i < 8) (hd : decode cc pc = .ok (.invokevirtual idx, 3)) (h : AM E y cc' nL' ret' dd (.ref (80 + i) :: As) μ (fun r μ' => r = none ∧ μ' = μ0)) (hV : VOK own idx "java/lang/String" y cc' nL' ret' n) (hn : As.length = n) (hst : st0 = As.reverse ++ .ref (80 + i) :: S) (hcat : Nat.ble (S.map Value.category).sum 8 = true) (hdd : dd < d) (k : CW E Γ cc nL own d (pc + 3) L (S) μ0) : CW E Γ cc nL own d pc L st0 μ :=
  cw_invS hi hd hV hn hst (Nat.le_of_ble_eq_true hcat) hdd (CW.joinP h (by rintro _ _ ⟨rfl, rfl⟩; exact k))
theorem cw_invSP {y : MethodName} {cc' : ByteArray} {nL' n idx i dd : Nat} {ret' : Option FieldType} {As st0 : List Value} {P : Option Value → Mem → Prop} (hi : i < 8) (hd : decode cc pc = .ok (.invokevirtual idx, 3)) (h : AM E y cc' nL' ret' dd (.ref (80 + i) :: As) μ P) (hV : VOK own idx "java/lang/String" y cc' nL' ret' n) (hn : As.length = n) (hst : st0 = As.reverse ++ .ref (80 + i) :: S) (hcat : Nat.ble (S.map Value.category).sum 8 = true) (hdd : dd < d) (k : ∀ r μ', P r μ' → CW E Γ cc nL own d (pc + 3) L (r.toList ++ S) μ') : CW E Γ cc nL own d pc L st0 μ :=
  cw_invS hi hd hV hn hst (Nat.le_of_ble_eq_true hcat) hdd (CW.joinP h k)
theorem cw_insI {y : MethodName} {cc' : ByteArray} {nL' n idx dd : Nat} {ret' : Option FieldType} {As st0 : List Value} {x : Int32} {μ0 : Mem} (hd : decode cc pc = .ok (.invokestatic idx, 3)) (h : AM E y cc' nL' ret' dd As μ (fun r μ' => r = some (.int x) ∧ μ' = μ0)) (hV : SOK own idx y cc' nL' ret' n) (hn : As.length = n) (hst : st0 = As.reverse ++ S) (hcat : Nat.ble (S.map Value.category).sum 8 = true) (hdd : dd < d) (k : CW E Γ cc nL own d (pc + 3) L (.int x :: S) μ0) : CW E Γ cc nL own d pc L st0 μ :=
  cw_ins hd hV hn hst (Nat.le_of_ble_eq_true hcat) hdd (CW.joinP h (by rintro _ _ ⟨rfl, rfl⟩; exact k))
theorem cw_insL {y : MethodName} {cc' : ByteArray} {nL' n idx dd : Nat} {ret' : Option FieldType} {As st0 : List Value} {x : Int64} {μ0 : Mem} (hd : decode cc pc = .ok (.invokestatic idx, 3)) (h : AM E y cc' nL' ret' dd As μ (fun r μ' => r = some (.long x) ∧ μ' = μ0)) (hV : SOK own idx y cc' nL' ret' n) (hn : As.length = n) (hst : st0 = As.reverse ++ S) (hcat : Nat.ble (S.map Value.category).sum 8 = true) (hdd : dd < d) (k : CW E Γ cc nL own d (pc + 3) L (.long x :: S) μ0) : CW E Γ cc nL own d pc L st0 μ :=
  cw_ins hd hV hn hst (Nat.le_of_ble_eq_true hcat) hdd (CW.joinP h (by rintro _ _ ⟨rfl, rfl⟩; exact k))
theorem cw_insV {y : MethodName} {cc' : ByteArray} {nL' n idx dd : Nat} {ret' : Option FieldType} {As st0 : List Value} {μ0 : Mem} (hd : decode cc pc = .ok (.invokestatic idx, 3)) (h : AM E y cc' nL' ret' dd As μ (fun r μ' => r = none ∧ μ' = μ0)) (hV : SOK own idx y cc' nL' ret' n) (hn : As.length = n) (hst : st0 = As.reverse ++ S) (hcat : Nat.ble (S.map Value.category).sum 8 = true) (hdd : dd < d) (k : CW E Γ cc nL own d (pc + 3) L (S) μ0) : CW E Γ cc nL own d pc L st0 μ :=
  cw_ins hd hV hn hst (Nat.le_of_ble_eq_true hcat) hdd (CW.joinP h (by rintro _ _ ⟨rfl, rfl⟩; exact k))
theorem cw_insP {y : MethodName} {cc' : ByteArray} {nL' n idx dd : Nat} {ret' : Option FieldType} {As st0 : List Value} {P : Option Value → Mem → Prop} (hd : decode cc pc = .ok (.invokestatic idx, 3)) (h : AM E y cc' nL' ret' dd As μ P) (hV : SOK own idx y cc' nL' ret' n) (hn : As.length = n) (hst : st0 = As.reverse ++ S) (hcat : Nat.ble (S.map Value.category).sum 8 = true) (hdd : dd < d) (k : ∀ r μ', P r μ' → CW E Γ cc nL own d (pc + 3) L (r.toList ++ S) μ') : CW E Γ cc nL own d pc L st0 μ :=
  cw_ins hd hV hn hst (Nat.le_of_ble_eq_true hcat) hdd (CW.joinP h k)
theorem cw_insNI {y : MethodName} {host : String} {cc' : ByteArray} {nL' n idx dd : Nat} {ret' : Option FieldType} {As st0 : List Value} {x : Int32} {μ0 : Mem} (hd : decode cc pc = .ok (.invokestatic idx, 3)) (h : AM E y cc' nL' ret' dd As μ (fun r μ' => r = some (.int x) ∧ μ' = μ0)) (hV : NOK own idx y host cc' nL' ret' n) (hn : As.length = n) (hst : st0 = As.reverse ++ S) (hcat : Nat.ble (S.map Value.category).sum 8 = true) (hdd : dd < d) (k : CW E Γ cc nL own d (pc + 3) L (.int x :: S) μ0) : CW E Γ cc nL own d pc L st0 μ :=
  cw_insN hd hV hn hst (Nat.le_of_ble_eq_true hcat) hdd (CW.joinP h (by rintro _ _ ⟨rfl, rfl⟩; exact k))
theorem cw_insNL {y : MethodName} {host : String} {cc' : ByteArray} {nL' n idx dd : Nat} {ret' : Option FieldType} {As st0 : List Value} {x : Int64} {μ0 : Mem} (hd : decode cc pc = .ok (.invokestatic idx, 3)) (h : AM E y cc' nL' ret' dd As μ (fun r μ' => r = some (.long x) ∧ μ' = μ0)) (hV : NOK own idx y host cc' nL' ret' n) (hn : As.length = n) (hst : st0 = As.reverse ++ S) (hcat : Nat.ble (S.map Value.category).sum 8 = true) (hdd : dd < d) (k : CW E Γ cc nL own d (pc + 3) L (.long x :: S) μ0) : CW E Γ cc nL own d pc L st0 μ :=
  cw_insN hd hV hn hst (Nat.le_of_ble_eq_true hcat) hdd (CW.joinP h (by rintro _ _ ⟨rfl, rfl⟩; exact k))
theorem cw_insNV {y : MethodName} {host : String} {cc' : ByteArray} {nL' n idx dd : Nat} {ret' : Option FieldType} {As st0 : List Value} {μ0 : Mem} (hd : decode cc pc = .ok (.invokestatic idx, 3)) (h : AM E y cc' nL' ret' dd As μ (fun r μ' => r = none ∧ μ' = μ0)) (hV : NOK own idx y host cc' nL' ret' n) (hn : As.length = n) (hst : st0 = As.reverse ++ S) (hcat : Nat.ble (S.map Value.category).sum 8 = true) (hdd : dd < d) (k : CW E Γ cc nL own d (pc + 3) L (S) μ0) : CW E Γ cc nL own d pc L st0 μ :=
  cw_insN hd hV hn hst (Nat.le_of_ble_eq_true hcat) hdd (CW.joinP h (by rintro _ _ ⟨rfl, rfl⟩; exact k))
theorem cw_insNP {y : MethodName} {host : String} {cc' : ByteArray} {nL' n idx dd : Nat} {ret' : Option FieldType} {As st0 : List Value} {P : Option Value → Mem → Prop} (hd : decode cc pc = .ok (.invokestatic idx, 3)) (h : AM E y cc' nL' ret' dd As μ P) (hV : NOK own idx y host cc' nL' ret' n) (hn : As.length = n) (hst : st0 = As.reverse ++ S) (hcat : Nat.ble (S.map Value.category).sum 8 = true) (hdd : dd < d) (k : ∀ r μ', P r μ' → CW E Γ cc nL own d (pc + 3) L (r.toList ++ S) μ') : CW E Γ cc nL own d pc L st0 μ :=
  cw_insN hd hV hn hst (Nat.le_of_ble_eq_true hcat) hdd (CW.joinP h k)
theorem cw_if_eq_T {x : Int32} {off : Int} {tgt : Nat} (hd : decode cc pc = .ok (.ifCond .eq off, 3)) (ht : (pc : Int) + off = (tgt : Int)) (h : x = 0) (k : CW E Γ cc nL own d tgt L S μ) : CW E Γ cc nL own d pc L (.int x :: S) μ := cw_if_eq hd ht (fun _ => k) (fun c => False.elim (by exact c h))
theorem cw_if_eq_F {x : Int32} {off : Int} {tgt : Nat} (hd : decode cc pc = .ok (.ifCond .eq off, 3)) (ht : (pc : Int) + off = (tgt : Int)) (h : ¬ x = 0) (k : CW E Γ cc nL own d (pc + 3) L S μ) : CW E Γ cc nL own d pc L (.int x :: S) μ := cw_if_eq hd ht (fun c => False.elim (by exact h c)) (fun _ => k)
theorem cw_if_ne_T {x : Int32} {off : Int} {tgt : Nat} (hd : decode cc pc = .ok (.ifCond .ne off, 3)) (ht : (pc : Int) + off = (tgt : Int)) (h : ¬ x = 0) (k : CW E Γ cc nL own d tgt L S μ) : CW E Γ cc nL own d pc L (.int x :: S) μ := cw_if_ne hd ht (fun _ => k) (fun c => False.elim (by exact h c))
theorem cw_if_ne_F {x : Int32} {off : Int} {tgt : Nat} (hd : decode cc pc = .ok (.ifCond .ne off, 3)) (ht : (pc : Int) + off = (tgt : Int)) (h : x = 0) (k : CW E Γ cc nL own d (pc + 3) L S μ) : CW E Γ cc nL own d pc L (.int x :: S) μ := cw_if_ne hd ht (fun c => False.elim (by exact c h)) (fun _ => k)
theorem cw_if_lt_T {x : Int32} {off : Int} {tgt : Nat} (hd : decode cc pc = .ok (.ifCond .lt off, 3)) (ht : (pc : Int) + off = (tgt : Int)) (h : x < 0) (k : CW E Γ cc nL own d tgt L S μ) : CW E Γ cc nL own d pc L (.int x :: S) μ := cw_if_lt hd ht (fun _ => k) (fun c => False.elim (by exact c h))
theorem cw_if_lt_F {x : Int32} {off : Int} {tgt : Nat} (hd : decode cc pc = .ok (.ifCond .lt off, 3)) (ht : (pc : Int) + off = (tgt : Int)) (h : ¬ x < 0) (k : CW E Γ cc nL own d (pc + 3) L S μ) : CW E Γ cc nL own d pc L (.int x :: S) μ := cw_if_lt hd ht (fun c => False.elim (by exact h c)) (fun _ => k)
theorem cw_if_ge_T {x : Int32} {off : Int} {tgt : Nat} (hd : decode cc pc = .ok (.ifCond .ge off, 3)) (ht : (pc : Int) + off = (tgt : Int)) (h : 0 ≤ x) (k : CW E Γ cc nL own d tgt L S μ) : CW E Γ cc nL own d pc L (.int x :: S) μ := cw_if_ge hd ht (fun _ => k) (fun c => False.elim (by exact c h))
theorem cw_if_ge_F {x : Int32} {off : Int} {tgt : Nat} (hd : decode cc pc = .ok (.ifCond .ge off, 3)) (ht : (pc : Int) + off = (tgt : Int)) (h : ¬ 0 ≤ x) (k : CW E Γ cc nL own d (pc + 3) L S μ) : CW E Γ cc nL own d pc L (.int x :: S) μ := cw_if_ge hd ht (fun c => False.elim (by exact h c)) (fun _ => k)
theorem cw_if_gt_T {x : Int32} {off : Int} {tgt : Nat} (hd : decode cc pc = .ok (.ifCond .gt off, 3)) (ht : (pc : Int) + off = (tgt : Int)) (h : 0 < x) (k : CW E Γ cc nL own d tgt L S μ) : CW E Γ cc nL own d pc L (.int x :: S) μ := cw_if_gt hd ht (fun _ => k) (fun c => False.elim (by exact c h))
theorem cw_if_gt_F {x : Int32} {off : Int} {tgt : Nat} (hd : decode cc pc = .ok (.ifCond .gt off, 3)) (ht : (pc : Int) + off = (tgt : Int)) (h : ¬ 0 < x) (k : CW E Γ cc nL own d (pc + 3) L S μ) : CW E Γ cc nL own d pc L (.int x :: S) μ := cw_if_gt hd ht (fun c => False.elim (by exact h c)) (fun _ => k)
theorem cw_if_le_T {x : Int32} {off : Int} {tgt : Nat} (hd : decode cc pc = .ok (.ifCond .le off, 3)) (ht : (pc : Int) + off = (tgt : Int)) (h : x ≤ 0) (k : CW E Γ cc nL own d tgt L S μ) : CW E Γ cc nL own d pc L (.int x :: S) μ := cw_if_le hd ht (fun _ => k) (fun c => False.elim (by exact c h))
theorem cw_if_le_F {x : Int32} {off : Int} {tgt : Nat} (hd : decode cc pc = .ok (.ifCond .le off, 3)) (ht : (pc : Int) + off = (tgt : Int)) (h : ¬ x ≤ 0) (k : CW E Γ cc nL own d (pc + 3) L S μ) : CW E Γ cc nL own d pc L (.int x :: S) μ := cw_if_le hd ht (fun c => False.elim (by exact h c)) (fun _ => k)
theorem cw_icmp_eq_T {x y : Int32} {off : Int} {tgt : Nat} (hd : decode cc pc = .ok (.if_icmp .eq off, 3)) (ht : (pc : Int) + off = (tgt : Int)) (h : x = y) (k : CW E Γ cc nL own d tgt L S μ) : CW E Γ cc nL own d pc L (.int y :: .int x :: S) μ := cw_icmp_eq hd ht (fun _ => k) (fun c => False.elim (by exact c h))
theorem cw_icmp_eq_F {x y : Int32} {off : Int} {tgt : Nat} (hd : decode cc pc = .ok (.if_icmp .eq off, 3)) (ht : (pc : Int) + off = (tgt : Int)) (h : ¬ x = y) (k : CW E Γ cc nL own d (pc + 3) L S μ) : CW E Γ cc nL own d pc L (.int y :: .int x :: S) μ := cw_icmp_eq hd ht (fun c => False.elim (by exact h c)) (fun _ => k)
theorem cw_icmp_ne_T {x y : Int32} {off : Int} {tgt : Nat} (hd : decode cc pc = .ok (.if_icmp .ne off, 3)) (ht : (pc : Int) + off = (tgt : Int)) (h : ¬ x = y) (k : CW E Γ cc nL own d tgt L S μ) : CW E Γ cc nL own d pc L (.int y :: .int x :: S) μ := cw_icmp_ne hd ht (fun _ => k) (fun c => False.elim (by exact h c))
theorem cw_icmp_ne_F {x y : Int32} {off : Int} {tgt : Nat} (hd : decode cc pc = .ok (.if_icmp .ne off, 3)) (ht : (pc : Int) + off = (tgt : Int)) (h : x = y) (k : CW E Γ cc nL own d (pc + 3) L S μ) : CW E Γ cc nL own d pc L (.int y :: .int x :: S) μ := cw_icmp_ne hd ht (fun c => False.elim (by exact c h)) (fun _ => k)
theorem cw_icmp_lt_T {x y : Int32} {off : Int} {tgt : Nat} (hd : decode cc pc = .ok (.if_icmp .lt off, 3)) (ht : (pc : Int) + off = (tgt : Int)) (h : x < y) (k : CW E Γ cc nL own d tgt L S μ) : CW E Γ cc nL own d pc L (.int y :: .int x :: S) μ := cw_icmp_lt hd ht (fun _ => k) (fun c => False.elim (by exact c h))
theorem cw_icmp_lt_F {x y : Int32} {off : Int} {tgt : Nat} (hd : decode cc pc = .ok (.if_icmp .lt off, 3)) (ht : (pc : Int) + off = (tgt : Int)) (h : ¬ x < y) (k : CW E Γ cc nL own d (pc + 3) L S μ) : CW E Γ cc nL own d pc L (.int y :: .int x :: S) μ := cw_icmp_lt hd ht (fun c => False.elim (by exact h c)) (fun _ => k)
theorem cw_icmp_ge_T {x y : Int32} {off : Int} {tgt : Nat} (hd : decode cc pc = .ok (.if_icmp .ge off, 3)) (ht : (pc : Int) + off = (tgt : Int)) (h : y ≤ x) (k : CW E Γ cc nL own d tgt L S μ) : CW E Γ cc nL own d pc L (.int y :: .int x :: S) μ := cw_icmp_ge hd ht (fun _ => k) (fun c => False.elim (by exact c h))
theorem cw_icmp_ge_F {x y : Int32} {off : Int} {tgt : Nat} (hd : decode cc pc = .ok (.if_icmp .ge off, 3)) (ht : (pc : Int) + off = (tgt : Int)) (h : ¬ y ≤ x) (k : CW E Γ cc nL own d (pc + 3) L S μ) : CW E Γ cc nL own d pc L (.int y :: .int x :: S) μ := cw_icmp_ge hd ht (fun c => False.elim (by exact h c)) (fun _ => k)
theorem cw_icmp_gt_T {x y : Int32} {off : Int} {tgt : Nat} (hd : decode cc pc = .ok (.if_icmp .gt off, 3)) (ht : (pc : Int) + off = (tgt : Int)) (h : y < x) (k : CW E Γ cc nL own d tgt L S μ) : CW E Γ cc nL own d pc L (.int y :: .int x :: S) μ := cw_icmp_gt hd ht (fun _ => k) (fun c => False.elim (by exact c h))
theorem cw_icmp_gt_F {x y : Int32} {off : Int} {tgt : Nat} (hd : decode cc pc = .ok (.if_icmp .gt off, 3)) (ht : (pc : Int) + off = (tgt : Int)) (h : ¬ y < x) (k : CW E Γ cc nL own d (pc + 3) L S μ) : CW E Γ cc nL own d pc L (.int y :: .int x :: S) μ := cw_icmp_gt hd ht (fun c => False.elim (by exact h c)) (fun _ => k)
theorem cw_icmp_le_T {x y : Int32} {off : Int} {tgt : Nat} (hd : decode cc pc = .ok (.if_icmp .le off, 3)) (ht : (pc : Int) + off = (tgt : Int)) (h : x ≤ y) (k : CW E Γ cc nL own d tgt L S μ) : CW E Γ cc nL own d pc L (.int y :: .int x :: S) μ := cw_icmp_le hd ht (fun _ => k) (fun c => False.elim (by exact c h))
theorem cw_icmp_le_F {x y : Int32} {off : Int} {tgt : Nat} (hd : decode cc pc = .ok (.if_icmp .le off, 3)) (ht : (pc : Int) + off = (tgt : Int)) (h : ¬ x ≤ y) (k : CW E Γ cc nL own d (pc + 3) L S μ) : CW E Γ cc nL own d pc L (.int y :: .int x :: S) μ := cw_icmp_le hd ht (fun c => False.elim (by exact h c)) (fun _ => k)
/-- a loop by a counter: its invariant, its exit, its step -/
theorem cw_for {σ : Type} {head : Nat} (Nn : Nat) (I : Nat → σ → Mem → Prop) (Lf : Nat → σ → List Value)
    (hx : ∀ (a : σ) (μ : Mem), I Nn a μ → CW E Γ cc nL own d head (Lf Nn a) [] μ)
    (hs : ∀ (i : Nat) (a : σ) (μ : Mem), i < Nn → I i a μ → (∀ (b : σ) (μ' : Mem), I (i + 1) b μ' → CW E Γ cc nL own d head (Lf (i + 1) b) [] μ') → CW E Γ cc nL own d head (Lf i a) [] μ) :
    ∀ (i : Nat) (a : σ) (μ : Mem), i ≤ Nn → I i a μ → CW E Γ cc nL own d head (Lf i a) [] μ := by
  suffices h : ∀ (n i : Nat) (a : σ) (μ : Mem), i + n = Nn → I i a μ → CW E Γ cc nL own d head (Lf i a) [] μ from fun i a μ hi => h (Nn - i) i a μ (by omega)
  intro n
  induction n with
  | zero => intro i a μ hi h; have : i = Nn := by omega
            subst this; exact hx a μ h
  | succ n ih => intro i a μ hi h; exact hs i a μ (by omega) h (fun b μ' h' => ih (i + 1) b μ' (by omega) h')
end Rows5
/-- what a method may change -/
def Same (F : Nat → Nat → Prop) (μ μ' : Mem) : Prop := ∀ q i, ¬ F q i → μ' q i = μ q i
theorem Same.rf {F : Nat → Nat → Prop} {μ : Mem} : Same F μ μ := fun _ _ _ => rfl
theorem Same.tr {F : Nat → Nat → Prop} {μ μ1 μ2 : Mem} (h : Same F μ μ1) (h2 : Same F μ1 μ2) : Same F μ μ2 := fun q i hF => (h2 q i hF).trans (h q i hF)
theorem Same.mo {F G : Nat → Nat → Prop} {μ μ' : Mem} (h : Same F μ μ') (hFG : ∀ q i, F q i → G q i) : Same G μ μ' := fun q i hG => h q i (fun hF => hG (hFG q i hF))
theorem Same.s1 {F : Nat → Nat → Prop} {μ μ' : Mem} {q i : Nat} {v : Int32} (h : Same F μ μ') (hF : F q i) : Same F μ (st μ' q i v) := fun a b hab => by
  have : ¬ (a = q ∧ b = i) := fun ⟨h1, h2⟩ => hab (by rw [h1, h2]; exact hF)
  show (if _ then _ else _) = _
  rw [if_neg this]; exact h a b hab
theorem Same.sr {F : Nat → Nat → Prop} {μ μ' : Mem} {q : Nat} {f : Nat → Int32} (h : Same F μ μ') (hF : ∀ i, F q i) : Same F μ (str μ' q f) := fun a b hab => by
  have : ¬ a = q := fun h1 => hab (by rw [h1]; exact hF b)
  have e : str μ' q f a = μ' a := if_neg this
  rw [e]; exact h a b hab
theorem st_at {μ : Mem} {k i q j : Nat} {v : Int32} : st μ k i v q j = if q = k ∧ j = i then v else μ q j := rfl
theorem str_at {μ : Mem} {k q : Nat} {f : Nat → Int32} : str μ k f q = if q = k then f else μ q := rfl

theorem sh_0 : shape[0]? = some (8, 0, [some 1, some 22, none, some 2, some 50, some 43, some 54, some 58, some 61, some 65]) := rfl
theorem sh_1 : shape[1]? = some (7, 0, [some 2, some 9, some 12, some 14, some 16, some 18, some 20, none]) := rfl
theorem sh_2 : shape[2]? = some (2, 0, [none, none, none, none, some 3, some 4, some 5, some 6, some 7, some 8]) := rfl
theorem sh_3 : shape[3]? = some (100, 12, []) := rfl
theorem sh_4 : shape[4]? = some (100, 6, []) := rfl
theorem sh_5 : shape[5]? = some (100, 6, []) := rfl
theorem sh_6 : shape[6]? = some (100, 6, []) := rfl
theorem sh_7 : shape[7]? = some (100, 6, []) := rfl
theorem sh_8 : shape[8]? = some (100, 24, []) := rfl
theorem sh_9 : shape[9]? = some (3, 0, [some 10, some 11, none, none]) := rfl
theorem sh_10 : shape[10]? = some (100, 100, []) := rfl
theorem sh_11 : shape[11]? = some (100, 100, []) := rfl
theorem sh_12 : shape[12]? = some (6, 0, [none, some 13, none]) := rfl
theorem sh_13 : shape[13]? = some (100, 100, []) := rfl
theorem sh_14 : shape[14]? = some (6, 0, [none, some 15, none]) := rfl
theorem sh_15 : shape[15]? = some (100, 10, []) := rfl
theorem sh_16 : shape[16]? = some (6, 0, [none, some 17, none]) := rfl
theorem sh_17 : shape[17]? = some (100, 15, []) := rfl
theorem sh_18 : shape[18]? = some (6, 0, [none, some 19, none]) := rfl
theorem sh_19 : shape[19]? = some (100, 16, []) := rfl
theorem sh_20 : shape[20]? = some (6, 0, [none, some 21, none]) := rfl
theorem sh_21 : shape[21]? = some (100, 16, []) := rfl
theorem sh_22 : shape[22]? = some (7, 0, [some 23, some 30, some 33, some 35, some 37, some 39, some 41, none]) := rfl
theorem sh_23 : shape[23]? = some (2, 0, [none, none, none, none, some 24, some 25, some 26, some 27, some 28, some 29]) := rfl
theorem sh_24 : shape[24]? = some (100, 12, []) := rfl
theorem sh_25 : shape[25]? = some (100, 6, []) := rfl
theorem sh_26 : shape[26]? = some (100, 6, []) := rfl
theorem sh_27 : shape[27]? = some (100, 6, []) := rfl
theorem sh_28 : shape[28]? = some (100, 6, []) := rfl
theorem sh_29 : shape[29]? = some (100, 24, []) := rfl
theorem sh_30 : shape[30]? = some (3, 0, [some 31, some 32, none, none]) := rfl
theorem sh_31 : shape[31]? = some (100, 100, []) := rfl
theorem sh_32 : shape[32]? = some (100, 100, []) := rfl
theorem sh_33 : shape[33]? = some (6, 0, [none, some 34, none]) := rfl
theorem sh_34 : shape[34]? = some (100, 100, []) := rfl
theorem sh_35 : shape[35]? = some (6, 0, [none, some 36, none]) := rfl
theorem sh_36 : shape[36]? = some (100, 10, []) := rfl
theorem sh_37 : shape[37]? = some (6, 0, [none, some 38, none]) := rfl
theorem sh_38 : shape[38]? = some (100, 15, []) := rfl
theorem sh_39 : shape[39]? = some (6, 0, [none, some 40, none]) := rfl
theorem sh_40 : shape[40]? = some (100, 16, []) := rfl
theorem sh_41 : shape[41]? = some (6, 0, [none, some 42, none]) := rfl
theorem sh_42 : shape[42]? = some (100, 16, []) := rfl
theorem sh_43 : shape[43]? = some (2, 0, [none, none, none, none, some 44, some 45, some 46, some 47, some 48, some 49]) := rfl
theorem sh_44 : shape[44]? = some (100, 12, []) := rfl
theorem sh_45 : shape[45]? = some (100, 6, []) := rfl
theorem sh_46 : shape[46]? = some (100, 6, []) := rfl
theorem sh_47 : shape[47]? = some (100, 6, []) := rfl
theorem sh_48 : shape[48]? = some (100, 6, []) := rfl
theorem sh_49 : shape[49]? = some (100, 24, []) := rfl
theorem sh_50 : shape[50]? = some (4, 0, [some 2, some 9, some 51, some 52, some 53, none, none]) := rfl
theorem sh_51 : shape[51]? = some (100, 6, []) := rfl
theorem sh_52 : shape[52]? = some (100, 6, []) := rfl
theorem sh_53 : shape[53]? = some (100, 13, []) := rfl
theorem sh_54 : shape[54]? = some (4, 0, [some 43, some 9, some 55, some 56, some 57, none, none]) := rfl
theorem sh_55 : shape[55]? = some (100, 6, []) := rfl
theorem sh_56 : shape[56]? = some (100, 6, []) := rfl
theorem sh_57 : shape[57]? = some (100, 13, []) := rfl
theorem sh_58 : shape[58]? = some (0, 0, [some 59, some 60, none, none, none, none, none]) := rfl
theorem sh_59 : shape[59]? = some (100, 108, []) := rfl
theorem sh_60 : shape[60]? = some (100, 108, []) := rfl
theorem sh_61 : shape[61]? = some (5, 0, [some 62, some 12, none, none, none]) := rfl
theorem sh_62 : shape[62]? = some (3, 0, [some 63, some 64, none, none]) := rfl
theorem sh_63 : shape[63]? = some (100, 100, []) := rfl
theorem sh_64 : shape[64]? = some (100, 100, []) := rfl
theorem sh_65 : shape[65]? = some (1, 0, [some 66, none, none, none, none]) := rfl
theorem sh_66 : shape[66]? = some (100, 20, []) := rfl
theorem sh_67 : shape[67]? = some (9, 0, [none, some 68, some 69, some 70, none, none, none, none, none, none, some 71, some 72, some 73, none, none, some 74, some 75, some 76, none, none, none, none]) := rfl
theorem sh_68 : shape[68]? = some (100, 948, []) := rfl
theorem sh_69 : shape[69]? = some (100, 948, []) := rfl
theorem sh_70 : shape[70]? = some (100, 31, []) := rfl
theorem sh_71 : shape[71]? = some (100, 6, []) := rfl
theorem sh_72 : shape[72]? = some (101, 64, []) := rfl
theorem sh_73 : shape[73]? = some (100, 13, []) := rfl
theorem sh_74 : shape[74]? = some (100, 108, []) := rfl
theorem sh_75 : shape[75]? = some (100, 108, []) := rfl
theorem sh_76 : shape[76]? = some (100, 20, []) := rfl
theorem kX8_115 : Cond.constant RX8 115 (-999999) ∈ lw_good := mg (mT 469 (by decide +kernel)) rfl
theorem kX4_105 : Cond.constant RX4 105 (-999999) ∈ lw_good := mg (mT 560 (by decide +kernel)) rfl
theorem kX8_205 : Cond.constant RX8 205 (1000000) ∈ lw_good := mg (mT 597 (by decide +kernel)) rfl
theorem kJ6_265 : Cond.constant RJ6 265 (1431655765) ∈ lw_good := mg (mT 637 (by decide +kernel)) rfl
theorem kJ6_266 : Cond.constant RJ6 266 (858993459) ∈ lw_good := mg (mT 638 (by decide +kernel)) rfl
theorem kJ6_267 : Cond.constant RJ6 267 (252645135) ∈ lw_good := mg (mT 639 (by decide +kernel)) rfl
theorem kX8_246 : Cond.constantLong RX8 246 (-9223372036854775808) ∈ lw_good := mg (mT 686 (by decide +kernel)) rfl
theorem kX9_165 : Cond.constant RX9 165 (-999999) ∈ lw_good := mg (mT 940 (by decide +kernel)) rfl
theorem kX9_153 : Cond.constant RX9 153 (-1000000) ∈ lw_good := mg (mT 1011 (by decide +kernel)) rfl
theorem kX9_210 : Cond.constantLong RX9 210 (-9223372036854775808) ∈ lw_good := mg (mT 1103 (by decide +kernel)) rfl
theorem kX9_212 : Cond.constantLong RX9 212 (12) ∈ lw_good := mg (mT 1104 (by decide +kernel)) rfl
end
section
set_option maxHeartbeats 4000000 in
set_option maxRecDepth 100000 in
theorem c_X8_isKind {E : Ev} {x : Int32} {μ : Mem} : AM E yX8_isKind cX8_isKind 1 (some .boolean) 0 [.int x] μ (fun r μ' => r = some (.int (bI (0 ≤ x ∧ x < 7))) ∧ μ' = μ) := by
  refine am_of (own := RX8) (L := [.int x]) (by decide) rfl (Nat.le_of_ble_eq_true rfl) rfl (fun Γ hR => ?_)
  refine cw_iload_n (pc := 0) dX8_isKind_0 rfl rfl <|
    cw_if_lt (tgt := 14) (pc := 1) dX8_isKind_1 (by decide) (fun c1 => ?_) (fun c1 => ?_)
  · refine cw_iconst (v := 0) (pc := 14) dX8_isKind_14 (by decide) <|
      cw_zret (pc := 15) dX8_isKind_15 hR rfl <|
      (by first | exact ⟨by rw [bI_t (by grind)], rfl⟩ | exact ⟨by rw [bI_f (by grind)], rfl⟩)
  · refine cw_iload_n (pc := 4) dX8_isKind_4 rfl rfl <|
      cw_bipush (v := 7) (pc := 5) dX8_isKind_5 (by decide) <|
      cw_icmp_ge (tgt := 14) (pc := 7) dX8_isKind_7 (by decide) (fun c7 => ?_) (fun c7 => ?_)
    · refine cw_iconst (v := 0) (pc := 14) dX8_isKind_14 (by decide) <|
        cw_zret (pc := 15) dX8_isKind_15 hR rfl <|
        (by first | exact ⟨by rw [bI_t (by grind)], rfl⟩ | exact ⟨by rw [bI_f (by grind)], rfl⟩)
    · refine cw_iconst (v := 1) (pc := 10) dX8_isKind_10 (by decide) <|
        cw_goto (tgt := 15) (pc := 11) dX8_isKind_11 (by decide) <|
        cw_zret (pc := 15) dX8_isKind_15 hR rfl <|
        (by first | exact ⟨by rw [bI_t (by grind)], rfl⟩ | exact ⟨by rw [bI_f (by grind)], rfl⟩)
set_option maxHeartbeats 4000000 in
set_option maxRecDepth 100000 in
theorem c_X8_isStep {E : Ev} {x : Int32} {μ : Mem} : AM E yX8_isStep cX8_isStep 1 (some .boolean) 0 [.int x] μ (fun r μ' => r = some (.int (bI (0 ≤ x ∧ x < 12))) ∧ μ' = μ) := by
  refine am_of (own := RX8) (L := [.int x]) (by decide) rfl (Nat.le_of_ble_eq_true rfl) rfl (fun Γ hR => ?_)
  refine cw_iload_n (pc := 0) dX8_isStep_0 rfl rfl <|
    cw_if_lt (tgt := 14) (pc := 1) dX8_isStep_1 (by decide) (fun c1 => ?_) (fun c1 => ?_)
  · refine cw_iconst (v := 0) (pc := 14) dX8_isStep_14 (by decide) <|
      cw_zret (pc := 15) dX8_isStep_15 hR rfl <|
      (by first | exact ⟨by rw [bI_t (by grind)], rfl⟩ | exact ⟨by rw [bI_f (by grind)], rfl⟩)
  · refine cw_iload_n (pc := 4) dX8_isStep_4 rfl rfl <|
      cw_bipush (v := 12) (pc := 5) dX8_isStep_5 (by decide) <|
      cw_icmp_ge (tgt := 14) (pc := 7) dX8_isStep_7 (by decide) (fun c7 => ?_) (fun c7 => ?_)
    · refine cw_iconst (v := 0) (pc := 14) dX8_isStep_14 (by decide) <|
        cw_zret (pc := 15) dX8_isStep_15 hR rfl <|
        (by first | exact ⟨by rw [bI_t (by grind)], rfl⟩ | exact ⟨by rw [bI_f (by grind)], rfl⟩)
    · refine cw_iconst (v := 1) (pc := 10) dX8_isStep_10 (by decide) <|
        cw_goto (tgt := 15) (pc := 11) dX8_isStep_11 (by decide) <|
        cw_zret (pc := 15) dX8_isStep_15 hR rfl <|
        (by first | exact ⟨by rw [bI_t (by grind)], rfl⟩ | exact ⟨by rw [bI_f (by grind)], rfl⟩)
set_option maxHeartbeats 4000000 in
set_option maxRecDepth 100000 in
theorem c_X8_isLane {E : Ev} {x : Int32} {μ : Mem} : AM E yX8_isLane cX8_isLane 1 (some .boolean) 0 [.int x] μ (fun r μ' => r = some (.int (bI (0 ≤ x ∧ x < 9))) ∧ μ' = μ) := by
  refine am_of (own := RX8) (L := [.int x]) (by decide) rfl (Nat.le_of_ble_eq_true rfl) rfl (fun Γ hR => ?_)
  refine cw_iload_n (pc := 0) dX8_isLane_0 rfl rfl <|
    cw_if_lt (tgt := 14) (pc := 1) dX8_isLane_1 (by decide) (fun c1 => ?_) (fun c1 => ?_)
  · refine cw_iconst (v := 0) (pc := 14) dX8_isLane_14 (by decide) <|
      cw_zret (pc := 15) dX8_isLane_15 hR rfl <|
      (by first | exact ⟨by rw [bI_t (by grind)], rfl⟩ | exact ⟨by rw [bI_f (by grind)], rfl⟩)
  · refine cw_iload_n (pc := 4) dX8_isLane_4 rfl rfl <|
      cw_bipush (v := 9) (pc := 5) dX8_isLane_5 (by decide) <|
      cw_icmp_ge (tgt := 14) (pc := 7) dX8_isLane_7 (by decide) (fun c7 => ?_) (fun c7 => ?_)
    · refine cw_iconst (v := 0) (pc := 14) dX8_isLane_14 (by decide) <|
        cw_zret (pc := 15) dX8_isLane_15 hR rfl <|
        (by first | exact ⟨by rw [bI_t (by grind)], rfl⟩ | exact ⟨by rw [bI_f (by grind)], rfl⟩)
    · refine cw_iconst (v := 1) (pc := 10) dX8_isLane_10 (by decide) <|
        cw_goto (tgt := 15) (pc := 11) dX8_isLane_11 (by decide) <|
        cw_zret (pc := 15) dX8_isLane_15 hR rfl <|
        (by first | exact ⟨by rw [bI_t (by grind)], rfl⟩ | exact ⟨by rw [bI_f (by grind)], rfl⟩)
set_option maxHeartbeats 4000000 in
set_option maxRecDepth 100000 in
theorem c_X8_isDigit {E : Ev} {x : Int32} {μ : Mem} : AM E yX8_isDigit cX8_isDigit 1 (some .boolean) 0 [.int x] μ (fun r μ' => r = some (.int (bI (0 ≤ x ∧ x ≤ 9))) ∧ μ' = μ) := by
  refine am_of (own := RX8) (L := [.int x]) (by decide) rfl (Nat.le_of_ble_eq_true rfl) rfl (fun Γ hR => ?_)
  refine cw_iload_n (pc := 0) dX8_isDigit_0 rfl rfl <|
    cw_if_lt (tgt := 14) (pc := 1) dX8_isDigit_1 (by decide) (fun c1 => ?_) (fun c1 => ?_)
  · refine cw_iconst (v := 0) (pc := 14) dX8_isDigit_14 (by decide) <|
      cw_zret (pc := 15) dX8_isDigit_15 hR rfl <|
      (by first | exact ⟨by rw [bI_t (by grind)], rfl⟩ | exact ⟨by rw [bI_f (by grind)], rfl⟩)
  · refine cw_iload_n (pc := 4) dX8_isDigit_4 rfl rfl <|
      cw_bipush (v := 9) (pc := 5) dX8_isDigit_5 (by decide) <|
      cw_icmp_gt (tgt := 14) (pc := 7) dX8_isDigit_7 (by decide) (fun c7 => ?_) (fun c7 => ?_)
    · refine cw_iconst (v := 0) (pc := 14) dX8_isDigit_14 (by decide) <|
        cw_zret (pc := 15) dX8_isDigit_15 hR rfl <|
        (by first | exact ⟨by rw [bI_t (by grind)], rfl⟩ | exact ⟨by rw [bI_f (by grind)], rfl⟩)
    · refine cw_iconst (v := 1) (pc := 10) dX8_isDigit_10 (by decide) <|
        cw_goto (tgt := 15) (pc := 11) dX8_isDigit_11 (by decide) <|
        cw_zret (pc := 15) dX8_isDigit_15 hR rfl <|
        (by first | exact ⟨by rw [bI_t (by grind)], rfl⟩ | exact ⟨by rw [bI_f (by grind)], rfl⟩)
set_option maxHeartbeats 4000000 in
set_option maxRecDepth 100000 in
theorem c_X8_isFind {E : Ev} {x : Int32} {μ : Mem} : AM E yX8_isFind cX8_isFind 1 (some .boolean) 0 [.int x] μ (fun r μ' => r = some (.int (bI (1 ≤ x ∧ x ≤ 9))) ∧ μ' = μ) := by
  refine am_of (own := RX8) (L := [.int x]) (by decide) rfl (Nat.le_of_ble_eq_true rfl) rfl (fun Γ hR => ?_)
  refine cw_iload_n (pc := 0) dX8_isFind_0 rfl rfl <|
    cw_iconst (v := 1) (pc := 1) dX8_isFind_1 (by decide) <|
    cw_icmp_lt (tgt := 15) (pc := 2) dX8_isFind_2 (by decide) (fun c2 => ?_) (fun c2 => ?_)
  · refine cw_iconst (v := 0) (pc := 15) dX8_isFind_15 (by decide) <|
      cw_zret (pc := 16) dX8_isFind_16 hR rfl <|
      (by first | exact ⟨by rw [bI_t (by grind)], rfl⟩ | exact ⟨by rw [bI_f (by grind)], rfl⟩)
  · refine cw_iload_n (pc := 5) dX8_isFind_5 rfl rfl <|
      cw_bipush (v := 9) (pc := 6) dX8_isFind_6 (by decide) <|
      cw_icmp_gt (tgt := 15) (pc := 8) dX8_isFind_8 (by decide) (fun c8 => ?_) (fun c8 => ?_)
    · refine cw_iconst (v := 0) (pc := 15) dX8_isFind_15 (by decide) <|
        cw_zret (pc := 16) dX8_isFind_16 hR rfl <|
        (by first | exact ⟨by rw [bI_t (by grind)], rfl⟩ | exact ⟨by rw [bI_f (by grind)], rfl⟩)
    · refine cw_iconst (v := 1) (pc := 11) dX8_isFind_11 (by decide) <|
        cw_goto (tgt := 16) (pc := 12) dX8_isFind_12 (by decide) <|
        cw_zret (pc := 16) dX8_isFind_16 hR rfl <|
        (by first | exact ⟨by rw [bI_t (by grind)], rfl⟩ | exact ⟨by rw [bI_f (by grind)], rfl⟩)
set_option maxHeartbeats 4000000 in
set_option maxRecDepth 100000 in
theorem c_X8_isPart {E : Ev} {x : Int32} {μ : Mem} : AM E yX8_isPart cX8_isPart 1 (some .boolean) 0 [.int x] μ (fun r μ' => r = some (.int (bI (x = 0 ∨ x = 1))) ∧ μ' = μ) := by
  refine am_of (own := RX8) (L := [.int x]) (by decide) rfl (Nat.le_of_ble_eq_true rfl) rfl (fun Γ hR => ?_)
  refine cw_iload_n (pc := 0) dX8_isPart_0 rfl rfl <|
    cw_if_eq (tgt := 9) (pc := 1) dX8_isPart_1 (by decide) (fun c1 => ?_) (fun c1 => ?_)
  · refine cw_iconst (v := 1) (pc := 9) dX8_isPart_9 (by decide) <|
      cw_goto (tgt := 14) (pc := 10) dX8_isPart_10 (by decide) <|
      cw_zret (pc := 14) dX8_isPart_14 hR rfl <|
      (by first | exact ⟨by rw [bI_t (by grind)], rfl⟩ | exact ⟨by rw [bI_f (by grind)], rfl⟩)
  · refine cw_iload_n (pc := 4) dX8_isPart_4 rfl rfl <|
      cw_iconst (v := 1) (pc := 5) dX8_isPart_5 (by decide) <|
      cw_icmp_ne (tgt := 13) (pc := 6) dX8_isPart_6 (by decide) (fun c6 => ?_) (fun c6 => ?_)
    · refine cw_iconst (v := 0) (pc := 13) dX8_isPart_13 (by decide) <|
        cw_zret (pc := 14) dX8_isPart_14 hR rfl <|
        (by first | exact ⟨by rw [bI_t (by grind)], rfl⟩ | exact ⟨by rw [bI_f (by grind)], rfl⟩)
    · refine cw_iconst (v := 1) (pc := 9) dX8_isPart_9 (by decide) <|
        cw_goto (tgt := 14) (pc := 10) dX8_isPart_10 (by decide) <|
        cw_zret (pc := 14) dX8_isPart_14 hR rfl <|
        (by first | exact ⟨by rw [bI_t (by grind)], rfl⟩ | exact ⟨by rw [bI_f (by grind)], rfl⟩)
set_option maxHeartbeats 4000000 in
set_option maxRecDepth 100000 in
theorem c_X8_bit {E : Ev} {x y : Int32} {μ : Mem} : AM E yX8_bit cX8_bit 2 (some .int) 0 [.int x, .int y] μ (fun r μ' => r = some (.int (x >>> (y &&& 31) &&& 1)) ∧ μ' = μ) := by
  refine am_of (own := RX8) (L := [.int x, .int y]) (by decide) rfl (Nat.le_of_ble_eq_true rfl) rfl (fun Γ hR => ?_)
  refine cw_iload_n (pc := 0) dX8_bit_0 rfl rfl <|
    cw_iload_n (pc := 1) dX8_bit_1 rfl rfl <|
    cw_ishr (pc := 2) dX8_bit_2 <|
    cw_iconst (v := 1) (pc := 3) dX8_bit_3 (by decide) <|
    cw_iand (pc := 4) dX8_bit_4 <|
    cw_iret (pc := 5) dX8_bit_5 hR <|
    ⟨rfl, rfl⟩
def LandAt (k : Nat) : Prop := shape[k]? = some (2, 0, [none, none, none, none, some (k + 1), some (k + 2), some (k + 3), some (k + 4), some (k + 5), some (k + 6)]) ∧ shape[k + 1]? = some (100, 12, []) ∧ shape[k + 2]? = some (100, 6, []) ∧ shape[k + 3]? = some (100, 6, []) ∧ shape[k + 4]? = some (100, 6, []) ∧ shape[k + 5]? = some (100, 6, []) ∧ shape[k + 6]? = some (100, 24, [])
theorem land_2 : LandAt 2 := ⟨rfl, rfl, rfl, rfl, rfl, rfl, rfl⟩
theorem land_23 : LandAt 23 := ⟨rfl, rfl, rfl, rfl, rfl, rfl, rfl⟩
theorem land_43 : LandAt 43 := ⟨rfl, rfl, rfl, rfl, rfl, rfl, rfl⟩
set_option maxHeartbeats 4000000 in
set_option maxRecDepth 100000 in
theorem c_X2_has {E : Ev} {k : Nat} (hk : LandAt k) {x : Int32} {μ : Mem} : AM E yX2_has cX2_has 2 (some .boolean) 0 [.ref k, .int x] μ (fun r μ' => r = some (.int (bI (0 ≤ x ∧ x < μ k 1 ∧ x < 6))) ∧ μ' = μ) := by
  refine am_of (own := RX2) (L := [.ref k, .int x]) (by decide) rfl (Nat.le_of_ble_eq_true rfl) rfl (fun Γ hR => ?_)
  refine cw_iload_n (pc := 0) dX2_has_0 rfl rfl <|
    cw_if_lt (tgt := 22) (pc := 1) dX2_has_1 (by decide) (fun c1 => ?_) (fun c1 => ?_)
  · refine cw_iconst (v := 0) (pc := 22) dX2_has_22 (by decide) <|
      cw_zret (pc := 23) dX2_has_23 hR rfl <|
      (by first | exact ⟨by rw [bI_t (by grind)], rfl⟩ | exact ⟨by rw [bI_f (by grind)], rfl⟩)
  · refine cw_iload_n (pc := 4) dX2_has_4 rfl rfl <|
      cw_aload_n (pc := 5) dX2_has_5 rfl rfl <|
      cw_getI (q := k) (pc := 6) dX2_has_6 fX2_30 hk.1 (by decide) rfl <|
      cw_icmp_ge (tgt := 22) (pc := 9) dX2_has_9 (by decide) (fun c9 => ?_) (fun c9 => ?_)
    · refine cw_iconst (v := 0) (pc := 22) dX2_has_22 (by decide) <|
        cw_zret (pc := 23) dX2_has_23 hR rfl <|
        (by first | exact ⟨by rw [bI_t (by grind)], rfl⟩ | exact ⟨by rw [bI_f (by grind)], rfl⟩)
    · refine cw_iload_n (pc := 12) dX2_has_12 rfl rfl <|
        cw_bipush (v := 6) (pc := 13) dX2_has_13 (by decide) <|
        cw_icmp_ge (tgt := 22) (pc := 15) dX2_has_15 (by decide) (fun c15 => ?_) (fun c15 => ?_)
      · refine cw_iconst (v := 0) (pc := 22) dX2_has_22 (by decide) <|
          cw_zret (pc := 23) dX2_has_23 hR rfl <|
          (by first | exact ⟨by rw [bI_t (by grind)], rfl⟩ | exact ⟨by rw [bI_f (by grind)], rfl⟩)
      · refine cw_iconst (v := 1) (pc := 18) dX2_has_18 (by decide) <|
          cw_goto (tgt := 23) (pc := 19) dX2_has_19 (by decide) <|
          cw_zret (pc := 23) dX2_has_23 hR rfl <|
          (by first | exact ⟨by rw [bI_t (by grind)], rfl⟩ | exact ⟨by rw [bI_f (by grind)], rfl⟩)
end
