-- ===== PART A: goes FIRST, ahead of the names: the tables' words, and 'selects' of the private methods out of them =====
/-- a private method of a class that the tables say can be made, by its rows of tables_1 -/
def lw_okq (q : MethodName × Nat) : Prop := (q.1.cls ≠ "java/lang/invoke/MethodHandle" ∧ q.1.cls ≠ "java/lang/invoke/VarHandle") ∧ Cond.instantiable q.1.cls q.2 ∈ tables_1 ∧ Cond.privateMethod q.1 ∈ tables_1 ∧ Cond.instanceMethod q.1 ∈ tables_1
theorem lw_p0 : lw_okq (⟨"StraightFurrow$Reader", "goesOn", "()V"⟩, 5) := ⟨⟨by decide +kernel, by decide +kernel⟩, List.mem_of_getElem? (i := 240) (by decide +kernel), List.mem_of_getElem? (i := 339) (by decide +kernel), List.mem_of_getElem? (i := 340) (by decide +kernel)⟩
theorem lw_p1 : lw_okq (⟨"StraightFurrow$Reader", "heads", "(Ljava/lang/String;)Z"⟩, 5) := ⟨⟨by decide +kernel, by decide +kernel⟩, List.mem_of_getElem? (i := 240) (by decide +kernel), List.mem_of_getElem? (i := 346) (by decide +kernel), List.mem_of_getElem? (i := 347) (by decide +kernel)⟩
theorem lw_p2 : lw_okq (⟨"StraightFurrow$Reader", "eats", "(I)Z"⟩, 5) := ⟨⟨by decide +kernel, by decide +kernel⟩, List.mem_of_getElem? (i := 240) (by decide +kernel), List.mem_of_getElem? (i := 398) (by decide +kernel), List.mem_of_getElem? (i := 399) (by decide +kernel)⟩
theorem lw_p3 : lw_okq (⟨"StraightFurrow$Reader", "readsNumber", "()Z"⟩, 5) := ⟨⟨by decide +kernel, by decide +kernel⟩, List.mem_of_getElem? (i := 240) (by decide +kernel), List.mem_of_getElem? (i := 402) (by decide +kernel), List.mem_of_getElem? (i := 403) (by decide +kernel)⟩
theorem lw_p4 : lw_okq (⟨"StraightFurrow$Reader", "either", "(I)Z"⟩, 5) := ⟨⟨by decide +kernel, by decide +kernel⟩, List.mem_of_getElem? (i := 240) (by decide +kernel), List.mem_of_getElem? (i := 409) (by decide +kernel), List.mem_of_getElem? (i := 410) (by decide +kernel)⟩
theorem lw_p5 : lw_okq (⟨"StraightFurrow$Reader", "both", "(I)Z"⟩, 5) := ⟨⟨by decide +kernel, by decide +kernel⟩, List.mem_of_getElem? (i := 240) (by decide +kernel), List.mem_of_getElem? (i := 413) (by decide +kernel), List.mem_of_getElem? (i := 414) (by decide +kernel)⟩
theorem lw_p6 : lw_okq (⟨"StraightFurrow$Reader", "factor", "(I)Z"⟩, 5) := ⟨⟨by decide +kernel, by decide +kernel⟩, List.mem_of_getElem? (i := 240) (by decide +kernel), List.mem_of_getElem? (i := 417) (by decide +kernel), List.mem_of_getElem? (i := 418) (by decide +kernel)⟩
theorem lw_p7 : lw_okq (⟨"StraightFurrow$Reader", "test", "()Z"⟩, 5) := ⟨⟨by decide +kernel, by decide +kernel⟩, List.mem_of_getElem? (i := 240) (by decide +kernel), List.mem_of_getElem? (i := 421) (by decide +kernel), List.mem_of_getElem? (i := 422) (by decide +kernel)⟩
theorem lw_p8 : lw_okq (⟨"StraightFurrow$Reader", "eatsOneOf", "(Ljava/lang/String;)I"⟩, 5) := ⟨⟨by decide +kernel, by decide +kernel⟩, List.mem_of_getElem? (i := 240) (by decide +kernel), List.mem_of_getElem? (i := 426) (by decide +kernel), List.mem_of_getElem? (i := 427) (by decide +kernel)⟩
theorem lw_p9 : lw_okq (⟨"StraightFurrow", "decided", "(II)I"⟩, 10) := ⟨⟨by decide +kernel, by decide +kernel⟩, List.mem_of_getElem? (i := 20) (by decide +kernel), List.mem_of_getElem? (i := 540) (by decide +kernel), List.mem_of_getElem? (i := 541) (by decide +kernel)⟩
theorem lw_p10 : lw_okq (⟨"StraightFurrow", "winner", "()I"⟩, 10) := ⟨⟨by decide +kernel, by decide +kernel⟩, List.mem_of_getElem? (i := 20) (by decide +kernel), List.mem_of_getElem? (i := 548) (by decide +kernel), List.mem_of_getElem? (i := 549) (by decide +kernel)⟩
theorem lw_p11 : lw_okq (⟨"StraightFurrow", "scoreIfLaid", "(III)I"⟩, 10) := ⟨⟨by decide +kernel, by decide +kernel⟩, List.mem_of_getElem? (i := 20) (by decide +kernel), List.mem_of_getElem? (i := 614) (by decide +kernel), List.mem_of_getElem? (i := 615) (by decide +kernel)⟩
theorem lw_p12 : lw_okq (⟨"StraightFurrow$Clearing", "search", "(IIIII)V"⟩, 7) := ⟨⟨by decide +kernel, by decide +kernel⟩, List.mem_of_getElem? (i := 212) (by decide +kernel), List.mem_of_getElem? (i := 631) (by decide +kernel), List.mem_of_getElem? (i := 632) (by decide +kernel)⟩
theorem lw_p13 : lw_okq (⟨"StraightFurrow$Clearing", "keeps", "(II)V"⟩, 7) := ⟨⟨by decide +kernel, by decide +kernel⟩, List.mem_of_getElem? (i := 212) (by decide +kernel), List.mem_of_getElem? (i := 643) (by decide +kernel), List.mem_of_getElem? (i := 644) (by decide +kernel)⟩
theorem lw_p14 : lw_okq (⟨"StraightFurrow", "isAsSeen", "(LStraightFurrow$Plough;I)Z"⟩, 10) := ⟨⟨by decide +kernel, by decide +kernel⟩, List.mem_of_getElem? (i := 20) (by decide +kernel), List.mem_of_getElem? (i := 668) (by decide +kernel), List.mem_of_getElem? (i := 669) (by decide +kernel)⟩
theorem lw_p15 : lw_okq (⟨"StraightFurrow$Deeds", "runs", "(IIII)I"⟩, 5) := ⟨⟨by decide +kernel, by decide +kernel⟩, List.mem_of_getElem? (i := 265) (by decide +kernel), List.mem_of_getElem? (i := 732) (by decide +kernel), List.mem_of_getElem? (i := 733) (by decide +kernel)⟩
def lw_privs_1 : List (MethodName × Nat) := [(⟨"StraightFurrow$Reader", "goesOn", "()V"⟩, 5), (⟨"StraightFurrow$Reader", "heads", "(Ljava/lang/String;)Z"⟩, 5), (⟨"StraightFurrow$Reader", "eats", "(I)Z"⟩, 5), (⟨"StraightFurrow$Reader", "readsNumber", "()Z"⟩, 5), (⟨"StraightFurrow$Reader", "either", "(I)Z"⟩, 5), (⟨"StraightFurrow$Reader", "both", "(I)Z"⟩, 5), (⟨"StraightFurrow$Reader", "factor", "(I)Z"⟩, 5), (⟨"StraightFurrow$Reader", "test", "()Z"⟩, 5), (⟨"StraightFurrow$Reader", "eatsOneOf", "(Ljava/lang/String;)I"⟩, 5), (⟨"StraightFurrow", "decided", "(II)I"⟩, 10), (⟨"StraightFurrow", "winner", "()I"⟩, 10), (⟨"StraightFurrow", "scoreIfLaid", "(III)I"⟩, 10), (⟨"StraightFurrow$Clearing", "search", "(IIIII)V"⟩, 7), (⟨"StraightFurrow$Clearing", "keeps", "(II)V"⟩, 7), (⟨"StraightFurrow", "isAsSeen", "(LStraightFurrow$Plough;I)Z"⟩, 10), (⟨"StraightFurrow$Deeds", "runs", "(IIII)I"⟩, 5)]
theorem lw_r1 : ∀ q ∈ lw_privs_1, lw_okq q := List.forall_mem_cons.mpr ⟨lw_p0, List.forall_mem_cons.mpr ⟨lw_p1, List.forall_mem_cons.mpr ⟨lw_p2, List.forall_mem_cons.mpr ⟨lw_p3, List.forall_mem_cons.mpr ⟨lw_p4, List.forall_mem_cons.mpr ⟨lw_p5, List.forall_mem_cons.mpr ⟨lw_p6, List.forall_mem_cons.mpr ⟨lw_p7, List.forall_mem_cons.mpr ⟨lw_p8, List.forall_mem_cons.mpr ⟨lw_p9, List.forall_mem_cons.mpr ⟨lw_p10, List.forall_mem_cons.mpr ⟨lw_p11, List.forall_mem_cons.mpr ⟨lw_p12, List.forall_mem_cons.mpr ⟨lw_p13, List.forall_mem_cons.mpr ⟨lw_p14, List.forall_mem_cons.mpr ⟨lw_p15, fun _ h => absurd h List.not_mem_nil⟩⟩⟩⟩⟩⟩⟩⟩⟩⟩⟩⟩⟩⟩⟩⟩
theorem lw_p16 : lw_okq (⟨"StraightFurrow$Deeds", "begins", "(I)V"⟩, 5) := ⟨⟨by decide +kernel, by decide +kernel⟩, List.mem_of_getElem? (i := 265) (by decide +kernel), List.mem_of_getElem? (i := 744) (by decide +kernel), List.mem_of_getElem? (i := 745) (by decide +kernel)⟩
theorem lw_p17 : lw_okq (⟨"StraightFurrowModel", "clauseHere", "()V"⟩, 22) := ⟨⟨by decide +kernel, by decide +kernel⟩, List.mem_of_getElem? (i := 787) (by decide +kernel), List.mem_of_getElem? (i := 871) (by decide +kernel), List.mem_of_getElem? (i := 872) (by decide +kernel)⟩
theorem lw_p18 : lw_okq (⟨"StraightFurrowModel", "here", "()I"⟩, 22) := ⟨⟨by decide +kernel, by decide +kernel⟩, List.mem_of_getElem? (i := 787) (by decide +kernel), List.mem_of_getElem? (i := 875) (by decide +kernel), List.mem_of_getElem? (i := 876) (by decide +kernel)⟩
theorem lw_p19 : lw_okq (⟨"StraightFurrowModel", "tellsHere", "(ILjava/lang/String;)V"⟩, 22) := ⟨⟨by decide +kernel, by decide +kernel⟩, List.mem_of_getElem? (i := 787) (by decide +kernel), List.mem_of_getElem? (i := 880) (by decide +kernel), List.mem_of_getElem? (i := 881) (by decide +kernel)⟩
theorem lw_p20 : lw_okq (⟨"StraightFurrowModel", "spells", "(Ljava/lang/String;)V"⟩, 22) := ⟨⟨by decide +kernel, by decide +kernel⟩, List.mem_of_getElem? (i := 787) (by decide +kernel), List.mem_of_getElem? (i := 884) (by decide +kernel), List.mem_of_getElem? (i := 885) (by decide +kernel)⟩
theorem lw_p21 : lw_okq (⟨"StraightFurrowModel", "must", "(I)V"⟩, 22) := ⟨⟨by decide +kernel, by decide +kernel⟩, List.mem_of_getElem? (i := 787) (by decide +kernel), List.mem_of_getElem? (i := 890) (by decide +kernel), List.mem_of_getElem? (i := 891) (by decide +kernel)⟩
theorem lw_p22 : lw_okq (⟨"StraightFurrowModel", "figures", "()I"⟩, 22) := ⟨⟨by decide +kernel, by decide +kernel⟩, List.mem_of_getElem? (i := 787) (by decide +kernel), List.mem_of_getElem? (i := 894) (by decide +kernel), List.mem_of_getElem? (i := 895) (by decide +kernel)⟩
theorem lw_p23 : lw_okq (⟨"StraightFurrowModel", "much", "(ILjava/lang/String;)V"⟩, 22) := ⟨⟨by decide +kernel, by decide +kernel⟩, List.mem_of_getElem? (i := 787) (by decide +kernel), List.mem_of_getElem? (i := 899) (by decide +kernel), List.mem_of_getElem? (i := 900) (by decide +kernel)⟩
theorem lw_p24 : lw_okq (⟨"StraightFurrowModel", "some", "()V"⟩, 22) := ⟨⟨by decide +kernel, by decide +kernel⟩, List.mem_of_getElem? (i := 787) (by decide +kernel), List.mem_of_getElem? (i := 903) (by decide +kernel), List.mem_of_getElem? (i := 904) (by decide +kernel)⟩
theorem lw_p25 : lw_okq (⟨"StraightFurrowModel", "every", "()V"⟩, 22) := ⟨⟨by decide +kernel, by decide +kernel⟩, List.mem_of_getElem? (i := 787) (by decide +kernel), List.mem_of_getElem? (i := 907) (by decide +kernel), List.mem_of_getElem? (i := 908) (by decide +kernel)⟩
theorem lw_p26 : lw_okq (⟨"StraightFurrowModel", "factor", "()V"⟩, 22) := ⟨⟨by decide +kernel, by decide +kernel⟩, List.mem_of_getElem? (i := 787) (by decide +kernel), List.mem_of_getElem? (i := 911) (by decide +kernel), List.mem_of_getElem? (i := 912) (by decide +kernel)⟩
theorem lw_p27 : lw_okq (⟨"StraightFurrowModel", "emits", "(I)V"⟩, 22) := ⟨⟨by decide +kernel, by decide +kernel⟩, List.mem_of_getElem? (i := 787) (by decide +kernel), List.mem_of_getElem? (i := 915) (by decide +kernel), List.mem_of_getElem? (i := 916) (by decide +kernel)⟩
theorem lw_p28 : lw_okq (⟨"StraightFurrowModel", "among", "(Ljava/lang/String;)I"⟩, 22) := ⟨⟨by decide +kernel, by decide +kernel⟩, List.mem_of_getElem? (i := 787) (by decide +kernel), List.mem_of_getElem? (i := 920) (by decide +kernel), List.mem_of_getElem? (i := 921) (by decide +kernel)⟩
theorem lw_p29 : lw_okq (⟨"StraightFurrowModel", "isMan", "(I)Z"⟩, 22) := ⟨⟨by decide +kernel, by decide +kernel⟩, List.mem_of_getElem? (i := 787) (by decide +kernel), List.mem_of_getElem? (i := 937) (by decide +kernel), List.mem_of_getElem? (i := 938) (by decide +kernel)⟩
theorem lw_p30 : lw_okq (⟨"StraightFurrowModel", "scoreOf", "(I)I"⟩, 22) := ⟨⟨by decide +kernel, by decide +kernel⟩, List.mem_of_getElem? (i := 787) (by decide +kernel), List.mem_of_getElem? (i := 942) (by decide +kernel), List.mem_of_getElem? (i := 943) (by decide +kernel)⟩
theorem lw_p31 : lw_okq (⟨"StraightFurrowModel", "scoreFrom", "(II)I"⟩, 22) := ⟨⟨by decide +kernel, by decide +kernel⟩, List.mem_of_getElem? (i := 787) (by decide +kernel), List.mem_of_getElem? (i := 946) (by decide +kernel), List.mem_of_getElem? (i := 947) (by decide +kernel)⟩
def lw_privs_2 : List (MethodName × Nat) := [(⟨"StraightFurrow$Deeds", "begins", "(I)V"⟩, 5), (⟨"StraightFurrowModel", "clauseHere", "()V"⟩, 22), (⟨"StraightFurrowModel", "here", "()I"⟩, 22), (⟨"StraightFurrowModel", "tellsHere", "(ILjava/lang/String;)V"⟩, 22), (⟨"StraightFurrowModel", "spells", "(Ljava/lang/String;)V"⟩, 22), (⟨"StraightFurrowModel", "must", "(I)V"⟩, 22), (⟨"StraightFurrowModel", "figures", "()I"⟩, 22), (⟨"StraightFurrowModel", "much", "(ILjava/lang/String;)V"⟩, 22), (⟨"StraightFurrowModel", "some", "()V"⟩, 22), (⟨"StraightFurrowModel", "every", "()V"⟩, 22), (⟨"StraightFurrowModel", "factor", "()V"⟩, 22), (⟨"StraightFurrowModel", "emits", "(I)V"⟩, 22), (⟨"StraightFurrowModel", "among", "(Ljava/lang/String;)I"⟩, 22), (⟨"StraightFurrowModel", "isMan", "(I)Z"⟩, 22), (⟨"StraightFurrowModel", "scoreOf", "(I)I"⟩, 22), (⟨"StraightFurrowModel", "scoreFrom", "(II)I"⟩, 22)]
theorem lw_r2 : ∀ q ∈ lw_privs_2, lw_okq q := List.forall_mem_cons.mpr ⟨lw_p16, List.forall_mem_cons.mpr ⟨lw_p17, List.forall_mem_cons.mpr ⟨lw_p18, List.forall_mem_cons.mpr ⟨lw_p19, List.forall_mem_cons.mpr ⟨lw_p20, List.forall_mem_cons.mpr ⟨lw_p21, List.forall_mem_cons.mpr ⟨lw_p22, List.forall_mem_cons.mpr ⟨lw_p23, List.forall_mem_cons.mpr ⟨lw_p24, List.forall_mem_cons.mpr ⟨lw_p25, List.forall_mem_cons.mpr ⟨lw_p26, List.forall_mem_cons.mpr ⟨lw_p27, List.forall_mem_cons.mpr ⟨lw_p28, List.forall_mem_cons.mpr ⟨lw_p29, List.forall_mem_cons.mpr ⟨lw_p30, List.forall_mem_cons.mpr ⟨lw_p31, fun _ h => absurd h List.not_mem_nil⟩⟩⟩⟩⟩⟩⟩⟩⟩⟩⟩⟩⟩⟩⟩⟩
theorem lw_p32 : lw_okq (⟨"StraightFurrowModel", "straysBy", "(IIII)I"⟩, 22) := ⟨⟨by decide +kernel, by decide +kernel⟩, List.mem_of_getElem? (i := 787) (by decide +kernel), List.mem_of_getElem? (i := 950) (by decide +kernel), List.mem_of_getElem? (i := 951) (by decide +kernel)⟩
theorem lw_p33 : lw_okq (⟨"StraightFurrowModel", "driftOf", "(IIII)I"⟩, 22) := ⟨⟨by decide +kernel, by decide +kernel⟩, List.mem_of_getElem? (i := 787) (by decide +kernel), List.mem_of_getElem? (i := 954) (by decide +kernel), List.mem_of_getElem? (i := 955) (by decide +kernel)⟩
theorem lw_p34 : lw_okq (⟨"StraightFurrowModel", "tellsOf", "(II)I"⟩, 22) := ⟨⟨by decide +kernel, by decide +kernel⟩, List.mem_of_getElem? (i := 787) (by decide +kernel), List.mem_of_getElem? (i := 958) (by decide +kernel), List.mem_of_getElem? (i := 959) (by decide +kernel)⟩
theorem lw_p35 : lw_okq (⟨"StraightFurrowModel", "countsLine", "()V"⟩, 22) := ⟨⟨by decide +kernel, by decide +kernel⟩, List.mem_of_getElem? (i := 787) (by decide +kernel), List.mem_of_getElem? (i := 965) (by decide +kernel), List.mem_of_getElem? (i := 966) (by decide +kernel)⟩
theorem lw_p36 : lw_okq (⟨"StraightFurrowModel", "span", "()I"⟩, 22) := ⟨⟨by decide +kernel, by decide +kernel⟩, List.mem_of_getElem? (i := 787) (by decide +kernel), List.mem_of_getElem? (i := 969) (by decide +kernel), List.mem_of_getElem? (i := 970) (by decide +kernel)⟩
theorem lw_p37 : lw_okq (⟨"StraightFurrowModel", "becomes", "(II)I"⟩, 22) := ⟨⟨by decide +kernel, by decide +kernel⟩, List.mem_of_getElem? (i := 787) (by decide +kernel), List.mem_of_getElem? (i := 977) (by decide +kernel), List.mem_of_getElem? (i := 978) (by decide +kernel)⟩
theorem lw_p38 : lw_okq (⟨"StraightFurrowModel", "bitsOf", "(I)I"⟩, 22) := ⟨⟨by decide +kernel, by decide +kernel⟩, List.mem_of_getElem? (i := 787) (by decide +kernel), List.mem_of_getElem? (i := 1004) (by decide +kernel), List.mem_of_getElem? (i := 1005) (by decide +kernel)⟩
theorem lw_p39 : lw_okq (⟨"StraightFurrowModel", "bestOne", "()I"⟩, 22) := ⟨⟨by decide +kernel, by decide +kernel⟩, List.mem_of_getElem? (i := 787) (by decide +kernel), List.mem_of_getElem? (i := 1008) (by decide +kernel), List.mem_of_getElem? (i := 1009) (by decide +kernel)⟩
theorem lw_p40 : lw_okq (⟨"StraightFurrowModel", "isCase", "(I)Z"⟩, 22) := ⟨⟨by decide +kernel, by decide +kernel⟩, List.mem_of_getElem? (i := 787) (by decide +kernel), List.mem_of_getElem? (i := 1013) (by decide +kernel), List.mem_of_getElem? (i := 1014) (by decide +kernel)⟩
theorem lw_p41 : lw_okq (⟨"StraightFurrowModel", "decided", "(I)I"⟩, 22) := ⟨⟨by decide +kernel, by decide +kernel⟩, List.mem_of_getElem? (i := 787) (by decide +kernel), List.mem_of_getElem? (i := 1017) (by decide +kernel), List.mem_of_getElem? (i := 1018) (by decide +kernel)⟩
theorem lw_p42 : lw_okq (⟨"StraightFurrowModel", "goesOn", "(I)V"⟩, 22) := ⟨⟨by decide +kernel, by decide +kernel⟩, List.mem_of_getElem? (i := 787) (by decide +kernel), List.mem_of_getElem? (i := 1025) (by decide +kernel), List.mem_of_getElem? (i := 1026) (by decide +kernel)⟩
theorem lw_p43 : lw_okq (⟨"StraightFurrowModel", "goes", "()V"⟩, 22) := ⟨⟨by decide +kernel, by decide +kernel⟩, List.mem_of_getElem? (i := 787) (by decide +kernel), List.mem_of_getElem? (i := 1029) (by decide +kernel), List.mem_of_getElem? (i := 1030) (by decide +kernel)⟩
theorem lw_p44 : lw_okq (⟨"StraightFurrowModel", "keeps", "()V"⟩, 22) := ⟨⟨by decide +kernel, by decide +kernel⟩, List.mem_of_getElem? (i := 787) (by decide +kernel), List.mem_of_getElem? (i := 1045) (by decide +kernel), List.mem_of_getElem? (i := 1046) (by decide +kernel)⟩
theorem lw_p45 : lw_okq (⟨"StraightFurrowModel", "goesBack", "()V"⟩, 22) := ⟨⟨by decide +kernel, by decide +kernel⟩, List.mem_of_getElem? (i := 787) (by decide +kernel), List.mem_of_getElem? (i := 1049) (by decide +kernel), List.mem_of_getElem? (i := 1050) (by decide +kernel)⟩
theorem lw_p46 : lw_okq (⟨"StraightFurrowModel", "scoreLaying", "(III)I"⟩, 22) := ⟨⟨by decide +kernel, by decide +kernel⟩, List.mem_of_getElem? (i := 787) (by decide +kernel), List.mem_of_getElem? (i := 1065) (by decide +kernel), List.mem_of_getElem? (i := 1066) (by decide +kernel)⟩
theorem lw_p47 : lw_okq (⟨"StraightFurrowModel", "scoreClearing", "(II)I"⟩, 22) := ⟨⟨by decide +kernel, by decide +kernel⟩, List.mem_of_getElem? (i := 787) (by decide +kernel), List.mem_of_getElem? (i := 1076) (by decide +kernel), List.mem_of_getElem? (i := 1077) (by decide +kernel)⟩
def lw_privs_3 : List (MethodName × Nat) := [(⟨"StraightFurrowModel", "straysBy", "(IIII)I"⟩, 22), (⟨"StraightFurrowModel", "driftOf", "(IIII)I"⟩, 22), (⟨"StraightFurrowModel", "tellsOf", "(II)I"⟩, 22), (⟨"StraightFurrowModel", "countsLine", "()V"⟩, 22), (⟨"StraightFurrowModel", "span", "()I"⟩, 22), (⟨"StraightFurrowModel", "becomes", "(II)I"⟩, 22), (⟨"StraightFurrowModel", "bitsOf", "(I)I"⟩, 22), (⟨"StraightFurrowModel", "bestOne", "()I"⟩, 22), (⟨"StraightFurrowModel", "isCase", "(I)Z"⟩, 22), (⟨"StraightFurrowModel", "decided", "(I)I"⟩, 22), (⟨"StraightFurrowModel", "goesOn", "(I)V"⟩, 22), (⟨"StraightFurrowModel", "goes", "()V"⟩, 22), (⟨"StraightFurrowModel", "keeps", "()V"⟩, 22), (⟨"StraightFurrowModel", "goesBack", "()V"⟩, 22), (⟨"StraightFurrowModel", "scoreLaying", "(III)I"⟩, 22), (⟨"StraightFurrowModel", "scoreClearing", "(II)I"⟩, 22)]
theorem lw_r3 : ∀ q ∈ lw_privs_3, lw_okq q := List.forall_mem_cons.mpr ⟨lw_p32, List.forall_mem_cons.mpr ⟨lw_p33, List.forall_mem_cons.mpr ⟨lw_p34, List.forall_mem_cons.mpr ⟨lw_p35, List.forall_mem_cons.mpr ⟨lw_p36, List.forall_mem_cons.mpr ⟨lw_p37, List.forall_mem_cons.mpr ⟨lw_p38, List.forall_mem_cons.mpr ⟨lw_p39, List.forall_mem_cons.mpr ⟨lw_p40, List.forall_mem_cons.mpr ⟨lw_p41, List.forall_mem_cons.mpr ⟨lw_p42, List.forall_mem_cons.mpr ⟨lw_p43, List.forall_mem_cons.mpr ⟨lw_p44, List.forall_mem_cons.mpr ⟨lw_p45, List.forall_mem_cons.mpr ⟨lw_p46, List.forall_mem_cons.mpr ⟨lw_p47, fun _ h => absurd h List.not_mem_nil⟩⟩⟩⟩⟩⟩⟩⟩⟩⟩⟩⟩⟩⟩⟩⟩
theorem lw_p48 : lw_okq (⟨"StraightFurrowModel", "isAsSeen", "(II)Z"⟩, 22) := ⟨⟨by decide +kernel, by decide +kernel⟩, List.mem_of_getElem? (i := 787) (by decide +kernel), List.mem_of_getElem? (i := 1092) (by decide +kernel), List.mem_of_getElem? (i := 1093) (by decide +kernel)⟩
theorem lw_p49 : lw_okq (⟨"StraightFurrowModel", "goesBy", "(II)V"⟩, 22) := ⟨⟨by decide +kernel, by decide +kernel⟩, List.mem_of_getElem? (i := 787) (by decide +kernel), List.mem_of_getElem? (i := 1121) (by decide +kernel), List.mem_of_getElem? (i := 1122) (by decide +kernel)⟩
theorem lw_p50 : lw_okq (⟨"StraightFurrowModel", "ploughsActs", "(I)I"⟩, 22) := ⟨⟨by decide +kernel, by decide +kernel⟩, List.mem_of_getElem? (i := 787) (by decide +kernel), List.mem_of_getElem? (i := 1137) (by decide +kernel), List.mem_of_getElem? (i := 1138) (by decide +kernel)⟩
theorem lw_p51 : lw_okq (⟨"StraightFurrowModel", "ranBody", "(I)V"⟩, 22) := ⟨⟨by decide +kernel, by decide +kernel⟩, List.mem_of_getElem? (i := 787) (by decide +kernel), List.mem_of_getElem? (i := 1144) (by decide +kernel), List.mem_of_getElem? (i := 1145) (by decide +kernel)⟩
theorem lw_p52 : lw_okq (⟨"StraightFurrowModel", "plainPloughs", "(I)I"⟩, 22) := ⟨⟨by decide +kernel, by decide +kernel⟩, List.mem_of_getElem? (i := 787) (by decide +kernel), List.mem_of_getElem? (i := 1148) (by decide +kernel), List.mem_of_getElem? (i := 1149) (by decide +kernel)⟩
theorem lw_p53 : lw_okq (⟨"StraightFurrowModel", "looksActs", "(I)I"⟩, 22) := ⟨⟨by decide +kernel, by decide +kernel⟩, List.mem_of_getElem? (i := 787) (by decide +kernel), List.mem_of_getElem? (i := 1152) (by decide +kernel), List.mem_of_getElem? (i := 1153) (by decide +kernel)⟩
theorem lw_p54 : lw_okq (⟨"StraightFurrowModel", "plainLooks", "(I)I"⟩, 22) := ⟨⟨by decide +kernel, by decide +kernel⟩, List.mem_of_getElem? (i := 787) (by decide +kernel), List.mem_of_getElem? (i := 1156) (by decide +kernel), List.mem_of_getElem? (i := 1157) (by decide +kernel)⟩
theorem lw_p55 : lw_okq (⟨"StraightFurrowModel", "swearsActs", "(I)I"⟩, 22) := ⟨⟨by decide +kernel, by decide +kernel⟩, List.mem_of_getElem? (i := 787) (by decide +kernel), List.mem_of_getElem? (i := 1160) (by decide +kernel), List.mem_of_getElem? (i := 1161) (by decide +kernel)⟩
theorem lw_p56 : lw_okq (⟨"StraightFurrowModel", "plainTelling", "(I)I"⟩, 22) := ⟨⟨by decide +kernel, by decide +kernel⟩, List.mem_of_getElem? (i := 787) (by decide +kernel), List.mem_of_getElem? (i := 1164) (by decide +kernel), List.mem_of_getElem? (i := 1165) (by decide +kernel)⟩
def lw_privs_4 : List (MethodName × Nat) := [(⟨"StraightFurrowModel", "isAsSeen", "(II)Z"⟩, 22), (⟨"StraightFurrowModel", "goesBy", "(II)V"⟩, 22), (⟨"StraightFurrowModel", "ploughsActs", "(I)I"⟩, 22), (⟨"StraightFurrowModel", "ranBody", "(I)V"⟩, 22), (⟨"StraightFurrowModel", "plainPloughs", "(I)I"⟩, 22), (⟨"StraightFurrowModel", "looksActs", "(I)I"⟩, 22), (⟨"StraightFurrowModel", "plainLooks", "(I)I"⟩, 22), (⟨"StraightFurrowModel", "swearsActs", "(I)I"⟩, 22), (⟨"StraightFurrowModel", "plainTelling", "(I)I"⟩, 22)]
theorem lw_r4 : ∀ q ∈ lw_privs_4, lw_okq q := List.forall_mem_cons.mpr ⟨lw_p48, List.forall_mem_cons.mpr ⟨lw_p49, List.forall_mem_cons.mpr ⟨lw_p50, List.forall_mem_cons.mpr ⟨lw_p51, List.forall_mem_cons.mpr ⟨lw_p52, List.forall_mem_cons.mpr ⟨lw_p53, List.forall_mem_cons.mpr ⟨lw_p54, List.forall_mem_cons.mpr ⟨lw_p55, List.forall_mem_cons.mpr ⟨lw_p56, fun _ h => absurd h List.not_mem_nil⟩⟩⟩⟩⟩⟩⟩⟩⟩
def lw_privs : List (MethodName × Nat) := lw_privs_1 ++ (lw_privs_2 ++ (lw_privs_3 ++ (lw_privs_4)))
def lw_tbl : List Cond := k2_sels lw_privs ++ tables_1
theorem lw_privs_ok : ∀ q ∈ lw_privs, lw_okq q := by
  show ∀ q ∈ lw_privs_1 ++ (lw_privs_2 ++ (lw_privs_3 ++ (lw_privs_4))), lw_okq q
  exact List.forall_mem_append.mpr ⟨lw_r1, List.forall_mem_append.mpr ⟨lw_r2, List.forall_mem_append.mpr ⟨lw_r3, lw_r4⟩⟩⟩
-- ===== end of PART A; then your names; then what follows =====
/-! THE CLAIM OUT OF ONE WALK OF THE LAW'S BODY. Your part is whole_start (and what it stands on); all else here is the same for every law, but numbers. -/
def R_law : String := "StraightFurrowLaw"
def lw_P (b : Addr) (xs : List Int32) (args : Array Value) (s : State) : Prop := args = #[.ref b] ∧ s.IntsAt b xs ∧ xs.length ≤ 2048 ∧ (Jvm.Cond.and given_1 narrow_1).before args s = true
def lw_Q (_ : Array Value) (s : State) (o : Outcome) (t : State) : Prop := o = .returned (some (.int 1)) ∧ Framed s o t [] 600000 7302250
def lw_Z (below : List Frame) (a : Array Value) (s : State) : State → Prop := fun t => ∃ o, t.status = .running ∧ Ended t below o ∧ lw_Q a s o t
/-- the law's own end, with 1 on the stack, nothing written that was there before, its room as the claim has it -/
theorem lw_ret {p : Program} {l : Launch} {e : Env} {s : State} {m : MethodId} {below : List Frame} {meth : Method} {c : Code} {b : Nat} (hx : p.tables.exec = Jvm.exec) (hb : c.code = code) (hr : meth.sig.returnType = ret) (hlocks : meth.locks = false) {pc : Nat} {H : Heap} {ls : Array Slot} (hdg : decode code pc = .ok (.ireturn, 1)) : W p l e room_1 s m #[Value.ref b] below meth c H [] 600000 7302250 (lw_Z below #[Value.ref b] s) (F0 m pc ls [.int 1]) := by
  intro T hT X
  obtain ⟨fs, hret, hrun, hended, hW, hframe⟩ := X.leave (v := some (.int 1)) (hlocks := hlocks) (fun h => by rw [hr] at h; cases h)
  have hmeth' : T.vm.method? m = some meth := X.method'
  refine ⟨T.setFrames fs, ?_, .returned (some (.int 1)), hrun, hended, rfl, ⟨_, rfl⟩, hW, hframe⟩
  jvm_step X.here [X.here.top, hx, hb, hdg, hmeth', hr, ret, narrow_b1]
  (try refine ⟨rfl, ?_⟩); (try refine ⟨rfl, ?_⟩)
  first | (intro acts; rw [hret _ acts rfl rfl rfl]) | rw [hret _ _ rfl rfl rfl]
  exact Steps.refl _
/-- what holds at the law's entry: the machine, the code, the tables' words (any of lw_tbl by 'hts w (by decide +kernel)'), the script of L ints xs at the cell b, what the Statement gives of the start (any of its parts by flat_of_before) -/
def lw_At (p : Program) (s : State) (m : MethodId) (meth : Method) (c : Code) (b L : Nat) (xs : Nat → Int32) : Prop :=
  p.tables.exec = Jvm.exec ∧ c.code = code ∧ meth.sig.returnType = ret ∧ c.maxLocals = 4 ∧ s.vm.findClass R_law = some m.cls ∧ (∀ w ∈ lw_tbl, w.before #[Value.ref b] s = true) ∧ va_X b L xs s s.heap ∧ b < s.heap.size ∧ meth.locks = false ∧ (Jvm.Cond.and given_1 narrow_1).before #[Value.ref b] s = true
/-! ===== BEGIN printed: names, fields, word lists, decode rows ===== -/
def RX0 : String := "StraightFurrow$Clearing"
def TX0 : u_T := fun k => match k with
  | 0 => ("StraightFurrow$Clearing", "moves", "[I", true)
  | 1 => ("StraightFurrow$Clearing", "bareMoves", "[I", true)
  | 2 => ("StraightFurrow$Clearing", "lying", "I", false)
  | 3 => ("StraightFurrow$Clearing", "first", "I", false)
  | 4 => ("StraightFurrow$Clearing", "mayLose", "I", false)
  | 5 => ("StraightFurrow$Clearing", "best", "I", false)
  | _ => ("StraightFurrow$Clearing", "fewest", "I", false)
def tyX0 : Nat → FieldType := fun k => match k with
  | 0 => .array .int
  | 1 => .array .int
  | 2 => .int
  | 3 => .int
  | 4 => .int
  | 5 => .int
  | _ => .int
abbrev wsX00 : List Cond := u_ws RX0 TX0 7
theorem nmX0 : ∀ a, a < 7 → ∀ b, b < 7 → a ≠ b → (TX0 a).2.1 ≠ (TX0 b).2.1 := by decide +kernel
theorem tyX0_ok : ∀ k, k < 7 → parseFieldDescriptor (TX0 k).2.2.1 = some (tyX0 k) := by decide +kernel
abbrev cX0_init : ByteArray := prog_2_method_1_code
def yX0_init : MethodName := ⟨RX0, "<init>", "()V"⟩
abbrev cX0_fewestTaken : ByteArray := prog_2_method_2_code
def yX0_fewestTaken : MethodName := ⟨RX0, "fewestTaken", "(LStraightFurrow$Plough;LStraightFurrow$Plough;I)I"⟩
abbrev cX0_search : ByteArray := prog_2_method_3_code
def yX0_search : MethodName := ⟨RX0, "search", "(IIIII)V"⟩
abbrev cX0_keeps : ByteArray := prog_2_method_4_code
def yX0_keeps : MethodName := ⟨RX0, "keeps", "(II)V"⟩
abbrev cX0_latestOf : ByteArray := prog_2_method_5_code
def yX0_latestOf : MethodName := ⟨RX0, "latestOf", "(II)I"⟩
abbrev cX0_lossOf : ByteArray := prog_2_method_6_code
def yX0_lossOf : MethodName := ⟨RX0, "lossOf", "(II)I"⟩
def RX1 : String := "StraightFurrow$Deeds"
def TX1 : u_T := fun k => match k with
  | 0 => ("StraightFurrow$Deeds", "bodies", "[I", true)
  | 1 => ("StraightFurrow$Deeds", "ran", "I", false)
  | 2 => ("StraightFurrow$Deeds", "man", "I", false)
  | 3 => ("StraightFurrow$Deeds", "kind", "I", false)
  | _ => ("StraightFurrow$Deeds", "value", "I", false)
def tyX1 : Nat → FieldType := fun k => match k with
  | 0 => .array .int
  | 1 => .int
  | 2 => .int
  | 3 => .int
  | _ => .int
abbrev wsX10 : List Cond := u_ws RX1 TX1 5
theorem nmX1 : ∀ a, a < 5 → ∀ b, b < 5 → a ≠ b → (TX1 a).2.1 ≠ (TX1 b).2.1 := by decide +kernel
theorem tyX1_ok : ∀ k, k < 5 → parseFieldDescriptor (TX1 k).2.2.1 = some (tyX1 k) := by decide +kernel
abbrev cX1_init : ByteArray := prog_3_method_1_code
def yX1_init : MethodName := ⟨RX1, "<init>", "()V"⟩
abbrev cX1_forgets : ByteArray := prog_3_method_2_code
def yX1_forgets : MethodName := ⟨RX1, "forgets", "()V"⟩
abbrev cX1_bodyAt : ByteArray := prog_3_method_3_code
def yX1_bodyAt : MethodName := ⟨RX1, "bodyAt", "(I)I"⟩
abbrev cX1_acts : ByteArray := prog_3_method_4_code
def yX1_acts : MethodName := ⟨RX1, "acts", "(LStraightFurrow$Land;III)I"⟩
abbrev cX1_runs : ByteArray := prog_3_method_5_code
def yX1_runs : MethodName := ⟨RX1, "runs", "(IIII)I"⟩
abbrev cX1_bodyOf : ByteArray := prog_3_method_6_code
def yX1_bodyOf : MethodName := ⟨RX1, "bodyOf", "(II)I"⟩
abbrev cX1_begins : ByteArray := prog_3_method_7_code
def yX1_begins : MethodName := ⟨RX1, "begins", "(I)V"⟩
def RX2 : String := "StraightFurrow$Land"
def TX2 : u_T := fun k => match k with
  | 0 => ("StraightFurrow$Land", "year", "I", false)
  | 1 => ("StraightFurrow$Land", "men", "I", false)
  | 2 => ("StraightFurrow$Land", "gone", "I", false)
  | 3 => ("StraightFurrow$Land", "believed", "I", false)
  | 4 => ("StraightFurrow$Land", "finds", "[I", true)
  | 5 => ("StraightFurrow$Land", "kinds", "[I", true)
  | 6 => ("StraightFurrow$Land", "values", "[I", true)
  | 7 => ("StraightFurrow$Land", "pegs", "[I", true)
  | 8 => ("StraightFurrow$Land", "wins", "[I", true)
  | _ => ("StraightFurrow$Land", "rows", "[I", true)
def tyX2 : Nat → FieldType := fun k => match k with
  | 0 => .int
  | 1 => .int
  | 2 => .int
  | 3 => .int
  | 4 => .array .int
  | 5 => .array .int
  | 6 => .array .int
  | 7 => .array .int
  | 8 => .array .int
  | _ => .array .int
abbrev wsX20 : List Cond := u_ws RX2 TX2 10
theorem nmX2 : ∀ a, a < 10 → ∀ b, b < 10 → a ≠ b → (TX2 a).2.1 ≠ (TX2 b).2.1 := by decide +kernel
theorem tyX2_ok : ∀ k, k < 10 → parseFieldDescriptor (TX2 k).2.2.1 = some (tyX2 k) := by decide +kernel
abbrev cX2_init : ByteArray := prog_4_method_1_code
def yX2_init : MethodName := ⟨RX2, "<init>", "()V"⟩
abbrev cX2_has : ByteArray := prog_4_method_2_code
def yX2_has : MethodName := ⟨RX2, "has", "(I)Z"⟩
abbrev cX2_adds : ByteArray := prog_4_method_3_code
def yX2_adds : MethodName := ⟨RX2, "adds", "(III)I"⟩
abbrev cX2_goesAway : ByteArray := prog_4_method_4_code
def yX2_goesAway : MethodName := ⟨RX2, "goesAway", "(IZ)V"⟩
abbrev cX2_winsOfAll : ByteArray := prog_4_method_5_code
def yX2_winsOfAll : MethodName := ⟨RX2, "winsOfAll", "()I"⟩
abbrev cX2_takes : ByteArray := prog_4_method_6_code
def yX2_takes : MethodName := ⟨RX2, "takes", "(LStraightFurrow$Land;)V"⟩
def RX3 : String := "StraightFurrow$Parish"
def TX3 : u_T := fun k => match k with
  | 0 => ("StraightFurrow$Parish", "ops", "[I", true)
  | 1 => ("StraightFurrow$Parish", "numbers", "[I", true)
  | 2 => ("StraightFurrow$Parish", "size", "I", false)
  | _ => ("StraightFurrow$Parish", "mark", "I", false)
def tyX3 : Nat → FieldType := fun k => match k with
  | 0 => .array .int
  | 1 => .array .int
  | 2 => .int
  | _ => .int
abbrev wsX30 : List Cond := u_ws RX3 TX3 4
theorem nmX3 : ∀ a, a < 4 → ∀ b, b < 4 → a ≠ b → (TX3 a).2.1 ≠ (TX3 b).2.1 := by decide +kernel
theorem tyX3_ok : ∀ k, k < 4 → parseFieldDescriptor (TX3 k).2.2.1 = some (tyX3 k) := by decide +kernel
abbrev cX3_init : ByteArray := prog_5_method_1_code
def yX3_init : MethodName := ⟨RX3, "<init>", "()V"⟩
abbrev cX3_empties : ByteArray := prog_5_method_2_code
def yX3_empties : MethodName := ⟨RX3, "empties", "()V"⟩
abbrev cX3_adds : ByteArray := prog_5_method_3_code
def yX3_adds : MethodName := ⟨RX3, "adds", "(II)V"⟩
abbrev cX3_drift : ByteArray := prog_5_method_4_code
def yX3_drift : MethodName := ⟨RX3, "drift", "([I)I"⟩
abbrev cX3_takes : ByteArray := prog_5_method_5_code
def yX3_takes : MethodName := ⟨RX3, "takes", "(LStraightFurrow$Parish;)V"⟩
def RX4 : String := "StraightFurrow$Plough"
def TX4 : u_T := fun k => match k with
  | 0 => ("StraightFurrow$Plough", "land", "LStraightFurrow$Land;", true)
  | 1 => ("StraightFurrow$Plough", "parish", "LStraightFurrow$Parish;", true)
  | 2 => ("StraightFurrow$Plough", "facts", "[I", true)
  | 3 => ("StraightFurrow$Plough", "scores", "[I", true)
  | 4 => ("StraightFurrow$Plough", "lanes", "[I", true)
  | 5 => ("StraightFurrow$Plough", "off", "I", false)
  | _ => ("StraightFurrow$Plough", "bends", "I", false)
def tyX4 : Nat → FieldType := fun k => match k with
  | 0 => .object "StraightFurrow$Land"
  | 1 => .object "StraightFurrow$Parish"
  | 2 => .array .int
  | 3 => .array .int
  | 4 => .array .int
  | 5 => .int
  | _ => .int
abbrev wsX40 : List Cond := u_ws RX4 TX4 7
theorem nmX4 : ∀ a, a < 7 → ∀ b, b < 7 → a ≠ b → (TX4 a).2.1 ≠ (TX4 b).2.1 := by decide +kernel
theorem tyX4_ok : ∀ k, k < 7 → parseFieldDescriptor (TX4 k).2.2.1 = some (tyX4 k) := by decide +kernel
abbrev cX4_init : ByteArray := prog_6_method_1_code
def yX4_init : MethodName := ⟨RX4, "<init>", "(LStraightFurrow$Land;LStraightFurrow$Parish;)V"⟩
abbrev cX4_strayed : ByteArray := prog_6_method_2_code
def yX4_strayed : MethodName := ⟨RX4, "strayed", "(III)I"⟩
abbrev cX4_moved : ByteArray := prog_6_method_3_code
def yX4_moved : MethodName := ⟨RX4, "moved", "(III)I"⟩
abbrev cX4_goes : ByteArray := prog_6_method_4_code
def yX4_goes : MethodName := ⟨RX4, "goes", "(II)I"⟩
abbrev cX4_laneAt : ByteArray := prog_6_method_5_code
def yX4_laneAt : MethodName := ⟨RX4, "laneAt", "(I)I"⟩
abbrev cX4_span : ByteArray := prog_6_method_6_code
def yX4_span : MethodName := ⟨RX4, "span", "()I"⟩
abbrev cX4_score : ByteArray := prog_6_method_7_code
def yX4_score : MethodName := ⟨RX4, "score", "()I"⟩
abbrev cX4_pegScore : ByteArray := prog_6_method_8_code
def yX4_pegScore : MethodName := ⟨RX4, "pegScore", "(I)I"⟩
abbrev cX4_scoresAll : ByteArray := prog_6_method_9_code
def yX4_scoresAll : MethodName := ⟨RX4, "scoresAll", "()V"⟩
abbrev cX4_whoHas : ByteArray := prog_6_method_10_code
def yX4_whoHas : MethodName := ⟨RX4, "whoHas", "(I)I"⟩
abbrev cX4_bestOfAll : ByteArray := prog_6_method_11_code
def yX4_bestOfAll : MethodName := ⟨RX4, "bestOfAll", "()I"⟩
abbrev cX4_yearsGo : ByteArray := prog_6_method_12_code
def yX4_yearsGo : MethodName := ⟨RX4, "yearsGo", "(II)V"⟩
def RX5 : String := "StraightFurrow$Reader"
def TX5 : u_T := fun k => match k with
  | 0 => ("StraightFurrow$Reader", "made", "LStraightFurrow$Parish;", true)
  | 1 => ("StraightFurrow$Reader", "tape", "LStraightFurrow$Rows;", true)
  | 2 => ("StraightFurrow$Reader", "at", "I", false)
  | 3 => ("StraightFurrow$Reader", "next", "I", false)
  | _ => ("StraightFurrow$Reader", "number", "I", false)
def tyX5 : Nat → FieldType := fun k => match k with
  | 0 => .object "StraightFurrow$Parish"
  | 1 => .object "StraightFurrow$Rows"
  | 2 => .int
  | 3 => .int
  | _ => .int
abbrev wsX50 : List Cond := u_ws RX5 TX5 5
theorem nmX5 : ∀ a, a < 5 → ∀ b, b < 5 → a ≠ b → (TX5 a).2.1 ≠ (TX5 b).2.1 := by decide +kernel
theorem tyX5_ok : ∀ k, k < 5 → parseFieldDescriptor (TX5 k).2.2.1 = some (tyX5 k) := by decide +kernel
abbrev cX5_init : ByteArray := prog_7_method_1_code
def yX5_init : MethodName := ⟨RX5, "<init>", "(LStraightFurrow$Rows;)V"⟩
abbrev cX5_faultOfTape : ByteArray := prog_7_method_2_code
def yX5_faultOfTape : MethodName := ⟨RX5, "faultOfTape", "()I"⟩
abbrev cX5_heads : ByteArray := prog_7_method_3_code
def yX5_heads : MethodName := ⟨RX5, "heads", "(Ljava/lang/String;)Z"⟩
abbrev cX5_either : ByteArray := prog_7_method_4_code
def yX5_either : MethodName := ⟨RX5, "either", "(I)Z"⟩
abbrev cX5_both : ByteArray := prog_7_method_5_code
def yX5_both : MethodName := ⟨RX5, "both", "(I)Z"⟩
abbrev cX5_factor : ByteArray := prog_7_method_6_code
def yX5_factor : MethodName := ⟨RX5, "factor", "(I)Z"⟩
abbrev cX5_test : ByteArray := prog_7_method_7_code
def yX5_test : MethodName := ⟨RX5, "test", "()Z"⟩
abbrev cX5_readsNumber : ByteArray := prog_7_method_8_code
def yX5_readsNumber : MethodName := ⟨RX5, "readsNumber", "()Z"⟩
abbrev cX5_eats : ByteArray := prog_7_method_9_code
def yX5_eats : MethodName := ⟨RX5, "eats", "(I)Z"⟩
abbrev cX5_eatsOneOf : ByteArray := prog_7_method_10_code
def yX5_eatsOneOf : MethodName := ⟨RX5, "eatsOneOf", "(Ljava/lang/String;)I"⟩
abbrev cX5_goesOn : ByteArray := prog_7_method_11_code
def yX5_goesOn : MethodName := ⟨RX5, "goesOn", "()V"⟩
def RX6 : String := "StraightFurrow$Rows"
def TX6 : u_T := fun k => match k with
  | 0 => ("StraightFurrow$Rows", "width", "I", true)
  | 1 => ("StraightFurrow$Rows", "cells", "[I", true)
  | _ => ("StraightFurrow$Rows", "size", "I", false)
def tyX6 : Nat → FieldType := fun k => match k with
  | 0 => .int
  | 1 => .array .int
  | _ => .int
abbrev wsX60 : List Cond := u_ws RX6 TX6 3
theorem nmX6 : ∀ a, a < 3 → ∀ b, b < 3 → a ≠ b → (TX6 a).2.1 ≠ (TX6 b).2.1 := by decide +kernel
theorem tyX6_ok : ∀ k, k < 3 → parseFieldDescriptor (TX6 k).2.2.1 = some (tyX6 k) := by decide +kernel
abbrev cX6_init : ByteArray := prog_8_method_1_code
def yX6_init : MethodName := ⟨RX6, "<init>", "(II)V"⟩
abbrev cX6_adds : ByteArray := prog_8_method_2_code
def yX6_adds : MethodName := ⟨RX6, "adds", "(III)I"⟩
abbrev cX6_at : ByteArray := prog_8_method_3_code
def yX6_at : MethodName := ⟨RX6, "at", "(II)I"⟩
abbrev cX6_empties : ByteArray := prog_8_method_4_code
def yX6_empties : MethodName := ⟨RX6, "empties", "()I"⟩
abbrev cX6_takes : ByteArray := prog_8_method_5_code
def yX6_takes : MethodName := ⟨RX6, "takes", "(LStraightFurrow$Rows;)V"⟩
def RX7 : String := "StraightFurrow$State"
def TX7 : u_T := fun k => match k with
  | 0 => ("StraightFurrow$State", "land", "LStraightFurrow$Land;", true)
  | 1 => ("StraightFurrow$State", "parish", "LStraightFurrow$Parish;", true)
  | 2 => ("StraightFurrow$State", "tape", "LStraightFurrow$Rows;", true)
  | 3 => ("StraightFurrow$State", "cases", "LStraightFurrow$Rows;", true)
  | 4 => ("StraightFurrow$State", "seen", "LStraightFurrow$Rows;", true)
  | 5 => ("StraightFurrow$State", "plans", "LStraightFurrow$Rows;", true)
  | 6 => ("StraightFurrow$State", "books", "LStraightFurrow$Rows;", true)
  | _ => ("StraightFurrow$State", "parishes", "I", false)
def tyX7 : Nat → FieldType := fun k => match k with
  | 0 => .object "StraightFurrow$Land"
  | 1 => .object "StraightFurrow$Parish"
  | 2 => .object "StraightFurrow$Rows"
  | 3 => .object "StraightFurrow$Rows"
  | 4 => .object "StraightFurrow$Rows"
  | 5 => .object "StraightFurrow$Rows"
  | 6 => .object "StraightFurrow$Rows"
  | _ => .int
abbrev wsX70 : List Cond := u_ws RX7 TX7 8
theorem nmX7 : ∀ a, a < 8 → ∀ b, b < 8 → a ≠ b → (TX7 a).2.1 ≠ (TX7 b).2.1 := by decide +kernel
theorem tyX7_ok : ∀ k, k < 8 → parseFieldDescriptor (TX7 k).2.2.1 = some (tyX7 k) := by decide +kernel
abbrev cX7_init : ByteArray := prog_9_method_1_code
def yX7_init : MethodName := ⟨RX7, "<init>", "()V"⟩
abbrev cX7_takes : ByteArray := prog_9_method_2_code
def yX7_takes : MethodName := ⟨RX7, "takes", "(LStraightFurrow$State;)V"⟩
def RX8 : String := "StraightFurrow"
def TX8 : u_T := fun k => match k with
  | 0 => ("StraightFurrow", "now", "LStraightFurrow$State;", true)
  | 1 => ("StraightFurrow", "kept", "LStraightFurrow$State;", true)
  | 2 => ("StraightFurrow", "hasImage", "Z", false)
  | 3 => ("StraightFurrow", "land", "LStraightFurrow$Land;", true)
  | 4 => ("StraightFurrow", "plough", "LStraightFurrow$Plough;", true)
  | 5 => ("StraightFurrow", "ifs", "LStraightFurrow$Land;", true)
  | 6 => ("StraightFurrow", "tried", "LStraightFurrow$Plough;", true)
  | 7 => ("StraightFurrow", "clearing", "LStraightFurrow$Clearing;", true)
  | 8 => ("StraightFurrow", "reader", "LStraightFurrow$Reader;", true)
  | _ => ("StraightFurrow", "deeds", "LStraightFurrow$Deeds;", true)
def tyX8 : Nat → FieldType := fun k => match k with
  | 0 => .object "StraightFurrow$State"
  | 1 => .object "StraightFurrow$State"
  | 2 => .boolean
  | 3 => .object "StraightFurrow$Land"
  | 4 => .object "StraightFurrow$Plough"
  | 5 => .object "StraightFurrow$Land"
  | 6 => .object "StraightFurrow$Plough"
  | 7 => .object "StraightFurrow$Clearing"
  | 8 => .object "StraightFurrow$Reader"
  | _ => .object "StraightFurrow$Deeds"
abbrev wsX80 : List Cond := u_ws RX8 TX8 10
theorem nmX8 : ∀ a, a < 10 → ∀ b, b < 10 → a ≠ b → (TX8 a).2.1 ≠ (TX8 b).2.1 := by decide +kernel
theorem tyX8_ok : ∀ k, k < 10 → parseFieldDescriptor (TX8 k).2.2.1 = some (tyX8 k) := by decide +kernel
abbrev cX8_init : ByteArray := prog_1_method_1_code
def yX8_init : MethodName := ⟨RX8, "<init>", "()V"⟩
abbrev cX8_feed : ByteArray := prog_1_method_2_code
def yX8_feed : MethodName := ⟨RX8, "feed", "(I)I"⟩
abbrev cX8_parish : ByteArray := prog_1_method_3_code
def yX8_parish : MethodName := ⟨RX8, "parish", "()I"⟩
abbrev cX8_man : ByteArray := prog_1_method_4_code
def yX8_man : MethodName := ⟨RX8, "man", "(III)I"⟩
abbrev cX8_of : ByteArray := prog_1_method_5_code
def yX8_of : MethodName := ⟨RX8, "of", "(II)I"⟩
abbrev cX8_row : ByteArray := prog_1_method_6_code
def yX8_row : MethodName := ⟨RX8, "row", "(III)I"⟩
abbrev cX8_peg : ByteArray := prog_1_method_7_code
def yX8_peg : MethodName := ⟨RX8, "peg", "(II)I"⟩
abbrev cX8_away : ByteArray := prog_1_method_8_code
def yX8_away : MethodName := ⟨RX8, "away", "(IZ)I"⟩
abbrev cX8_lay : ByteArray := prog_1_method_9_code
def yX8_lay : MethodName := ⟨RX8, "lay", "(II)I"⟩
abbrev cX8_plead : ByteArray := prog_1_method_10_code
def yX8_plead : MethodName := ⟨RX8, "plead", "(II)I"⟩
abbrev cX8_told : ByteArray := prog_1_method_11_code
def yX8_told : MethodName := ⟨RX8, "told", "(I)I"⟩
abbrev cX8_pass : ByteArray := prog_1_method_12_code
def yX8_pass : MethodName := ⟨RX8, "pass", "(I)I"⟩
abbrev cX8_line : ByteArray := prog_1_method_13_code
def yX8_line : MethodName := ⟨RX8, "line", "(III)I"⟩
abbrev cX8_strays : ByteArray := prog_1_method_14_code
def yX8_strays : MethodName := ⟨RX8, "strays", "(III)I"⟩
abbrev cX8_on : ByteArray := prog_1_method_15_code
def yX8_on : MethodName := ⟨RX8, "on", "(II)I"⟩
abbrev cX8_when : ByteArray := prog_1_method_16_code
def yX8_when : MethodName := ⟨RX8, "when", "(I)I"⟩
abbrev cX8_start : ByteArray := prog_1_method_17_code
def yX8_start : MethodName := ⟨RX8, "start", "(I)I"⟩
abbrev cX8_waver : ByteArray := prog_1_method_18_code
def yX8_waver : MethodName := ⟨RX8, "waver", "(II)I"⟩
abbrev cX8_clear : ByteArray := prog_1_method_19_code
def yX8_clear : MethodName := ⟨RX8, "clear", "(I)I"⟩
abbrev cX8_bar : ByteArray := prog_1_method_20_code
def yX8_bar : MethodName := ⟨RX8, "bar", "(I)I"⟩
abbrev cX8_see : ByteArray := prog_1_method_21_code
def yX8_see : MethodName := ⟨RX8, "see", "(III)I"⟩
abbrev cX8_from : ByteArray := prog_1_method_22_code
def yX8_from : MethodName := ⟨RX8, "from", "(I)I"⟩
abbrev cX8_firm : ByteArray := prog_1_method_23_code
def yX8_firm : MethodName := ⟨RX8, "firm", "(II)I"⟩
abbrev cX8_odds : ByteArray := prog_1_method_24_code
def yX8_odds : MethodName := ⟨RX8, "odds", "(III)J"⟩
abbrev cX8_mean : ByteArray := prog_1_method_25_code
def yX8_mean : MethodName := ⟨RX8, "mean", "(I)J"⟩
abbrev cX8_plan : ByteArray := prog_1_method_26_code
def yX8_plan : MethodName := ⟨RX8, "plan", "(II)I"⟩
abbrev cX8_done : ByteArray := prog_1_method_27_code
def yX8_done : MethodName := ⟨RX8, "done", "(I)I"⟩
abbrev cX8_book : ByteArray := prog_1_method_28_code
def yX8_book : MethodName := ⟨RX8, "book", "(II)I"⟩
abbrev cX8_looked : ByteArray := prog_1_method_29_code
def yX8_looked : MethodName := ⟨RX8, "looked", "()I"⟩
abbrev cX8_act : ByteArray := prog_1_method_30_code
def yX8_act : MethodName := ⟨RX8, "act", "(III)I"⟩
abbrev cX8_trace : ByteArray := prog_1_method_31_code
def yX8_trace : MethodName := ⟨RX8, "trace", "(I)I"⟩
abbrev cX8_as : ByteArray := prog_1_method_32_code
def yX8_as : MethodName := ⟨RX8, "as", "(II)I"⟩
abbrev cX8_image : ByteArray := prog_1_method_33_code
def yX8_image : MethodName := ⟨RX8, "image", "()I"⟩
abbrev cX8_undo : ByteArray := prog_1_method_34_code
def yX8_undo : MethodName := ⟨RX8, "undo", "()I"⟩
abbrev cX8_count : ByteArray := prog_1_method_35_code
def yX8_count : MethodName := ⟨RX8, "count", "(I)I"⟩
abbrev cX8_winner : ByteArray := prog_1_method_36_code
def yX8_winner : MethodName := ⟨RX8, "winner", "()I"⟩
abbrev cX8_decided : ByteArray := prog_1_method_37_code
def yX8_decided : MethodName := ⟨RX8, "decided", "(II)I"⟩
abbrev cX8_scoreIfLaid : ByteArray := prog_1_method_38_code
def yX8_scoreIfLaid : MethodName := ⟨RX8, "scoreIfLaid", "(III)I"⟩
abbrev cX8_isAsSeen : ByteArray := prog_1_method_39_code
def yX8_isAsSeen : MethodName := ⟨RX8, "isAsSeen", "(LStraightFurrow$Plough;I)Z"⟩
abbrev cX8_isKind : ByteArray := prog_1_method_40_code
def yX8_isKind : MethodName := ⟨RX8, "isKind", "(I)Z"⟩
abbrev cX8_isStep : ByteArray := prog_1_method_41_code
def yX8_isStep : MethodName := ⟨RX8, "isStep", "(I)Z"⟩
abbrev cX8_isLane : ByteArray := prog_1_method_42_code
def yX8_isLane : MethodName := ⟨RX8, "isLane", "(I)Z"⟩
abbrev cX8_isDigit : ByteArray := prog_1_method_43_code
def yX8_isDigit : MethodName := ⟨RX8, "isDigit", "(I)Z"⟩
abbrev cX8_isFind : ByteArray := prog_1_method_44_code
def yX8_isFind : MethodName := ⟨RX8, "isFind", "(I)Z"⟩
abbrev cX8_isPart : ByteArray := prog_1_method_45_code
def yX8_isPart : MethodName := ⟨RX8, "isPart", "(I)Z"⟩
abbrev cX8_bit : ByteArray := prog_1_method_46_code
def yX8_bit : MethodName := ⟨RX8, "bit", "(II)I"⟩
abbrev cX8_isUnder : ByteArray := prog_1_method_47_code
def yX8_isUnder : MethodName := ⟨RX8, "isUnder", "(II)Z"⟩
abbrev cX8_partOf : ByteArray := prog_1_method_48_code
def yX8_partOf : MethodName := ⟨RX8, "partOf", "(III)J"⟩
abbrev cX8_commonOf : ByteArray := prog_1_method_49_code
def yX8_commonOf : MethodName := ⟨RX8, "commonOf", "(II)I"⟩
def RX9 : String := "StraightFurrowModel"
def TX9 : u_T := fun k => match k with
  | 0 => ("StraightFurrowModel", "thrown", "I", false)
  | 1 => ("StraightFurrowModel", "s", "[I", true)
  | 2 => ("StraightFurrowModel", "image", "[I", true)
  | 3 => ("StraightFurrowModel", "frame", "[I", true)
  | 4 => ("StraightFurrowModel", "hasImage", "Z", false)
  | 5 => ("StraightFurrowModel", "act", "I", false)
  | 6 => ("StraightFurrowModel", "spot", "I", false)
  | 7 => ("StraightFurrowModel", "end", "I", false)
  | 8 => ("StraightFurrowModel", "isWrong", "Z", false)
  | 9 => ("StraightFurrowModel", "open", "I", false)
  | 10 => ("StraightFurrowModel", "by", "[I", true)
  | 11 => ("StraightFurrowModel", "truths", "[Z", true)
  | 12 => ("StraightFurrowModel", "lanes", "[I", true)
  | 13 => ("StraightFurrowModel", "off", "I", false)
  | 14 => ("StraightFurrowModel", "bends", "I", false)
  | 15 => ("StraightFurrowModel", "with", "[I", true)
  | 16 => ("StraightFurrowModel", "without", "[I", true)
  | 17 => ("StraightFurrowModel", "bodies", "[I", true)
  | 18 => ("StraightFurrowModel", "ran", "I", false)
  | 19 => ("StraightFurrowModel", "kind", "I", false)
  | 20 => ("StraightFurrowModel", "number", "I", false)
  | _ => ("StraightFurrowModel", "tellsV", "I", false)
def tyX9 : Nat → FieldType := fun k => match k with
  | 0 => .int
  | 1 => .array .int
  | 2 => .array .int
  | 3 => .array .int
  | 4 => .boolean
  | 5 => .int
  | 6 => .int
  | 7 => .int
  | 8 => .boolean
  | 9 => .int
  | 10 => .array .int
  | 11 => .array .boolean
  | 12 => .array .int
  | 13 => .int
  | 14 => .int
  | 15 => .array .int
  | 16 => .array .int
  | 17 => .array .int
  | 18 => .int
  | 19 => .int
  | 20 => .int
  | _ => .int
abbrev wsX90 : List Cond := u_ws RX9 TX9 22
theorem nmX9 : ∀ a, a < 22 → ∀ b, b < 22 → a ≠ b → (TX9 a).2.1 ≠ (TX9 b).2.1 := by decide +kernel
theorem tyX9_ok : ∀ k, k < 22 → parseFieldDescriptor (TX9 k).2.2.1 = some (tyX9 k) := by decide +kernel
abbrev cX9_init : ByteArray := prog_11_method_1_code
def yX9_init : MethodName := ⟨RX9, "<init>", "()V"⟩
abbrev cX9_in : ByteArray := prog_11_method_3_code
def yX9_in : MethodName := ⟨RX9, "in", "(III)Z"⟩
abbrev cX9_isLane : ByteArray := prog_11_method_4_code
def yX9_isLane : MethodName := ⟨RX9, "isLane", "(I)Z"⟩
abbrev cX9_isStep : ByteArray := prog_11_method_5_code
def yX9_isStep : MethodName := ⟨RX9, "isStep", "(I)Z"⟩
abbrev cX9_isMan : ByteArray := prog_11_method_6_code
def yX9_isMan : MethodName := ⟨RX9, "isMan", "(I)Z"⟩
abbrev cX9_isCase : ByteArray := prog_11_method_7_code
def yX9_isCase : MethodName := ⟨RX9, "isCase", "(I)Z"⟩
abbrev cX9_keeps : ByteArray := prog_11_method_8_code
def yX9_keeps : MethodName := ⟨RX9, "keeps", "()V"⟩
abbrev cX9_goesBack : ByteArray := prog_11_method_9_code
def yX9_goesBack : MethodName := ⟨RX9, "goesBack", "()V"⟩
abbrev cX9_feed : ByteArray := prog_11_method_10_code
def yX9_feed : MethodName := ⟨RX9, "feed", "(I)I"⟩
abbrev cX9_here : ByteArray := prog_11_method_11_code
def yX9_here : MethodName := ⟨RX9, "here", "()I"⟩
abbrev cX9_must : ByteArray := prog_11_method_12_code
def yX9_must : MethodName := ⟨RX9, "must", "(I)V"⟩
abbrev cX9_spells : ByteArray := prog_11_method_13_code
def yX9_spells : MethodName := ⟨RX9, "spells", "(Ljava/lang/String;)V"⟩
abbrev cX9_figures : ByteArray := prog_11_method_14_code
def yX9_figures : MethodName := ⟨RX9, "figures", "()I"⟩
abbrev cX9_among : ByteArray := prog_11_method_15_code
def yX9_among : MethodName := ⟨RX9, "among", "(Ljava/lang/String;)I"⟩
abbrev cX9_emits : ByteArray := prog_11_method_16_code
def yX9_emits : MethodName := ⟨RX9, "emits", "(I)V"⟩
abbrev cX9_factor : ByteArray := prog_11_method_17_code
def yX9_factor : MethodName := ⟨RX9, "factor", "()V"⟩
abbrev cX9_every : ByteArray := prog_11_method_18_code
def yX9_every : MethodName := ⟨RX9, "every", "()V"⟩
abbrev cX9_some : ByteArray := prog_11_method_19_code
def yX9_some : MethodName := ⟨RX9, "some", "()V"⟩
abbrev cX9_much : ByteArray := prog_11_method_20_code
def yX9_much : MethodName := ⟨RX9, "much", "(ILjava/lang/String;)V"⟩
abbrev cX9_tellsHere : ByteArray := prog_11_method_21_code
def yX9_tellsHere : MethodName := ⟨RX9, "tellsHere", "(ILjava/lang/String;)V"⟩
abbrev cX9_clauseHere : ByteArray := prog_11_method_22_code
def yX9_clauseHere : MethodName := ⟨RX9, "clauseHere", "()V"⟩
abbrev cX9_parish : ByteArray := prog_11_method_23_code
def yX9_parish : MethodName := ⟨RX9, "parish", "()I"⟩
abbrev cX9_tellsOf : ByteArray := prog_11_method_24_code
def yX9_tellsOf : MethodName := ⟨RX9, "tellsOf", "(II)I"⟩
abbrev cX9_driftOf : ByteArray := prog_11_method_25_code
def yX9_driftOf : MethodName := ⟨RX9, "driftOf", "(IIII)I"⟩
abbrev cX9_straysBy : ByteArray := prog_11_method_26_code
def yX9_straysBy : MethodName := ⟨RX9, "straysBy", "(IIII)I"⟩
abbrev cX9_went : ByteArray := prog_11_method_27_code
def yX9_went : MethodName := ⟨RX9, "went", "(II)I"⟩
abbrev cX9_countsLine : ByteArray := prog_11_method_28_code
def yX9_countsLine : MethodName := ⟨RX9, "countsLine", "()V"⟩
abbrev cX9_span : ByteArray := prog_11_method_29_code
def yX9_span : MethodName := ⟨RX9, "span", "()I"⟩
abbrev cX9_scoreFrom : ByteArray := prog_11_method_30_code
def yX9_scoreFrom : MethodName := ⟨RX9, "scoreFrom", "(II)I"⟩
abbrev cX9_scoreOf : ByteArray := prog_11_method_31_code
def yX9_scoreOf : MethodName := ⟨RX9, "scoreOf", "(I)I"⟩
abbrev cX9_bestOne : ByteArray := prog_11_method_32_code
def yX9_bestOne : MethodName := ⟨RX9, "bestOne", "()I"⟩
abbrev cX9_becomes : ByteArray := prog_11_method_33_code
def yX9_becomes : MethodName := ⟨RX9, "becomes", "(II)I"⟩
abbrev cX9_man : ByteArray := prog_11_method_34_code
def yX9_man : MethodName := ⟨RX9, "man", "(III)I"⟩
abbrev cX9_of : ByteArray := prog_11_method_35_code
def yX9_of : MethodName := ⟨RX9, "of", "(II)I"⟩
abbrev cX9_row : ByteArray := prog_11_method_36_code
def yX9_row : MethodName := ⟨RX9, "row", "(III)I"⟩
abbrev cX9_peg : ByteArray := prog_11_method_37_code
def yX9_peg : MethodName := ⟨RX9, "peg", "(II)I"⟩
abbrev cX9_away : ByteArray := prog_11_method_38_code
def yX9_away : MethodName := ⟨RX9, "away", "(IZ)I"⟩
abbrev cX9_lay : ByteArray := prog_11_method_39_code
def yX9_lay : MethodName := ⟨RX9, "lay", "(II)I"⟩
abbrev cX9_plead : ByteArray := prog_11_method_40_code
def yX9_plead : MethodName := ⟨RX9, "plead", "(II)I"⟩
abbrev cX9_decided : ByteArray := prog_11_method_41_code
def yX9_decided : MethodName := ⟨RX9, "decided", "(I)I"⟩
abbrev cX9_bitsOf : ByteArray := prog_11_method_42_code
def yX9_bitsOf : MethodName := ⟨RX9, "bitsOf", "(I)I"⟩
abbrev cX9_told : ByteArray := prog_11_method_43_code
def yX9_told : MethodName := ⟨RX9, "told", "(I)I"⟩
abbrev cX9_goes : ByteArray := prog_11_method_44_code
def yX9_goes : MethodName := ⟨RX9, "goes", "()V"⟩
abbrev cX9_goesOn : ByteArray := prog_11_method_45_code
def yX9_goesOn : MethodName := ⟨RX9, "goesOn", "(I)V"⟩
abbrev cX9_pass : ByteArray := prog_11_method_46_code
def yX9_pass : MethodName := ⟨RX9, "pass", "(I)I"⟩
abbrev cX9_line : ByteArray := prog_11_method_47_code
def yX9_line : MethodName := ⟨RX9, "line", "(III)I"⟩
abbrev cX9_strays : ByteArray := prog_11_method_48_code
def yX9_strays : MethodName := ⟨RX9, "strays", "(III)I"⟩
abbrev cX9_on : ByteArray := prog_11_method_49_code
def yX9_on : MethodName := ⟨RX9, "on", "(II)I"⟩
abbrev cX9_when : ByteArray := prog_11_method_50_code
def yX9_when : MethodName := ⟨RX9, "when", "(I)I"⟩
abbrev cX9_start : ByteArray := prog_11_method_51_code
def yX9_start : MethodName := ⟨RX9, "start", "(I)I"⟩
abbrev cX9_scoreLaying : ByteArray := prog_11_method_52_code
def yX9_scoreLaying : MethodName := ⟨RX9, "scoreLaying", "(III)I"⟩
abbrev cX9_waver : ByteArray := prog_11_method_53_code
def yX9_waver : MethodName := ⟨RX9, "waver", "(II)I"⟩
abbrev cX9_scoreClearing : ByteArray := prog_11_method_54_code
def yX9_scoreClearing : MethodName := ⟨RX9, "scoreClearing", "(II)I"⟩
abbrev cX9_countOf : ByteArray := prog_11_method_55_code
def yX9_countOf : MethodName := ⟨RX9, "countOf", "(I)I"⟩
abbrev cX9_clear : ByteArray := prog_11_method_56_code
def yX9_clear : MethodName := ⟨RX9, "clear", "(I)I"⟩
abbrev cX9_bar : ByteArray := prog_11_method_57_code
def yX9_bar : MethodName := ⟨RX9, "bar", "(I)I"⟩
abbrev cX9_see : ByteArray := prog_11_method_58_code
def yX9_see : MethodName := ⟨RX9, "see", "(III)I"⟩
abbrev cX9_isAsSeen : ByteArray := prog_11_method_59_code
def yX9_isAsSeen : MethodName := ⟨RX9, "isAsSeen", "(II)Z"⟩
abbrev cX9_from : ByteArray := prog_11_method_60_code
def yX9_from : MethodName := ⟨RX9, "from", "(I)I"⟩
abbrev cX9_firm : ByteArray := prog_11_method_61_code
def yX9_firm : MethodName := ⟨RX9, "firm", "(II)I"⟩
abbrev cX9_lowest : ByteArray := prog_11_method_62_code
def yX9_lowest : MethodName := ⟨RX9, "lowest", "(JJI)J"⟩
abbrev cX9_odds : ByteArray := prog_11_method_63_code
def yX9_odds : MethodName := ⟨RX9, "odds", "(III)J"⟩
abbrev cX9_mean : ByteArray := prog_11_method_64_code
def yX9_mean : MethodName := ⟨RX9, "mean", "(I)J"⟩
abbrev cX9_plan : ByteArray := prog_11_method_65_code
def yX9_plan : MethodName := ⟨RX9, "plan", "(II)I"⟩
abbrev cX9_goesBy : ByteArray := prog_11_method_66_code
def yX9_goesBy : MethodName := ⟨RX9, "goesBy", "(II)V"⟩
abbrev cX9_done : ByteArray := prog_11_method_67_code
def yX9_done : MethodName := ⟨RX9, "done", "(I)I"⟩
abbrev cX9_book : ByteArray := prog_11_method_68_code
def yX9_book : MethodName := ⟨RX9, "book", "(II)I"⟩
abbrev cX9_looked : ByteArray := prog_11_method_69_code
def yX9_looked : MethodName := ⟨RX9, "looked", "()I"⟩
abbrev cX9_ranBody : ByteArray := prog_11_method_70_code
def yX9_ranBody : MethodName := ⟨RX9, "ranBody", "(I)V"⟩
abbrev cX9_isUnder : ByteArray := prog_11_method_71_code
def yX9_isUnder : MethodName := ⟨RX9, "isUnder", "(II)Z"⟩
abbrev cX9_plainPloughs : ByteArray := prog_11_method_72_code
def yX9_plainPloughs : MethodName := ⟨RX9, "plainPloughs", "(I)I"⟩
abbrev cX9_ploughsActs : ByteArray := prog_11_method_73_code
def yX9_ploughsActs : MethodName := ⟨RX9, "ploughsActs", "(I)I"⟩
abbrev cX9_plainLooks : ByteArray := prog_11_method_74_code
def yX9_plainLooks : MethodName := ⟨RX9, "plainLooks", "(I)I"⟩
abbrev cX9_looksActs : ByteArray := prog_11_method_75_code
def yX9_looksActs : MethodName := ⟨RX9, "looksActs", "(I)I"⟩
abbrev cX9_plainTelling : ByteArray := prog_11_method_76_code
def yX9_plainTelling : MethodName := ⟨RX9, "plainTelling", "(I)I"⟩
abbrev cX9_swearsActs : ByteArray := prog_11_method_77_code
def yX9_swearsActs : MethodName := ⟨RX9, "swearsActs", "(I)I"⟩
abbrev cX9_act : ByteArray := prog_11_method_78_code
def yX9_act : MethodName := ⟨RX9, "act", "(III)I"⟩
abbrev cX9_trace : ByteArray := prog_11_method_79_code
def yX9_trace : MethodName := ⟨RX9, "trace", "(I)I"⟩
abbrev cX9_as : ByteArray := prog_11_method_80_code
def yX9_as : MethodName := ⟨RX9, "as", "(II)I"⟩
abbrev cX9_image : ByteArray := prog_11_method_81_code
def yX9_image : MethodName := ⟨RX9, "image", "()I"⟩
abbrev cX9_undo : ByteArray := prog_11_method_82_code
def yX9_undo : MethodName := ⟨RX9, "undo", "()I"⟩
abbrev cX9_count : ByteArray := prog_11_method_83_code
def yX9_count : MethodName := ⟨RX9, "count", "(I)I"⟩
def RJx145de : String := "java/io/Serializable"
def TJx145de : u_T := fun k => match k with
  | _ => ("", "", "", false)
def tyJx145de : Nat → FieldType := fun k => match k with
  | _ => .int
abbrev wsJx145de0 : List Cond := u_ws RJx145de TJx145de 0
theorem nmJx145de : ∀ a, a < 0 → ∀ b, b < 0 → a ≠ b → (TJx145de a).2.1 ≠ (TJx145de b).2.1 := by decide +kernel
theorem tyJx145de_ok : ∀ k, k < 0 → parseFieldDescriptor (TJx145de k).2.2.1 = some (tyJx145de k) := by decide +kernel
def RJx9f9b0 : String := "java/lang/CharSequence"
def TJx9f9b0 : u_T := fun k => match k with
  | _ => ("", "", "", false)
def tyJx9f9b0 : Nat → FieldType := fun k => match k with
  | _ => .int
abbrev wsJx9f9b00 : List Cond := u_ws RJx9f9b0 TJx9f9b0 0
theorem nmJx9f9b0 : ∀ a, a < 0 → ∀ b, b < 0 → a ≠ b → (TJx9f9b0 a).2.1 ≠ (TJx9f9b0 b).2.1 := by decide +kernel
theorem tyJx9f9b0_ok : ∀ k, k < 0 → parseFieldDescriptor (TJx9f9b0 k).2.2.1 = some (tyJx9f9b0 k) := by decide +kernel
def RJxb160c : String := "java/lang/Comparable"
def TJxb160c : u_T := fun k => match k with
  | _ => ("", "", "", false)
def tyJxb160c : Nat → FieldType := fun k => match k with
  | _ => .int
abbrev wsJxb160c0 : List Cond := u_ws RJxb160c TJxb160c 0
theorem nmJxb160c : ∀ a, a < 0 → ∀ b, b < 0 → a ≠ b → (TJxb160c a).2.1 ≠ (TJxb160c b).2.1 := by decide +kernel
theorem tyJxb160c_ok : ∀ k, k < 0 → parseFieldDescriptor (TJxb160c k).2.2.1 = some (tyJxb160c k) := by decide +kernel
def RJ6 : String := "java/lang/Integer"
def TJ6 : u_T := fun k => match k with
  | _ => ("", "", "", false)
def tyJ6 : Nat → FieldType := fun k => match k with
  | _ => .int
abbrev wsJ60 : List Cond := u_ws RJ6 TJ6 0
theorem nmJ6 : ∀ a, a < 0 → ∀ b, b < 0 → a ≠ b → (TJ6 a).2.1 ≠ (TJ6 b).2.1 := by decide +kernel
theorem tyJ6_ok : ∀ k, k < 0 → parseFieldDescriptor (TJ6 k).2.2.1 = some (tyJ6 k) := by decide +kernel
abbrev cJ6_bitCount_0f7a4 : ByteArray := prog_12_method_49_code
def yJ6_bitCount_0f7a4 : MethodName := ⟨RJ6, "bitCount", "(I)I"⟩
def RJ9 : String := "java/lang/Math"
def TJ9 : u_T := fun k => match k with
  | _ => ("", "", "", false)
def tyJ9 : Nat → FieldType := fun k => match k with
  | _ => .int
abbrev wsJ90 : List Cond := u_ws RJ9 TJ9 0
theorem nmJ9 : ∀ a, a < 0 → ∀ b, b < 0 → a ≠ b → (TJ9 a).2.1 ≠ (TJ9 b).2.1 := by decide +kernel
theorem tyJ9_ok : ∀ k, k < 0 → parseFieldDescriptor (TJ9 k).2.2.1 = some (tyJ9 k) := by decide +kernel
abbrev cJ9_abs_0f7a4 : ByteArray := prog_13_method_59_code
def yJ9_abs_0f7a4 : MethodName := ⟨RJ9, "abs", "(I)I"⟩
abbrev cJ9_max_7cf53 : ByteArray := prog_13_method_65_code
def yJ9_max_7cf53 : MethodName := ⟨RJ9, "max", "(II)I"⟩
abbrev cJ9_min_7cf53 : ByteArray := prog_13_method_69_code
def yJ9_min_7cf53 : MethodName := ⟨RJ9, "min", "(II)I"⟩
def RJ0 : String := "java/lang/String"
def TJ0 : u_T := fun k => match k with
  | _ => ("", "", "", false)
def tyJ0 : Nat → FieldType := fun k => match k with
  | _ => .int
abbrev wsJ00 : List Cond := u_ws RJ0 TJ0 0
theorem nmJ0 : ∀ a, a < 0 → ∀ b, b < 0 → a ≠ b → (TJ0 a).2.1 ≠ (TJ0 b).2.1 := by decide +kernel
theorem tyJ0_ok : ∀ k, k < 0 → parseFieldDescriptor (TJ0 k).2.2.1 = some (tyJ0 k) := by decide +kernel
abbrev cJ0_length_8abf5 : ByteArray := prog_14_method_54_code
def yJ0_length_8abf5 : MethodName := ⟨RJ0, "length", "()I"⟩
abbrev cJ0_charAt_5068e : ByteArray := prog_14_method_56_code
def yJ0_charAt_5068e : MethodName := ⟨RJ0, "charAt", "(I)C"⟩
abbrev cJ0_coder_7d493 : ByteArray := prog_14_method_152_code
def yJ0_coder_7d493 : MethodName := ⟨RJ0, "coder", "()B"⟩
abbrev cJ0_isLatin1_aae02 : ByteArray := prog_14_method_154_code
def yJ0_isLatin1_aae02 : MethodName := ⟨RJ0, "isLatin1", "()Z"⟩
abbrev cJ0_checkIndex_df160 : ByteArray := prog_14_method_155_code
def yJ0_checkIndex_df160 : MethodName := ⟨RJ0, "checkIndex", "(II)V"⟩
def RJ1 : String := "java/lang/StringLatin1"
def TJ1 : u_T := fun k => match k with
  | _ => ("", "", "", false)
def tyJ1 : Nat → FieldType := fun k => match k with
  | _ => .int
abbrev wsJ10 : List Cond := u_ws RJ1 TJ1 0
theorem nmJ1 : ∀ a, a < 0 → ∀ b, b < 0 → a ≠ b → (TJ1 a).2.1 ≠ (TJ1 b).2.1 := by decide +kernel
theorem tyJ1_ok : ∀ k, k < 0 → parseFieldDescriptor (TJ1 k).2.2.1 = some (tyJ1 k) := by decide +kernel
abbrev cJ1_charAt_3b067 : ByteArray := prog_15_method_2_code
def yJ1_charAt_3b067 : MethodName := ⟨RJ1, "charAt", "([BI)C"⟩
def RJ2 : String := "java/lang/StringUTF16"
def TJ2 : u_T := fun k => match k with
  | _ => ("", "", "", false)
def tyJ2 : Nat → FieldType := fun k => match k with
  | _ => .int
abbrev wsJ20 : List Cond := u_ws RJ2 TJ2 0
theorem nmJ2 : ∀ a, a < 0 → ∀ b, b < 0 → a ≠ b → (TJ2 a).2.1 ≠ (TJ2 b).2.1 := by decide +kernel
theorem tyJ2_ok : ∀ k, k < 0 → parseFieldDescriptor (TJ2 k).2.2.1 = some (tyJ2 k) := by decide +kernel
abbrev cJ2_getChar_3b067 : ByteArray := prog_16_method_5_code
def yJ2_getChar_3b067 : MethodName := ⟨RJ2, "getChar", "([BI)C"⟩
abbrev cJ2_length_9d52b : ByteArray := prog_16_method_6_code
def yJ2_length_9d52b : MethodName := ⟨RJ2, "length", "([B)I"⟩
abbrev cJ2_charAt_3b067 : ByteArray := prog_16_method_83_code
def yJ2_charAt_3b067 : MethodName := ⟨RJ2, "charAt", "([BI)C"⟩
abbrev cJ2_checkIndex_2214a : ByteArray := prog_16_method_91_code
def yJ2_checkIndex_2214a : MethodName := ⟨RJ2, "checkIndex", "(I[B)V"⟩
def RJ10 : String := "java/lang/System"
def TJ10 : u_T := fun k => match k with
  | _ => ("", "", "", false)
def tyJ10 : Nat → FieldType := fun k => match k with
  | _ => .int
abbrev wsJ100 : List Cond := u_ws RJ10 TJ10 0
theorem nmJ10 : ∀ a, a < 0 → ∀ b, b < 0 → a ≠ b → (TJ10 a).2.1 ≠ (TJ10 b).2.1 := by decide +kernel
theorem tyJ10_ok : ∀ k, k < 0 → parseFieldDescriptor (TJ10 k).2.2.1 = some (tyJ10 k) := by decide +kernel
def RJxfd54e : String := "java/lang/constant/Constable"
def TJxfd54e : u_T := fun k => match k with
  | _ => ("", "", "", false)
def tyJxfd54e : Nat → FieldType := fun k => match k with
  | _ => .int
abbrev wsJxfd54e0 : List Cond := u_ws RJxfd54e TJxfd54e 0
theorem nmJxfd54e : ∀ a, a < 0 → ∀ b, b < 0 → a ≠ b → (TJxfd54e a).2.1 ≠ (TJxfd54e b).2.1 := by decide +kernel
theorem tyJxfd54e_ok : ∀ k, k < 0 → parseFieldDescriptor (TJxfd54e k).2.2.1 = some (tyJxfd54e k) := by decide +kernel
def RJx3cf43 : String := "java/lang/constant/ConstantDesc"
def TJx3cf43 : u_T := fun k => match k with
  | _ => ("", "", "", false)
def tyJx3cf43 : Nat → FieldType := fun k => match k with
  | _ => .int
abbrev wsJx3cf430 : List Cond := u_ws RJx3cf43 TJx3cf43 0
theorem nmJx3cf43 : ∀ a, a < 0 → ∀ b, b < 0 → a ≠ b → (TJx3cf43 a).2.1 ≠ (TJx3cf43 b).2.1 := by decide +kernel
theorem tyJx3cf43_ok : ∀ k, k < 0 → parseFieldDescriptor (TJx3cf43 k).2.2.1 = some (tyJx3cf43 k) := by decide +kernel
def RJ7 : String := "java/util/Arrays"
def TJ7 : u_T := fun k => match k with
  | _ => ("", "", "", false)
def tyJ7 : Nat → FieldType := fun k => match k with
  | _ => .int
abbrev wsJ70 : List Cond := u_ws RJ7 TJ7 0
theorem nmJ7 : ∀ a, a < 0 → ∀ b, b < 0 → a ≠ b → (TJ7 a).2.1 ≠ (TJ7 b).2.1 := by decide +kernel
theorem tyJ7_ok : ∀ k, k < 0 → parseFieldDescriptor (TJ7 k).2.2.1 = some (tyJ7 k) := by decide +kernel
abbrev cJ7_fill_53178 : ByteArray := prog_18_method_103_code
def yJ7_fill_53178 : MethodName := ⟨RJ7, "fill", "([II)V"⟩
def RJ3 : String := "jdk/internal/util/Preconditions"
def TJ3 : u_T := fun k => match k with
  | _ => ("", "", "", false)
def tyJ3 : Nat → FieldType := fun k => match k with
  | _ => .int
abbrev wsJ30 : List Cond := u_ws RJ3 TJ3 0
theorem nmJ3 : ∀ a, a < 0 → ∀ b, b < 0 → a ≠ b → (TJ3 a).2.1 ≠ (TJ3 b).2.1 := by decide +kernel
theorem tyJ3_ok : ∀ k, k < 0 → parseFieldDescriptor (TJ3 k).2.2.1 = some (tyJ3 k) := by decide +kernel
abbrev cJ3_checkIndex_8e157 : ByteArray := prog_19_method_11_code
def yJ3_checkIndex_8e157 : MethodName := ⟨RJ3, "checkIndex", "(IILjava/util/function/BiFunction;)I"⟩
def RL : String := "StraightFurrowLaw"
abbrev cL_law : ByteArray := code
def yL_law : MethodName := ⟨RL, "law", "([I)Z"⟩
abbrev vwCl : List vw_C := [(RX0, TX0, 7), (RX1, TX1, 5), (RX2, TX2, 10), (RX3, TX3, 4), (RX4, TX4, 7), (RX5, TX5, 5), (RX6, TX6, 3), (RX7, TX7, 8), (RX8, TX8, 10), (RX9, TX9, 22)]
theorem inX0 : ∀ w ∈ wsX00, w ∈ lw_tbl := by decide +kernel
theorem inX1 : ∀ w ∈ wsX10, w ∈ lw_tbl := by decide +kernel
theorem inX2 : ∀ w ∈ wsX20, w ∈ lw_tbl := by decide +kernel
theorem inX3 : ∀ w ∈ wsX30, w ∈ lw_tbl := by decide +kernel
theorem inX4 : ∀ w ∈ wsX40, w ∈ lw_tbl := by decide +kernel
theorem inX5 : ∀ w ∈ wsX50, w ∈ lw_tbl := by decide +kernel
theorem inX6 : ∀ w ∈ wsX60, w ∈ lw_tbl := by decide +kernel
theorem inX7 : ∀ w ∈ wsX70, w ∈ lw_tbl := by decide +kernel
theorem inX8 : ∀ w ∈ wsX80, w ∈ lw_tbl := by decide +kernel
theorem inX9 : ∀ w ∈ wsX90, w ∈ lw_tbl := by decide +kernel
theorem inJ0 : ∀ w ∈ wsJ00, w ∈ lw_tbl := by decide +kernel
