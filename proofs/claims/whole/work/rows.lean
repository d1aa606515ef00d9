section
-- ===== PART A: goes FIRST, ahead of the names: the tables' words, and 'selects' of the private methods out of them =====
/-- a private method of a class that the tables say can be made, by its rows of tables_1 -/
def lw_okq (q : MethodName × Nat) : Prop := (q.1.cls ≠ "java/lang/invoke/MethodHandle" ∧ q.1.cls ≠ "java/lang/invoke/VarHandle") ∧ Cond.instantiable q.1.cls q.2 ∈ tables_1 ∧ Cond.privateMethod q.1 ∈ tables_1 ∧ Cond.instanceMethod q.1 ∈ tables_1
theorem lw_p0 : lw_okq (⟨"CodedCaching", "dealSubsets", "(I)I"⟩, 8) := ⟨⟨by decide +kernel, by decide +kernel⟩, List.mem_of_getElem? (i := 16) (by decide +kernel), List.mem_of_getElem? (i := 331) (by decide +kernel), List.mem_of_getElem? (i := 332) (by decide +kernel)⟩
theorem lw_p1 : lw_okq (⟨"CodedCaching", "dealtTo", "(I)J"⟩, 8) := ⟨⟨by decide +kernel, by decide +kernel⟩, List.mem_of_getElem? (i := 16) (by decide +kernel), List.mem_of_getElem? (i := 341) (by decide +kernel), List.mem_of_getElem? (i := 342) (by decide +kernel)⟩
theorem lw_p2 : lw_okq (⟨"CodedCaching", "enqueue", "(J)I"⟩, 8) := ⟨⟨by decide +kernel, by decide +kernel⟩, List.mem_of_getElem? (i := 16) (by decide +kernel), List.mem_of_getElem? (i := 420) (by decide +kernel), List.mem_of_getElem? (i := 421) (by decide +kernel)⟩
theorem lw_p3 : lw_okq (⟨"CodedCaching$Knowledge", "addRow", "(JJ)V"⟩, 6) := ⟨⟨by decide +kernel, by decide +kernel⟩, List.mem_of_getElem? (i := 157) (by decide +kernel), List.mem_of_getElem? (i := 449) (by decide +kernel), List.mem_of_getElem? (i := 450) (by decide +kernel)⟩
theorem lw_p4 : lw_okq (⟨"CodedCaching$Scheduler", "addPlain", "(LCodedCaching$World;)V"⟩, 5) := ⟨⟨by decide +kernel, by decide +kernel⟩, List.mem_of_getElem? (i := 183) (by decide +kernel), List.mem_of_getElem? (i := 461) (by decide +kernel), List.mem_of_getElem? (i := 462) (by decide +kernel)⟩
theorem lw_p5 : lw_okq (⟨"CodedCaching$Scheduler", "addGreedy", "(LCodedCaching$World;)V"⟩, 5) := ⟨⟨by decide +kernel, by decide +kernel⟩, List.mem_of_getElem? (i := 183) (by decide +kernel), List.mem_of_getElem? (i := 466) (by decide +kernel), List.mem_of_getElem? (i := 467) (by decide +kernel)⟩
theorem lw_p6 : lw_okq (⟨"CodedCaching$Scheduler", "growGroup", "(LCodedCaching$World;IJ)J"⟩, 5) := ⟨⟨by decide +kernel, by decide +kernel⟩, List.mem_of_getElem? (i := 183) (by decide +kernel), List.mem_of_getElem? (i := 471) (by decide +kernel), List.mem_of_getElem? (i := 472) (by decide +kernel)⟩
theorem lw_p7 : lw_okq (⟨"CodedCaching$Scheduler", "findOwners", "(LCodedCaching$World;)V"⟩, 5) := ⟨⟨by decide +kernel, by decide +kernel⟩, List.mem_of_getElem? (i := 183) (by decide +kernel), List.mem_of_getElem? (i := 475) (by decide +kernel), List.mem_of_getElem? (i := 476) (by decide +kernel)⟩
theorem lw_p8 : lw_okq (⟨"CodedCaching$Scheduler", "findLeaders", "(LCodedCaching$World;)V"⟩, 5) := ⟨⟨by decide +kernel, by decide +kernel⟩, List.mem_of_getElem? (i := 183) (by decide +kernel), List.mem_of_getElem? (i := 484) (by decide +kernel), List.mem_of_getElem? (i := 485) (by decide +kernel)⟩
theorem lw_p9 : lw_okq (⟨"CodedCaching$Scheduler", "addSubsets", "(LCodedCaching$World;Z)V"⟩, 5) := ⟨⟨by decide +kernel, by decide +kernel⟩, List.mem_of_getElem? (i := 183) (by decide +kernel), List.mem_of_getElem? (i := 489) (by decide +kernel), List.mem_of_getElem? (i := 490) (by decide +kernel)⟩
theorem lw_p10 : lw_okq (⟨"CodedCaching$Scheduler", "addSumsFor", "(LCodedCaching$World;I)V"⟩, 5) := ⟨⟨by decide +kernel, by decide +kernel⟩, List.mem_of_getElem? (i := 183) (by decide +kernel), List.mem_of_getElem? (i := 494) (by decide +kernel), List.mem_of_getElem? (i := 495) (by decide +kernel)⟩
theorem lw_p11 : lw_okq (⟨"CodedCaching$Scheduler", "spreadPieces", "(III)I"⟩, 5) := ⟨⟨by decide +kernel, by decide +kernel⟩, List.mem_of_getElem? (i := 183) (by decide +kernel), List.mem_of_getElem? (i := 498) (by decide +kernel), List.mem_of_getElem? (i := 499) (by decide +kernel)⟩
theorem lw_p12 : lw_okq (⟨"CodedCaching", "numberAbout", "(II)I"⟩, 8) := ⟨⟨by decide +kernel, by decide +kernel⟩, List.mem_of_getElem? (i := 16) (by decide +kernel), List.mem_of_getElem? (i := 548) (by decide +kernel), List.mem_of_getElem? (i := 549) (by decide +kernel)⟩
theorem lw_p13 : lw_okq (⟨"CodedCaching", "valueByProof", "(LCodedCaching$Member;IJ)I"⟩, 8) := ⟨⟨by decide +kernel, by decide +kernel⟩, List.mem_of_getElem? (i := 16) (by decide +kernel), List.mem_of_getElem? (i := 566) (by decide +kernel), List.mem_of_getElem? (i := 567) (by decide +kernel)⟩
theorem lw_p14 : lw_okq (⟨"CodedCaching$BoundFinder", "extend", "(LCodedCaching$World;I)V"⟩, 2) := ⟨⟨by decide +kernel, by decide +kernel⟩, List.mem_of_getElem? (i := 205) (by decide +kernel), List.mem_of_getElem? (i := 594) (by decide +kernel), List.mem_of_getElem? (i := 595) (by decide +kernel)⟩
theorem lw_p15 : lw_okq (⟨"CodedCaching", "subsetRate", "(I)F"⟩, 8) := ⟨⟨by decide +kernel, by decide +kernel⟩, List.mem_of_getElem? (i := 16) (by decide +kernel), List.mem_of_getElem? (i := 615) (by decide +kernel), List.mem_of_getElem? (i := 616) (by decide +kernel)⟩
def lw_privs_1 : List (MethodName × Nat) := [(⟨"CodedCaching", "dealSubsets", "(I)I"⟩, 8), (⟨"CodedCaching", "dealtTo", "(I)J"⟩, 8), (⟨"CodedCaching", "enqueue", "(J)I"⟩, 8), (⟨"CodedCaching$Knowledge", "addRow", "(JJ)V"⟩, 6), (⟨"CodedCaching$Scheduler", "addPlain", "(LCodedCaching$World;)V"⟩, 5), (⟨"CodedCaching$Scheduler", "addGreedy", "(LCodedCaching$World;)V"⟩, 5), (⟨"CodedCaching$Scheduler", "growGroup", "(LCodedCaching$World;IJ)J"⟩, 5), (⟨"CodedCaching$Scheduler", "findOwners", "(LCodedCaching$World;)V"⟩, 5), (⟨"CodedCaching$Scheduler", "findLeaders", "(LCodedCaching$World;)V"⟩, 5), (⟨"CodedCaching$Scheduler", "addSubsets", "(LCodedCaching$World;Z)V"⟩, 5), (⟨"CodedCaching$Scheduler", "addSumsFor", "(LCodedCaching$World;I)V"⟩, 5), (⟨"CodedCaching$Scheduler", "spreadPieces", "(III)I"⟩, 5), (⟨"CodedCaching", "numberAbout", "(II)I"⟩, 8), (⟨"CodedCaching", "valueByProof", "(LCodedCaching$Member;IJ)I"⟩, 8), (⟨"CodedCaching$BoundFinder", "extend", "(LCodedCaching$World;I)V"⟩, 2), (⟨"CodedCaching", "subsetRate", "(I)F"⟩, 8)]
theorem lw_r1 : ∀ q ∈ lw_privs_1, lw_okq q := List.forall_mem_cons.mpr ⟨lw_p0, List.forall_mem_cons.mpr ⟨lw_p1, List.forall_mem_cons.mpr ⟨lw_p2, List.forall_mem_cons.mpr ⟨lw_p3, List.forall_mem_cons.mpr ⟨lw_p4, List.forall_mem_cons.mpr ⟨lw_p5, List.forall_mem_cons.mpr ⟨lw_p6, List.forall_mem_cons.mpr ⟨lw_p7, List.forall_mem_cons.mpr ⟨lw_p8, List.forall_mem_cons.mpr ⟨lw_p9, List.forall_mem_cons.mpr ⟨lw_p10, List.forall_mem_cons.mpr ⟨lw_p11, List.forall_mem_cons.mpr ⟨lw_p12, List.forall_mem_cons.mpr ⟨lw_p13, List.forall_mem_cons.mpr ⟨lw_p14, List.forall_mem_cons.mpr ⟨lw_p15, fun _ h => absurd h List.not_mem_nil⟩⟩⟩⟩⟩⟩⟩⟩⟩⟩⟩⟩⟩⟩⟩⟩
theorem lw_p16 : lw_okq (⟨"CodedCaching$Scenario", "skipBlanks", "()V"⟩, 7) := ⟨⟨by decide +kernel, by decide +kernel⟩, List.mem_of_getElem? (i := 218) (by decide +kernel), List.mem_of_getElem? (i := 655) (by decide +kernel), List.mem_of_getElem? (i := 656) (by decide +kernel)⟩
theorem lw_p17 : lw_okq (⟨"CodedCaching$Scenario", "letterHere", "()I"⟩, 7) := ⟨⟨by decide +kernel, by decide +kernel⟩, List.mem_of_getElem? (i := 218) (by decide +kernel), List.mem_of_getElem? (i := 659) (by decide +kernel), List.mem_of_getElem? (i := 660) (by decide +kernel)⟩
theorem lw_p18 : lw_okq (⟨"CodedCaching$Scenario", "readDigit", "()I"⟩, 7) := ⟨⟨by decide +kernel, by decide +kernel⟩, List.mem_of_getElem? (i := 218) (by decide +kernel), List.mem_of_getElem? (i := 663) (by decide +kernel), List.mem_of_getElem? (i := 664) (by decide +kernel)⟩
theorem lw_p19 : lw_okq (⟨"CodedCaching$Scenario", "isDigitHere", "()Z"⟩, 7) := ⟨⟨by decide +kernel, by decide +kernel⟩, List.mem_of_getElem? (i := 218) (by decide +kernel), List.mem_of_getElem? (i := 667) (by decide +kernel), List.mem_of_getElem? (i := 668) (by decide +kernel)⟩
theorem lw_p20 : lw_okq (⟨"CodedCaching$Scenario", "readNumber", "()I"⟩, 7) := ⟨⟨by decide +kernel, by decide +kernel⟩, List.mem_of_getElem? (i := 218) (by decide +kernel), List.mem_of_getElem? (i := 671) (by decide +kernel), List.mem_of_getElem? (i := 672) (by decide +kernel)⟩
theorem lw_p21 : lw_okq (⟨"CodedCaching$Scenario", "readSemicolon", "()V"⟩, 7) := ⟨⟨by decide +kernel, by decide +kernel⟩, List.mem_of_getElem? (i := 218) (by decide +kernel), List.mem_of_getElem? (i := 675) (by decide +kernel), List.mem_of_getElem? (i := 676) (by decide +kernel)⟩
theorem lw_p22 : lw_okq (⟨"CodedCaching", "makeCall", "(III)I"⟩, 8) := ⟨⟨by decide +kernel, by decide +kernel⟩, List.mem_of_getElem? (i := 16) (by decide +kernel), List.mem_of_getElem? (i := 685) (by decide +kernel), List.mem_of_getElem? (i := 686) (by decide +kernel)⟩
theorem lw_p23 : lw_okq (⟨"CodedCaching", "missingInAll", "()I"⟩, 8) := ⟨⟨by decide +kernel, by decide +kernel⟩, List.mem_of_getElem? (i := 16) (by decide +kernel), List.mem_of_getElem? (i := 731) (by decide +kernel), List.mem_of_getElem? (i := 732) (by decide +kernel)⟩
theorem lw_p24 : lw_okq (⟨"CodedCaching", "digestUser", "(JI)J"⟩, 8) := ⟨⟨by decide +kernel, by decide +kernel⟩, List.mem_of_getElem? (i := 16) (by decide +kernel), List.mem_of_getElem? (i := 742) (by decide +kernel), List.mem_of_getElem? (i := 743) (by decide +kernel)⟩
theorem lw_p25 : lw_okq (⟨"CodedCachingModel", "begins", "(III)V"⟩, 22) := ⟨⟨by decide +kernel, by decide +kernel⟩, List.mem_of_getElem? (i := 753) (by decide +kernel), List.mem_of_getElem? (i := 759) (by decide +kernel), List.mem_of_getElem? (i := 760) (by decide +kernel)⟩
theorem lw_p26 : lw_okq (⟨"CodedCachingModel", "isPiece", "(I)Z"⟩, 22) := ⟨⟨by decide +kernel, by decide +kernel⟩, List.mem_of_getElem? (i := 753) (by decide +kernel), List.mem_of_getElem? (i := 846) (by decide +kernel), List.mem_of_getElem? (i := 847) (by decide +kernel)⟩
theorem lw_p27 : lw_okq (⟨"CodedCachingModel", "pieces", "()I"⟩, 22) := ⟨⟨by decide +kernel, by decide +kernel⟩, List.mem_of_getElem? (i := 753) (by decide +kernel), List.mem_of_getElem? (i := 850) (by decide +kernel), List.mem_of_getElem? (i := 851) (by decide +kernel)⟩
theorem lw_p28 : lw_okq (⟨"CodedCachingModel", "isUser", "(I)Z"⟩, 22) := ⟨⟨by decide +kernel, by decide +kernel⟩, List.mem_of_getElem? (i := 753) (by decide +kernel), List.mem_of_getElem? (i := 859) (by decide +kernel), List.mem_of_getElem? (i := 860) (by decide +kernel)⟩
theorem lw_p29 : lw_okq (⟨"CodedCachingModel", "users", "()I"⟩, 22) := ⟨⟨by decide +kernel, by decide +kernel⟩, List.mem_of_getElem? (i := 753) (by decide +kernel), List.mem_of_getElem? (i := 863) (by decide +kernel), List.mem_of_getElem? (i := 864) (by decide +kernel)⟩
theorem lw_p30 : lw_okq (⟨"CodedCachingModel", "has", "(II)Z"⟩, 22) := ⟨⟨by decide +kernel, by decide +kernel⟩, List.mem_of_getElem? (i := 753) (by decide +kernel), List.mem_of_getElem? (i := 867) (by decide +kernel), List.mem_of_getElem? (i := 868) (by decide +kernel)⟩
theorem lw_p31 : lw_okq (⟨"CodedCachingModel", "sets", "(I)I"⟩, 22) := ⟨⟨by decide +kernel, by decide +kernel⟩, List.mem_of_getElem? (i := 753) (by decide +kernel), List.mem_of_getElem? (i := 882) (by decide +kernel), List.mem_of_getElem? (i := 883) (by decide +kernel)⟩
def lw_privs_2 : List (MethodName × Nat) := [(⟨"CodedCaching$Scenario", "skipBlanks", "()V"⟩, 7), (⟨"CodedCaching$Scenario", "letterHere", "()I"⟩, 7), (⟨"CodedCaching$Scenario", "readDigit", "()I"⟩, 7), (⟨"CodedCaching$Scenario", "isDigitHere", "()Z"⟩, 7), (⟨"CodedCaching$Scenario", "readNumber", "()I"⟩, 7), (⟨"CodedCaching$Scenario", "readSemicolon", "()V"⟩, 7), (⟨"CodedCaching", "makeCall", "(III)I"⟩, 8), (⟨"CodedCaching", "missingInAll", "()I"⟩, 8), (⟨"CodedCaching", "digestUser", "(JI)J"⟩, 8), (⟨"CodedCachingModel", "begins", "(III)V"⟩, 22), (⟨"CodedCachingModel", "isPiece", "(I)Z"⟩, 22), (⟨"CodedCachingModel", "pieces", "()I"⟩, 22), (⟨"CodedCachingModel", "isUser", "(I)Z"⟩, 22), (⟨"CodedCachingModel", "users", "()I"⟩, 22), (⟨"CodedCachingModel", "has", "(II)Z"⟩, 22), (⟨"CodedCachingModel", "sets", "(I)I"⟩, 22)]
theorem lw_r2 : ∀ q ∈ lw_privs_2, lw_okq q := List.forall_mem_cons.mpr ⟨lw_p16, List.forall_mem_cons.mpr ⟨lw_p17, List.forall_mem_cons.mpr ⟨lw_p18, List.forall_mem_cons.mpr ⟨lw_p19, List.forall_mem_cons.mpr ⟨lw_p20, List.forall_mem_cons.mpr ⟨lw_p21, List.forall_mem_cons.mpr ⟨lw_p22, List.forall_mem_cons.mpr ⟨lw_p23, List.forall_mem_cons.mpr ⟨lw_p24, List.forall_mem_cons.mpr ⟨lw_p25, List.forall_mem_cons.mpr ⟨lw_p26, List.forall_mem_cons.mpr ⟨lw_p27, List.forall_mem_cons.mpr ⟨lw_p28, List.forall_mem_cons.mpr ⟨lw_p29, List.forall_mem_cons.mpr ⟨lw_p30, List.forall_mem_cons.mpr ⟨lw_p31, fun _ h => absurd h List.not_mem_nil⟩⟩⟩⟩⟩⟩⟩⟩⟩⟩⟩⟩⟩⟩⟩⟩
theorem lw_p32 : lw_okq (⟨"CodedCachingModel", "setOf", "(II)I"⟩, 22) := ⟨⟨by decide +kernel, by decide +kernel⟩, List.mem_of_getElem? (i := 753) (by decide +kernel), List.mem_of_getElem? (i := 886) (by decide +kernel), List.mem_of_getElem? (i := 887) (by decide +kernel)⟩
theorem lw_p33 : lw_okq (⟨"CodedCachingModel", "fulfils", "()I"⟩, 22) := ⟨⟨by decide +kernel, by decide +kernel⟩, List.mem_of_getElem? (i := 753) (by decide +kernel), List.mem_of_getElem? (i := 909) (by decide +kernel), List.mem_of_getElem? (i := 910) (by decide +kernel)⟩
theorem lw_p34 : lw_okq (⟨"CodedCachingModel", "comes", "(IJ)I"⟩, 22) := ⟨⟨by decide +kernel, by decide +kernel⟩, List.mem_of_getElem? (i := 753) (by decide +kernel), List.mem_of_getElem? (i := 926) (by decide +kernel), List.mem_of_getElem? (i := 927) (by decide +kernel)⟩
theorem lw_p35 : lw_okq (⟨"CodedCachingModel", "presents", "()I"⟩, 22) := ⟨⟨by decide +kernel, by decide +kernel⟩, List.mem_of_getElem? (i := 753) (by decide +kernel), List.mem_of_getElem? (i := 930) (by decide +kernel), List.mem_of_getElem? (i := 931) (by decide +kernel)⟩
theorem lw_p36 : lw_okq (⟨"CodedCachingModel", "queues", "(J)I"⟩, 22) := ⟨⟨by decide +kernel, by decide +kernel⟩, List.mem_of_getElem? (i := 753) (by decide +kernel), List.mem_of_getElem? (i := 943) (by decide +kernel), List.mem_of_getElem? (i := 944) (by decide +kernel)⟩
theorem lw_p37 : lw_okq (⟨"CodedCachingModel", "receives", "(IJ)V"⟩, 22) := ⟨⟨by decide +kernel, by decide +kernel⟩, List.mem_of_getElem? (i := 753) (by decide +kernel), List.mem_of_getElem? (i := 952) (by decide +kernel), List.mem_of_getElem? (i := 953) (by decide +kernel)⟩
theorem lw_p38 : lw_okq (⟨"CodedCachingModel", "looksAt", "(I)V"⟩, 22) := ⟨⟨by decide +kernel, by decide +kernel⟩, List.mem_of_getElem? (i := 753) (by decide +kernel), List.mem_of_getElem? (i := 974) (by decide +kernel), List.mem_of_getElem? (i := 975) (by decide +kernel)⟩
theorem lw_p39 : lw_okq (⟨"CodedCachingModel", "adds", "(JJ)V"⟩, 22) := ⟨⟨by decide +kernel, by decide +kernel⟩, List.mem_of_getElem? (i := 753) (by decide +kernel), List.mem_of_getElem? (i := 978) (by decide +kernel), List.mem_of_getElem? (i := 979) (by decide +kernel)⟩
theorem lw_p40 : lw_okq (⟨"CodedCachingModel", "reduces", "(JJ)V"⟩, 22) := ⟨⟨by decide +kernel, by decide +kernel⟩, List.mem_of_getElem? (i := 753) (by decide +kernel), List.mem_of_getElem? (i := 982) (by decide +kernel), List.mem_of_getElem? (i := 983) (by decide +kernel)⟩
theorem lw_p41 : lw_okq (⟨"CodedCachingModel", "known", "()I"⟩, 22) := ⟨⟨by decide +kernel, by decide +kernel⟩, List.mem_of_getElem? (i := 753) (by decide +kernel), List.mem_of_getElem? (i := 986) (by decide +kernel), List.mem_of_getElem? (i := 987) (by decide +kernel)⟩
theorem lw_p42 : lw_okq (⟨"CodedCachingModel", "knows", "(I)Z"⟩, 22) := ⟨⟨by decide +kernel, by decide +kernel⟩, List.mem_of_getElem? (i := 753) (by decide +kernel), List.mem_of_getElem? (i := 990) (by decide +kernel), List.mem_of_getElem? (i := 991) (by decide +kernel)⟩
theorem lw_p43 : lw_okq (⟨"CodedCachingModel", "missing", "(I)J"⟩, 22) := ⟨⟨by decide +kernel, by decide +kernel⟩, List.mem_of_getElem? (i := 753) (by decide +kernel), List.mem_of_getElem? (i := 994) (by decide +kernel), List.mem_of_getElem? (i := 995) (by decide +kernel)⟩
theorem lw_p44 : lw_okq (⟨"CodedCachingModel", "demanding", "()I"⟩, 22) := ⟨⟨by decide +kernel, by decide +kernel⟩, List.mem_of_getElem? (i := 753) (by decide +kernel), List.mem_of_getElem? (i := 1014) (by decide +kernel), List.mem_of_getElem? (i := 1015) (by decide +kernel)⟩
theorem lw_p45 : lw_okq (⟨"CodedCachingModel", "counts", "(II)I"⟩, 22) := ⟨⟨by decide +kernel, by decide +kernel⟩, List.mem_of_getElem? (i := 753) (by decide +kernel), List.mem_of_getElem? (i := 1018) (by decide +kernel), List.mem_of_getElem? (i := 1019) (by decide +kernel)⟩
theorem lw_p46 : lw_okq (⟨"CodedCachingModel", "plain", "(I)V"⟩, 22) := ⟨⟨by decide +kernel, by decide +kernel⟩, List.mem_of_getElem? (i := 753) (by decide +kernel), List.mem_of_getElem? (i := 1027) (by decide +kernel), List.mem_of_getElem? (i := 1028) (by decide +kernel)⟩
theorem lw_p47 : lw_okq (⟨"CodedCachingModel", "greedy", "()V"⟩, 22) := ⟨⟨by decide +kernel, by decide +kernel⟩, List.mem_of_getElem? (i := 753) (by decide +kernel), List.mem_of_getElem? (i := 1031) (by decide +kernel), List.mem_of_getElem? (i := 1032) (by decide +kernel)⟩
def lw_privs_3 : List (MethodName × Nat) := [(⟨"CodedCachingModel", "setOf", "(II)I"⟩, 22), (⟨"CodedCachingModel", "fulfils", "()I"⟩, 22), (⟨"CodedCachingModel", "comes", "(IJ)I"⟩, 22), (⟨"CodedCachingModel", "presents", "()I"⟩, 22), (⟨"CodedCachingModel", "queues", "(J)I"⟩, 22), (⟨"CodedCachingModel", "receives", "(IJ)V"⟩, 22), (⟨"CodedCachingModel", "looksAt", "(I)V"⟩, 22), (⟨"CodedCachingModel", "adds", "(JJ)V"⟩, 22), (⟨"CodedCachingModel", "reduces", "(JJ)V"⟩, 22), (⟨"CodedCachingModel", "known", "()I"⟩, 22), (⟨"CodedCachingModel", "knows", "(I)Z"⟩, 22), (⟨"CodedCachingModel", "missing", "(I)J"⟩, 22), (⟨"CodedCachingModel", "demanding", "()I"⟩, 22), (⟨"CodedCachingModel", "counts", "(II)I"⟩, 22), (⟨"CodedCachingModel", "plain", "(I)V"⟩, 22), (⟨"CodedCachingModel", "greedy", "()V"⟩, 22)]
theorem lw_r3 : ∀ q ∈ lw_privs_3, lw_okq q := List.forall_mem_cons.mpr ⟨lw_p32, List.forall_mem_cons.mpr ⟨lw_p33, List.forall_mem_cons.mpr ⟨lw_p34, List.forall_mem_cons.mpr ⟨lw_p35, List.forall_mem_cons.mpr ⟨lw_p36, List.forall_mem_cons.mpr ⟨lw_p37, List.forall_mem_cons.mpr ⟨lw_p38, List.forall_mem_cons.mpr ⟨lw_p39, List.forall_mem_cons.mpr ⟨lw_p40, List.forall_mem_cons.mpr ⟨lw_p41, List.forall_mem_cons.mpr ⟨lw_p42, List.forall_mem_cons.mpr ⟨lw_p43, List.forall_mem_cons.mpr ⟨lw_p44, List.forall_mem_cons.mpr ⟨lw_p45, List.forall_mem_cons.mpr ⟨lw_p46, List.forall_mem_cons.mpr ⟨lw_p47, fun _ h => absurd h List.not_mem_nil⟩⟩⟩⟩⟩⟩⟩⟩⟩⟩⟩⟩⟩⟩⟩⟩
theorem lw_p48 : lw_okq (⟨"CodedCachingModel", "group", "(I)V"⟩, 22) := ⟨⟨by decide +kernel, by decide +kernel⟩, List.mem_of_getElem? (i := 753) (by decide +kernel), List.mem_of_getElem? (i := 1035) (by decide +kernel), List.mem_of_getElem? (i := 1036) (by decide +kernel)⟩
theorem lw_p49 : lw_okq (⟨"CodedCachingModel", "joins", "(IIJ)Z"⟩, 22) := ⟨⟨by decide +kernel, by decide +kernel⟩, List.mem_of_getElem? (i := 753) (by decide +kernel), List.mem_of_getElem? (i := 1039) (by decide +kernel), List.mem_of_getElem? (i := 1040) (by decide +kernel)⟩
theorem lw_p50 : lw_okq (⟨"CodedCachingModel", "leaders", "(I)I"⟩, 22) := ⟨⟨by decide +kernel, by decide +kernel⟩, List.mem_of_getElem? (i := 753) (by decide +kernel), List.mem_of_getElem? (i := 1043) (by decide +kernel), List.mem_of_getElem? (i := 1044) (by decide +kernel)⟩
theorem lw_p51 : lw_okq (⟨"CodedCachingModel", "subsets", "(II)V"⟩, 22) := ⟨⟨by decide +kernel, by decide +kernel⟩, List.mem_of_getElem? (i := 753) (by decide +kernel), List.mem_of_getElem? (i := 1047) (by decide +kernel), List.mem_of_getElem? (i := 1048) (by decide +kernel)⟩
theorem lw_p52 : lw_okq (⟨"CodedCachingModel", "subset", "(II)V"⟩, 22) := ⟨⟨by decide +kernel, by decide +kernel⟩, List.mem_of_getElem? (i := 753) (by decide +kernel), List.mem_of_getElem? (i := 1051) (by decide +kernel), List.mem_of_getElem? (i := 1052) (by decide +kernel)⟩
theorem lw_p53 : lw_okq (⟨"CodedCachingModel", "listed", "(IIII)I"⟩, 22) := ⟨⟨by decide +kernel, by decide +kernel⟩, List.mem_of_getElem? (i := 753) (by decide +kernel), List.mem_of_getElem? (i := 1055) (by decide +kernel), List.mem_of_getElem? (i := 1056) (by decide +kernel)⟩
theorem lw_p54 : lw_okq (⟨"CodedCachingModel", "holders", "(II)I"⟩, 22) := ⟨⟨by decide +kernel, by decide +kernel⟩, List.mem_of_getElem? (i := 753) (by decide +kernel), List.mem_of_getElem? (i := 1059) (by decide +kernel), List.mem_of_getElem? (i := 1060) (by decide +kernel)⟩
theorem lw_p55 : lw_okq (⟨"CodedCachingModel", "rateOf", "(I)F"⟩, 22) := ⟨⟨by decide +kernel, by decide +kernel⟩, List.mem_of_getElem? (i := 753) (by decide +kernel), List.mem_of_getElem? (i := 1076) (by decide +kernel), List.mem_of_getElem? (i := 1077) (by decide +kernel)⟩
theorem lw_p56 : lw_okq (⟨"CodedCachingModel", "blanks", "()V"⟩, 22) := ⟨⟨by decide +kernel, by decide +kernel⟩, List.mem_of_getElem? (i := 753) (by decide +kernel), List.mem_of_getElem? (i := 1100) (by decide +kernel), List.mem_of_getElem? (i := 1101) (by decide +kernel)⟩
theorem lw_p57 : lw_okq (⟨"CodedCachingModel", "next", "()I"⟩, 22) := ⟨⟨by decide +kernel, by decide +kernel⟩, List.mem_of_getElem? (i := 753) (by decide +kernel), List.mem_of_getElem? (i := 1104) (by decide +kernel), List.mem_of_getElem? (i := 1105) (by decide +kernel)⟩
theorem lw_p58 : lw_okq (⟨"CodedCachingModel", "reads", "()Z"⟩, 22) := ⟨⟨by decide +kernel, by decide +kernel⟩, List.mem_of_getElem? (i := 753) (by decide +kernel), List.mem_of_getElem? (i := 1108) (by decide +kernel), List.mem_of_getElem? (i := 1109) (by decide +kernel)⟩
theorem lw_p59 : lw_okq (⟨"CodedCachingModel", "number", "(I)I"⟩, 22) := ⟨⟨by decide +kernel, by decide +kernel⟩, List.mem_of_getElem? (i := 753) (by decide +kernel), List.mem_of_getElem? (i := 1115) (by decide +kernel), List.mem_of_getElem? (i := 1116) (by decide +kernel)⟩
theorem lw_p60 : lw_okq (⟨"CodedCachingModel", "isDigit", "()Z"⟩, 22) := ⟨⟨by decide +kernel, by decide +kernel⟩, List.mem_of_getElem? (i := 753) (by decide +kernel), List.mem_of_getElem? (i := 1119) (by decide +kernel), List.mem_of_getElem? (i := 1120) (by decide +kernel)⟩
theorem lw_p61 : lw_okq (⟨"CodedCachingModel", "does", "(I)I"⟩, 22) := ⟨⟨by decide +kernel, by decide +kernel⟩, List.mem_of_getElem? (i := 753) (by decide +kernel), List.mem_of_getElem? (i := 1130) (by decide +kernel), List.mem_of_getElem? (i := 1131) (by decide +kernel)⟩
theorem lw_p62 : lw_okq (⟨"CodedCachingModel", "allMissing", "()I"⟩, 22) := ⟨⟨by decide +kernel, by decide +kernel⟩, List.mem_of_getElem? (i := 753) (by decide +kernel), List.mem_of_getElem? (i := 1157) (by decide +kernel), List.mem_of_getElem? (i := 1158) (by decide +kernel)⟩
theorem lw_p63 : lw_okq (⟨"CodedCachingModel", "mixes", "(J)V"⟩, 22) := ⟨⟨by decide +kernel, by decide +kernel⟩, List.mem_of_getElem? (i := 753) (by decide +kernel), List.mem_of_getElem? (i := 1167) (by decide +kernel), List.mem_of_getElem? (i := 1168) (by decide +kernel)⟩
def lw_privs_4 : List (MethodName × Nat) := [(⟨"CodedCachingModel", "group", "(I)V"⟩, 22), (⟨"CodedCachingModel", "joins", "(IIJ)Z"⟩, 22), (⟨"CodedCachingModel", "leaders", "(I)I"⟩, 22), (⟨"CodedCachingModel", "subsets", "(II)V"⟩, 22), (⟨"CodedCachingModel", "subset", "(II)V"⟩, 22), (⟨"CodedCachingModel", "listed", "(IIII)I"⟩, 22), (⟨"CodedCachingModel", "holders", "(II)I"⟩, 22), (⟨"CodedCachingModel", "rateOf", "(I)F"⟩, 22), (⟨"CodedCachingModel", "blanks", "()V"⟩, 22), (⟨"CodedCachingModel", "next", "()I"⟩, 22), (⟨"CodedCachingModel", "reads", "()Z"⟩, 22), (⟨"CodedCachingModel", "number", "(I)I"⟩, 22), (⟨"CodedCachingModel", "isDigit", "()Z"⟩, 22), (⟨"CodedCachingModel", "does", "(I)I"⟩, 22), (⟨"CodedCachingModel", "allMissing", "()I"⟩, 22), (⟨"CodedCachingModel", "mixes", "(J)V"⟩, 22)]
theorem lw_r4 : ∀ q ∈ lw_privs_4, lw_okq q := List.forall_mem_cons.mpr ⟨lw_p48, List.forall_mem_cons.mpr ⟨lw_p49, List.forall_mem_cons.mpr ⟨lw_p50, List.forall_mem_cons.mpr ⟨lw_p51, List.forall_mem_cons.mpr ⟨lw_p52, List.forall_mem_cons.mpr ⟨lw_p53, List.forall_mem_cons.mpr ⟨lw_p54, List.forall_mem_cons.mpr ⟨lw_p55, List.forall_mem_cons.mpr ⟨lw_p56, List.forall_mem_cons.mpr ⟨lw_p57, List.forall_mem_cons.mpr ⟨lw_p58, List.forall_mem_cons.mpr ⟨lw_p59, List.forall_mem_cons.mpr ⟨lw_p60, List.forall_mem_cons.mpr ⟨lw_p61, List.forall_mem_cons.mpr ⟨lw_p62, List.forall_mem_cons.mpr ⟨lw_p63, fun _ h => absurd h List.not_mem_nil⟩⟩⟩⟩⟩⟩⟩⟩⟩⟩⟩⟩⟩⟩⟩⟩
def lw_privs : List (MethodName × Nat) := lw_privs_1 ++ (lw_privs_2 ++ (lw_privs_3 ++ (lw_privs_4)))
def lw_tbl : List Cond := k2_sels lw_privs ++ tables_1
theorem lw_privs_ok : ∀ q ∈ lw_privs, lw_okq q := by
  show ∀ q ∈ lw_privs_1 ++ (lw_privs_2 ++ (lw_privs_3 ++ (lw_privs_4))), lw_okq q
  exact List.forall_mem_append.mpr ⟨lw_r1, List.forall_mem_append.mpr ⟨lw_r2, List.forall_mem_append.mpr ⟨lw_r3, lw_r4⟩⟩⟩
/-- the streams that the claim lets the run draw from -/
abbrev lw_cs : List Choice := [Jvm.Choice.named "NaN.bits"]
theorem lw_bits : nanBits ∈ lw_cs := by first | decide | exact List.mem_cons_self | simp [lw_cs, nanBits]
-- ===== end of PART A; then your names; then what follows =====
end
section
/-! ===== BEGIN words of one list among another's, by their places ===== -/
theorem goodIn_r {big : List Cond} (ws : List Cond) (ps : List Nat) (hp : ws = ps.filterMap (fun i => big[i]?)) (h : ws.all goodWord = true) : GoodIn big ws := by
  intro w hw
  have h1 := List.all_eq_true.mp h w hw
  rw [hp] at hw
  obtain ⟨i, -, hi⟩ := List.mem_filterMap.mp hw
  have hm : w ∈ big := by first | exact List.mem_of_getElem? hi | exact List.getElem?_mem hi
  exact ⟨hm, good_of_word h1⟩
theorem goodIn_app {big a b : List Cond} (ha : GoodIn big a) (hb : GoodIn big b) : GoodIn big (a ++ b) := fun w h => (List.mem_append.mp h).elim (ha w) (hb w)
theorem goodIn_ca {big a b : List Cond} {c : Cond} (ha : GoodIn big (c :: a)) (hb : GoodIn big b) : GoodIn big (c :: (a ++ b)) := fun w h => (List.mem_cons.mp h).elim (fun e => ha w (List.mem_cons.mpr (Or.inl e))) (fun h => (List.mem_append.mp h).elim (fun h => ha w (List.mem_cons.mpr (Or.inr h))) (hb w))
theorem goodIn_sub {big ws : List Cond} (hm : ∀ w ∈ ws, w ∈ big) (h : ws.all goodWord = true) : GoodIn big ws := fun w hw => ⟨hm w hw, good_of_word (List.all_eq_true.mp h w hw)⟩
/-! ===== END ===== -/
def RX0 : String := "CodedCaching$BoundFinder"
def TX0 : u_T := fun k => match k with
  | 0 => ("CodedCaching$BoundFinder", "best", "[I", true)
  | _ => ("CodedCaching$BoundFinder", "covered", "[J", true)
def tyX0 : Nat → FieldType := fun k => match k with
  | 0 => .array .int
  | _ => .array .long
abbrev wsX00 : List Cond := u_ws RX0 TX0 2
theorem nmX0 : ∀ a, a < 2 → ∀ b, b < 2 → a ≠ b → (TX0 a).2.1 ≠ (TX0 b).2.1 := by decide +kernel
theorem tyX0_ok : ∀ k, k < 2 → parseFieldDescriptor (TX0 k).2.2.1 = some (tyX0 k) := by decide +kernel
abbrev cX0_init : ByteArray := prog_2_method_1_code
def yX0_init : MethodName := ⟨RX0, "<init>", "()V"⟩
abbrev cX0_greatest : ByteArray := prog_2_method_2_code
def yX0_greatest : MethodName := ⟨RX0, "greatest", "(LCodedCaching$World;)I"⟩
abbrev cX0_extend : ByteArray := prog_2_method_3_code
def yX0_extend : MethodName := ⟨RX0, "extend", "(LCodedCaching$World;I)V"⟩
def RX1 : String := "CodedCaching$Knowledge"
def TX1 : u_T := fun k => match k with
  | 0 => ("CodedCaching$Knowledge", "rows", "[J", true)
  | 1 => ("CodedCaching$Knowledge", "leads", "[J", true)
  | 2 => ("CodedCaching$Knowledge", "origins", "[J", true)
  | 3 => ("CodedCaching$Knowledge", "size", "I", false)
  | 4 => ("CodedCaching$Knowledge", "given", "J", false)
  | _ => ("CodedCaching$Knowledge", "known", "J", false)
def tyX1 : Nat → FieldType := fun k => match k with
  | 0 => .array .long
  | 1 => .array .long
  | 2 => .array .long
  | 3 => .int
  | 4 => .long
  | _ => .long
abbrev wsX10 : List Cond := u_ws RX1 TX1 6
theorem nmX1 : ∀ a, a < 6 → ∀ b, b < 6 → a ≠ b → (TX1 a).2.1 ≠ (TX1 b).2.1 := by decide +kernel
theorem tyX1_ok : ∀ k, k < 6 → parseFieldDescriptor (TX1 k).2.2.1 = some (tyX1 k) := by decide +kernel
abbrev cX1_init : ByteArray := prog_3_method_1_code
def yX1_init : MethodName := ⟨RX1, "<init>", "()V"⟩
abbrev cX1_learn : ByteArray := prog_3_method_2_code
def yX1_learn : MethodName := ⟨RX1, "learn", "(LCodedCaching$Member;)V"⟩
abbrev cX1_learnFrom : ByteArray := prog_3_method_3_code
def yX1_learnFrom : MethodName := ⟨RX1, "learnFrom", "(JLCodedCaching$SumList;)V"⟩
abbrev cX1_addRow : ByteArray := prog_3_method_4_code
def yX1_addRow : MethodName := ⟨RX1, "addRow", "(JJ)V"⟩
abbrev cX1_rank : ByteArray := prog_3_method_5_code
def yX1_rank : MethodName := ⟨RX1, "rank", "()I"⟩
abbrev cX1_missingFor : ByteArray := prog_3_method_6_code
def yX1_missingFor : MethodName := ⟨RX1, "missingFor", "(LCodedCaching$Member;)J"⟩
abbrev cX1_sumsBehind : ByteArray := prog_3_method_7_code
def yX1_sumsBehind : MethodName := ⟨RX1, "sumsBehind", "(I)J"⟩
def RX2 : String := "CodedCaching$Member"
def TX2 : u_T := fun k => match k with
  | 0 => ("CodedCaching$Member", "received", "LCodedCaching$SumList;", true)
  | 1 => ("CodedCaching$Member", "cache", "J", false)
  | _ => ("CodedCaching$Member", "wanted", "I", false)
def tyX2 : Nat → FieldType := fun k => match k with
  | 0 => .object "CodedCaching$SumList"
  | 1 => .long
  | _ => .int
abbrev wsX20 : List Cond := u_ws RX2 TX2 3
theorem nmX2 : ∀ a, a < 3 → ∀ b, b < 3 → a ≠ b → (TX2 a).2.1 ≠ (TX2 b).2.1 := by decide +kernel
theorem tyX2_ok : ∀ k, k < 3 → parseFieldDescriptor (TX2 k).2.2.1 = some (tyX2 k) := by decide +kernel
abbrev cX2_init : ByteArray := prog_4_method_1_code
def yX2_init : MethodName := ⟨RX2, "<init>", "()V"⟩
abbrev cX2_begin : ByteArray := prog_4_method_2_code
def yX2_begin : MethodName := ⟨RX2, "begin", "()V"⟩
abbrev cX2_holds : ByteArray := prog_4_method_3_code
def yX2_holds : MethodName := ⟨RX2, "holds", "(I)Z"⟩
abbrev cX2_held : ByteArray := prog_4_method_4_code
def yX2_held : MethodName := ⟨RX2, "held", "()I"⟩
abbrev cX2_receive : ByteArray := prog_4_method_5_code
def yX2_receive : MethodName := ⟨RX2, "receive", "(JI)V"⟩
abbrev cX2_copyFrom : ByteArray := prog_4_method_6_code
def yX2_copyFrom : MethodName := ⟨RX2, "copyFrom", "(LCodedCaching$Member;)V"⟩
def RX3 : String := "CodedCaching$PlanList"
def TX3 : u_T := fun k => match k with
  | 0 => ("CodedCaching$PlanList", "users", "[I", true)
  | 1 => ("CodedCaching$PlanList", "pieces", "[I", true)
  | 2 => ("CodedCaching$PlanList", "priorities", "[I", true)
  | _ => ("CodedCaching$PlanList", "size", "I", false)
def tyX3 : Nat → FieldType := fun k => match k with
  | 0 => .array .int
  | 1 => .array .int
  | 2 => .array .int
  | _ => .int
abbrev wsX30 : List Cond := u_ws RX3 TX3 4
theorem nmX3 : ∀ a, a < 4 → ∀ b, b < 4 → a ≠ b → (TX3 a).2.1 ≠ (TX3 b).2.1 := by decide +kernel
theorem tyX3_ok : ∀ k, k < 4 → parseFieldDescriptor (TX3 k).2.2.1 = some (tyX3 k) := by decide +kernel
abbrev cX3_init : ByteArray := prog_5_method_1_code
def yX3_init : MethodName := ⟨RX3, "<init>", "()V"⟩
abbrev cX3_append : ByteArray := prog_5_method_2_code
def yX3_append : MethodName := ⟨RX3, "append", "(III)V"⟩
abbrev cX3_mostUrgent : ByteArray := prog_5_method_3_code
def yX3_mostUrgent : MethodName := ⟨RX3, "mostUrgent", "()I"⟩
abbrev cX3_remove : ByteArray := prog_5_method_4_code
def yX3_remove : MethodName := ⟨RX3, "remove", "(I)V"⟩
abbrev cX3_copyFrom : ByteArray := prog_5_method_5_code
def yX3_copyFrom : MethodName := ⟨RX3, "copyFrom", "(LCodedCaching$PlanList;)V"⟩
def RX4 : String := "CodedCaching$Scenario"
def TX4 : u_T := fun k => match k with
  | 0 => ("CodedCaching$Scenario", "letters", "[I", true)
  | 1 => ("CodedCaching$Scenario", "length", "I", false)
  | 2 => ("CodedCaching$Scenario", "position", "I", false)
  | 3 => ("CodedCaching$Scenario", "stuck", "Z", false)
  | 4 => ("CodedCaching$Scenario", "verb", "I", false)
  | 5 => ("CodedCaching$Scenario", "first", "I", false)
  | _ => ("CodedCaching$Scenario", "second", "I", false)
def tyX4 : Nat → FieldType := fun k => match k with
  | 0 => .array .int
  | 1 => .int
  | 2 => .int
  | 3 => .boolean
  | 4 => .int
  | 5 => .int
  | _ => .int
abbrev wsX40 : List Cond := u_ws RX4 TX4 7
theorem nmX4 : ∀ a, a < 7 → ∀ b, b < 7 → a ≠ b → (TX4 a).2.1 ≠ (TX4 b).2.1 := by decide +kernel
theorem tyX4_ok : ∀ k, k < 7 → parseFieldDescriptor (TX4 k).2.2.1 = some (tyX4 k) := by decide +kernel
abbrev cX4_init : ByteArray := prog_6_method_1_code
def yX4_init : MethodName := ⟨RX4, "<init>", "()V"⟩
abbrev cX4_append : ByteArray := prog_6_method_2_code
def yX4_append : MethodName := ⟨RX4, "append", "(I)V"⟩
abbrev cX4_rewind : ByteArray := prog_6_method_3_code
def yX4_rewind : MethodName := ⟨RX4, "rewind", "()V"⟩
abbrev cX4_firstFault : ByteArray := prog_6_method_4_code
def yX4_firstFault : MethodName := ⟨RX4, "firstFault", "()I"⟩
abbrev cX4_readCall : ByteArray := prog_6_method_5_code
def yX4_readCall : MethodName := ⟨RX4, "readCall", "()Z"⟩
abbrev cX4_skipBlanks : ByteArray := prog_6_method_6_code
def yX4_skipBlanks : MethodName := ⟨RX4, "skipBlanks", "()V"⟩
abbrev cX4_letterHere : ByteArray := prog_6_method_7_code
def yX4_letterHere : MethodName := ⟨RX4, "letterHere", "()I"⟩
abbrev cX4_isDigitHere : ByteArray := prog_6_method_8_code
def yX4_isDigitHere : MethodName := ⟨RX4, "isDigitHere", "()Z"⟩
abbrev cX4_readDigit : ByteArray := prog_6_method_9_code
def yX4_readDigit : MethodName := ⟨RX4, "readDigit", "()I"⟩
abbrev cX4_readNumber : ByteArray := prog_6_method_10_code
def yX4_readNumber : MethodName := ⟨RX4, "readNumber", "()I"⟩
abbrev cX4_readSemicolon : ByteArray := prog_6_method_11_code
def yX4_readSemicolon : MethodName := ⟨RX4, "readSemicolon", "()V"⟩
def RX5 : String := "CodedCaching$Scheduler"
def TX5 : u_T := fun k => match k with
  | 0 => ("CodedCaching$Scheduler", "missing", "[J", true)
  | 1 => ("CodedCaching$Scheduler", "owners", "[I", true)
  | 2 => ("CodedCaching$Scheduler", "sums", "[J", true)
  | 3 => ("CodedCaching$Scheduler", "demanding", "I", false)
  | _ => ("CodedCaching$Scheduler", "leaders", "I", false)
def tyX5 : Nat → FieldType := fun k => match k with
  | 0 => .array .long
  | 1 => .array .int
  | 2 => .array .long
  | 3 => .int
  | _ => .int
abbrev wsX50 : List Cond := u_ws RX5 TX5 5
theorem nmX5 : ∀ a, a < 5 → ∀ b, b < 5 → a ≠ b → (TX5 a).2.1 ≠ (TX5 b).2.1 := by decide +kernel
theorem tyX5_ok : ∀ k, k < 5 → parseFieldDescriptor (TX5 k).2.2.1 = some (tyX5 k) := by decide +kernel
abbrev cX5_init : ByteArray := prog_7_method_1_code
def yX5_init : MethodName := ⟨RX5, "<init>", "()V"⟩
abbrev cX5_replacePending : ByteArray := prog_7_method_2_code
def yX5_replacePending : MethodName := ⟨RX5, "replacePending", "(LCodedCaching$World;LCodedCaching$Knowledge;I)V"⟩
abbrev cX5_addPlain : ByteArray := prog_7_method_3_code
def yX5_addPlain : MethodName := ⟨RX5, "addPlain", "(LCodedCaching$World;)V"⟩
abbrev cX5_findOwners : ByteArray := prog_7_method_4_code
def yX5_findOwners : MethodName := ⟨RX5, "findOwners", "(LCodedCaching$World;)V"⟩
abbrev cX5_findLeaders : ByteArray := prog_7_method_5_code
def yX5_findLeaders : MethodName := ⟨RX5, "findLeaders", "(LCodedCaching$World;)V"⟩
abbrev cX5_addSubsets : ByteArray := prog_7_method_6_code
def yX5_addSubsets : MethodName := ⟨RX5, "addSubsets", "(LCodedCaching$World;Z)V"⟩
abbrev cX5_addSumsFor : ByteArray := prog_7_method_7_code
def yX5_addSumsFor : MethodName := ⟨RX5, "addSumsFor", "(LCodedCaching$World;I)V"⟩
abbrev cX5_spreadPieces : ByteArray := prog_7_method_8_code
def yX5_spreadPieces : MethodName := ⟨RX5, "spreadPieces", "(III)I"⟩
abbrev cX5_addGreedy : ByteArray := prog_7_method_9_code
def yX5_addGreedy : MethodName := ⟨RX5, "addGreedy", "(LCodedCaching$World;)V"⟩
abbrev cX5_growGroup : ByteArray := prog_7_method_10_code
def yX5_growGroup : MethodName := ⟨RX5, "growGroup", "(LCodedCaching$World;IJ)J"⟩
def RX6 : String := "CodedCaching$SumList"
def TX6 : u_T := fun k => match k with
  | 0 => ("CodedCaching$SumList", "sets", "[J", true)
  | 1 => ("CodedCaching$SumList", "bytes", "[I", true)
  | 2 => ("CodedCaching$SumList", "limit", "I", true)
  | _ => ("CodedCaching$SumList", "size", "I", false)
def tyX6 : Nat → FieldType := fun k => match k with
  | 0 => .array .long
  | 1 => .array .int
  | 2 => .int
  | _ => .int
abbrev wsX60 : List Cond := u_ws RX6 TX6 4
theorem nmX6 : ∀ a, a < 4 → ∀ b, b < 4 → a ≠ b → (TX6 a).2.1 ≠ (TX6 b).2.1 := by decide +kernel
theorem tyX6_ok : ∀ k, k < 4 → parseFieldDescriptor (TX6 k).2.2.1 = some (tyX6 k) := by decide +kernel
abbrev cX6_init : ByteArray := prog_8_method_1_code
def yX6_init : MethodName := ⟨RX6, "<init>", "(I)V"⟩
abbrev cX6_setAt : ByteArray := prog_8_method_2_code
def yX6_setAt : MethodName := ⟨RX6, "setAt", "(I)J"⟩
abbrev cX6_byteAt : ByteArray := prog_8_method_3_code
def yX6_byteAt : MethodName := ⟨RX6, "byteAt", "(I)I"⟩
abbrev cX6_append : ByteArray := prog_8_method_4_code
def yX6_append : MethodName := ⟨RX6, "append", "(JI)V"⟩
abbrev cX6_removeFirst : ByteArray := prog_8_method_5_code
def yX6_removeFirst : MethodName := ⟨RX6, "removeFirst", "()V"⟩
abbrev cX6_copyFrom : ByteArray := prog_8_method_6_code
def yX6_copyFrom : MethodName := ⟨RX6, "copyFrom", "(LCodedCaching$SumList;)V"⟩
abbrev cX6_digestInto : ByteArray := prog_8_method_7_code
def yX6_digestInto : MethodName := ⟨RX6, "digestInto", "(J)J"⟩
def RX7 : String := "CodedCaching$World"
def TX7 : u_T := fun k => match k with
  | 0 => ("CodedCaching$World", "content", "[I", true)
  | 1 => ("CodedCaching$World", "members", "[LCodedCaching$Member;", true)
  | 2 => ("CodedCaching$World", "queue", "LCodedCaching$SumList;", true)
  | 3 => ("CodedCaching$World", "history", "LCodedCaching$SumList;", true)
  | 4 => ("CodedCaching$World", "plans", "LCodedCaching$PlanList;", true)
  | 5 => ("CodedCaching$World", "files", "I", false)
  | 6 => ("CodedCaching$World", "users", "I", false)
  | 7 => ("CodedCaching$World", "capacity", "I", false)
  | 8 => ("CodedCaching$World", "present", "I", false)
  | _ => ("CodedCaching$World", "inVain", "I", false)
def tyX7 : Nat → FieldType := fun k => match k with
  | 0 => .array .int
  | 1 => .array (.object "CodedCaching$Member")
  | 2 => .object "CodedCaching$SumList"
  | 3 => .object "CodedCaching$SumList"
  | 4 => .object "CodedCaching$PlanList"
  | 5 => .int
  | 6 => .int
  | 7 => .int
  | 8 => .int
  | _ => .int
abbrev wsX70 : List Cond := u_ws RX7 TX7 10
theorem nmX7 : ∀ a, a < 10 → ∀ b, b < 10 → a ≠ b → (TX7 a).2.1 ≠ (TX7 b).2.1 := by decide +kernel
theorem tyX7_ok : ∀ k, k < 10 → parseFieldDescriptor (TX7 k).2.2.1 = some (tyX7 k) := by decide +kernel
abbrev cX7_init : ByteArray := prog_9_method_1_code
def yX7_init : MethodName := ⟨RX7, "<init>", "()V"⟩
abbrev cX7_begin : ByteArray := prog_9_method_2_code
def yX7_begin : MethodName := ⟨RX7, "begin", "(III)V"⟩
abbrev cX7_copyFrom : ByteArray := prog_9_method_3_code
def yX7_copyFrom : MethodName := ⟨RX7, "copyFrom", "(LCodedCaching$World;)V"⟩
abbrev cX7_pieces : ByteArray := prog_9_method_4_code
def yX7_pieces : MethodName := ⟨RX7, "pieces", "()I"⟩
abbrev cX7_allPieces : ByteArray := prog_9_method_5_code
def yX7_allPieces : MethodName := ⟨RX7, "allPieces", "()J"⟩
abbrev cX7_partsPerFile : ByteArray := prog_9_method_6_code
def yX7_partsPerFile : MethodName := ⟨RX7, "partsPerFile", "()I"⟩
abbrev cX7_hasUser : ByteArray := prog_9_method_7_code
def yX7_hasUser : MethodName := ⟨RX7, "hasUser", "(I)Z"⟩
abbrev cX7_hasPiece : ByteArray := prog_9_method_8_code
def yX7_hasPiece : MethodName := ⟨RX7, "hasPiece", "(I)Z"⟩
abbrev cX7_isPresent : ByteArray := prog_9_method_9_code
def yX7_isPresent : MethodName := ⟨RX7, "isPresent", "(I)Z"⟩
abbrev cX7_demanding : ByteArray := prog_9_method_10_code
def yX7_demanding : MethodName := ⟨RX7, "demanding", "()I"⟩
abbrev cX7_contentOf : ByteArray := prog_9_method_11_code
def yX7_contentOf : MethodName := ⟨RX7, "contentOf", "(J)I"⟩
abbrev cX7_carryOutPlan : ByteArray := prog_9_method_12_code
def yX7_carryOutPlan : MethodName := ⟨RX7, "carryOutPlan", "()Z"⟩
abbrev cX7_broadcast : ByteArray := prog_9_method_13_code
def yX7_broadcast : MethodName := ⟨RX7, "broadcast", "(I)I"⟩
def RX8 : String := "CodedCaching"
def TX8 : u_T := fun k => match k with
  | 0 => ("CodedCaching", "world", "LCodedCaching$World;", true)
  | 1 => ("CodedCaching", "slots", "[LCodedCaching$World;", true)
  | 2 => ("CodedCaching", "knowledge", "LCodedCaching$Knowledge;", true)
  | 3 => ("CodedCaching", "scheduler", "LCodedCaching$Scheduler;", true)
  | 4 => ("CodedCaching", "boundFinder", "LCodedCaching$BoundFinder;", true)
  | 5 => ("CodedCaching", "scenario", "LCodedCaching$Scenario;", true)
  | 6 => ("CodedCaching", "subsetOfPart", "[I", true)
  | _ => ("CodedCaching", "reason", "I", false)
def tyX8 : Nat → FieldType := fun k => match k with
  | 0 => .object "CodedCaching$World"
  | 1 => .array (.object "CodedCaching$World")
  | 2 => .object "CodedCaching$Knowledge"
  | 3 => .object "CodedCaching$Scheduler"
  | 4 => .object "CodedCaching$BoundFinder"
  | 5 => .object "CodedCaching$Scenario"
  | 6 => .array .int
  | _ => .int
abbrev wsX80 : List Cond := u_ws RX8 TX8 8
theorem nmX8 : ∀ a, a < 8 → ∀ b, b < 8 → a ≠ b → (TX8 a).2.1 ≠ (TX8 b).2.1 := by decide +kernel
theorem tyX8_ok : ∀ k, k < 8 → parseFieldDescriptor (TX8 k).2.2.1 = some (tyX8 k) := by decide +kernel
abbrev cX8_init : ByteArray := prog_1_method_1_code
def yX8_init : MethodName := ⟨RX8, "<init>", "()V"⟩
abbrev cX8_reset : ByteArray := prog_1_method_2_code
def yX8_reset : MethodName := ⟨RX8, "reset", "(III)I"⟩
abbrev cX8_setContent : ByteArray := prog_1_method_3_code
def yX8_setContent : MethodName := ⟨RX8, "setContent", "(II)I"⟩
abbrev cX8_store : ByteArray := prog_1_method_4_code
def yX8_store : MethodName := ⟨RX8, "store", "(II)I"⟩
abbrev cX8_drop : ByteArray := prog_1_method_5_code
def yX8_drop : MethodName := ⟨RX8, "drop", "(II)I"⟩
abbrev cX8_storeSubsets : ByteArray := prog_1_method_6_code
def yX8_storeSubsets : MethodName := ⟨RX8, "storeSubsets", "(I)I"⟩
abbrev cX8_dealSubsets : ByteArray := prog_1_method_7_code
def yX8_dealSubsets : MethodName := ⟨RX8, "dealSubsets", "(I)I"⟩
abbrev cX8_dealtTo : ByteArray := prog_1_method_8_code
def yX8_dealtTo : MethodName := ⟨RX8, "dealtTo", "(I)J"⟩
abbrev cX8_storeRandom : ByteArray := prog_1_method_9_code
def yX8_storeRandom : MethodName := ⟨RX8, "storeRandom", "(I)I"⟩
abbrev cX8_freePiece : ByteArray := prog_1_method_10_code
def yX8_freePiece : MethodName := ⟨RX8, "freePiece", "(JII)J"⟩
abbrev cX8_plan : ByteArray := prog_1_method_11_code
def yX8_plan : MethodName := ⟨RX8, "plan", "(III)I"⟩
abbrev cX8_idle : ByteArray := prog_1_method_12_code
def yX8_idle : MethodName := ⟨RX8, "idle", "(I)I"⟩
abbrev cX8_cached : ByteArray := prog_1_method_13_code
def yX8_cached : MethodName := ⟨RX8, "cached", "(II)I"⟩
abbrev cX8_want : ByteArray := prog_1_method_14_code
def yX8_want : MethodName := ⟨RX8, "want", "(II)I"⟩
abbrev cX8_leave : ByteArray := prog_1_method_15_code
def yX8_leave : MethodName := ⟨RX8, "leave", "(I)I"⟩
abbrev cX8_join : ByteArray := prog_1_method_16_code
def yX8_join : MethodName := ⟨RX8, "join", "(I)I"⟩
abbrev cX8_sum : ByteArray := prog_1_method_17_code
def yX8_sum : MethodName := ⟨RX8, "sum", "(J)I"⟩
abbrev cX8_enqueue : ByteArray := prog_1_method_18_code
def yX8_enqueue : MethodName := ⟨RX8, "enqueue", "(J)I"⟩
abbrev cX8_schedule : ByteArray := prog_1_method_19_code
def yX8_schedule : MethodName := ⟨RX8, "schedule", "(I)I"⟩
abbrev cX8_send : ByteArray := prog_1_method_20_code
def yX8_send : MethodName := ⟨RX8, "send", "(I)I"⟩
abbrev cX8_resend : ByteArray := prog_1_method_21_code
def yX8_resend : MethodName := ⟨RX8, "resend", "(I)I"⟩
abbrev cX8_pending : ByteArray := prog_1_method_22_code
def yX8_pending : MethodName := ⟨RX8, "pending", "(I)J"⟩
abbrev cX8_sent : ByteArray := prog_1_method_23_code
def yX8_sent : MethodName := ⟨RX8, "sent", "(I)J"⟩
abbrev cX8_user : ByteArray := prog_1_method_24_code
def yX8_user : MethodName := ⟨RX8, "user", "(II)I"⟩
abbrev cX8_numberAbout : ByteArray := prog_1_method_25_code
def yX8_numberAbout : MethodName := ⟨RX8, "numberAbout", "(II)I"⟩
abbrev cX8_decode : ByteArray := prog_1_method_26_code
def yX8_decode : MethodName := ⟨RX8, "decode", "(II)I"⟩
abbrev cX8_valueByProof : ByteArray := prog_1_method_27_code
def yX8_valueByProof : MethodName := ⟨RX8, "valueByProof", "(LCodedCaching$Member;IJ)I"⟩
abbrev cX8_proof : ByteArray := prog_1_method_28_code
def yX8_proof : MethodName := ⟨RX8, "proof", "(II)J"⟩
abbrev cX8_need : ByteArray := prog_1_method_29_code
def yX8_need : MethodName := ⟨RX8, "need", "(I)I"⟩
abbrev cX8_bound : ByteArray := prog_1_method_30_code
def yX8_bound : MethodName := ⟨RX8, "bound", "()I"⟩
abbrev cX8_piecesOf : ByteArray := prog_1_method_31_code
def yX8_piecesOf : MethodName := ⟨RX8, "piecesOf", "(I)J"⟩
abbrev cX8_rate : ByteArray := prog_1_method_32_code
def yX8_rate : MethodName := ⟨RX8, "rate", "()I"⟩
abbrev cX8_formula : ByteArray := prog_1_method_33_code
def yX8_formula : MethodName := ⟨RX8, "formula", "(I)I"⟩
abbrev cX8_subsetRate : ByteArray := prog_1_method_34_code
def yX8_subsetRate : MethodName := ⟨RX8, "subsetRate", "(I)F"⟩
abbrev cX8_choose : ByteArray := prog_1_method_35_code
def yX8_choose : MethodName := ⟨RX8, "choose", "(II)I"⟩
abbrev cX8_sharedRate : ByteArray := prog_1_method_36_code
def yX8_sharedRate : MethodName := ⟨RX8, "sharedRate", "()I"⟩
abbrev cX8_bitsOf : ByteArray := prog_1_method_37_code
def yX8_bitsOf : MethodName := ⟨RX8, "bitsOf", "(F)I"⟩
abbrev cX8_type : ByteArray := prog_1_method_38_code
def yX8_type : MethodName := ⟨RX8, "type", "(I)I"⟩
abbrev cX8_clearText : ByteArray := prog_1_method_39_code
def yX8_clearText : MethodName := ⟨RX8, "clearText", "()I"⟩
abbrev cX8_fault : ByteArray := prog_1_method_40_code
def yX8_fault : MethodName := ⟨RX8, "fault", "()I"⟩
abbrev cX8_run : ByteArray := prog_1_method_41_code
def yX8_run : MethodName := ⟨RX8, "run", "()I"⟩
abbrev cX8_makeCall : ByteArray := prog_1_method_42_code
def yX8_makeCall : MethodName := ⟨RX8, "makeCall", "(III)I"⟩
abbrev cX8_why : ByteArray := prog_1_method_43_code
def yX8_why : MethodName := ⟨RX8, "why", "()I"⟩
abbrev cX8_save : ByteArray := prog_1_method_44_code
def yX8_save : MethodName := ⟨RX8, "save", "(I)I"⟩
abbrev cX8_restore : ByteArray := prog_1_method_45_code
def yX8_restore : MethodName := ⟨RX8, "restore", "(I)I"⟩
abbrev cX8_count : ByteArray := prog_1_method_46_code
def yX8_count : MethodName := ⟨RX8, "count", "(I)I"⟩
abbrev cX8_missingInAll : ByteArray := prog_1_method_47_code
def yX8_missingInAll : MethodName := ⟨RX8, "missingInAll", "()I"⟩
abbrev cX8_digest : ByteArray := prog_1_method_48_code
def yX8_digest : MethodName := ⟨RX8, "digest", "()J"⟩
abbrev cX8_digestUser : ByteArray := prog_1_method_49_code
def yX8_digestUser : MethodName := ⟨RX8, "digestUser", "(JI)J"⟩
def RX9 : String := "CodedCachingModel"
def TX9 : u_T := fun k => match k with
  | 0 => ("CodedCachingModel", "m", "[J", true)
  | 1 => ("CodedCachingModel", "saved", "[J", true)
  | 2 => ("CodedCachingModel", "isSaved", "[Z", true)
  | 3 => ("CodedCachingModel", "text", "[I", true)
  | 4 => ("CodedCachingModel", "textLength", "I", false)
  | 5 => ("CodedCachingModel", "why", "I", false)
  | 6 => ("CodedCachingModel", "filled", "[J", true)
  | 7 => ("CodedCachingModel", "top", "[J", true)
  | 8 => ("CodedCachingModel", "from", "[J", true)
  | 9 => ("CodedCachingModel", "rank", "I", false)
  | 10 => ("CodedCachingModel", "left", "J", false)
  | 11 => ("CodedCachingModel", "used", "J", false)
  | 12 => ("CodedCachingModel", "best", "[I", true)
  | 13 => ("CodedCachingModel", "lacks", "[J", true)
  | 14 => ("CodedCachingModel", "pair", "[I", true)
  | 15 => ("CodedCachingModel", "isServed", "[Z", true)
  | 16 => ("CodedCachingModel", "pairs", "I", false)
  | 17 => ("CodedCachingModel", "grouped", "[I", true)
  | 18 => ("CodedCachingModel", "call", "[I", true)
  | 19 => ("CodedCachingModel", "calls", "I", false)
  | 20 => ("CodedCachingModel", "at", "I", false)
  | _ => ("CodedCachingModel", "hash", "J", false)
def tyX9 : Nat → FieldType := fun k => match k with
  | 0 => .array .long
  | 1 => .array .long
  | 2 => .array .boolean
  | 3 => .array .int
  | 4 => .int
  | 5 => .int
  | 6 => .array .long
  | 7 => .array .long
  | 8 => .array .long
  | 9 => .int
  | 10 => .long
  | 11 => .long
  | 12 => .array .int
  | 13 => .array .long
  | 14 => .array .int
  | 15 => .array .boolean
  | 16 => .int
  | 17 => .array .int
  | 18 => .array .int
  | 19 => .int
  | 20 => .int
  | _ => .long
abbrev wsX90 : List Cond := u_ws RX9 TX9 22
theorem nmX9 : ∀ a, a < 22 → ∀ b, b < 22 → a ≠ b → (TX9 a).2.1 ≠ (TX9 b).2.1 := by decide +kernel
theorem tyX9_ok : ∀ k, k < 22 → parseFieldDescriptor (TX9 k).2.2.1 = some (tyX9 k) := by decide +kernel
abbrev cX9_init : ByteArray := prog_11_method_1_code
def yX9_init : MethodName := ⟨RX9, "<init>", "()V"⟩
abbrev cX9_in : ByteArray := prog_11_method_2_code
def yX9_in : MethodName := ⟨RX9, "in", "(JJJ)Z"⟩
abbrev cX9_begins : ByteArray := prog_11_method_3_code
def yX9_begins : MethodName := ⟨RX9, "begins", "(III)V"⟩
abbrev cX9_reset : ByteArray := prog_11_method_4_code
def yX9_reset : MethodName := ⟨RX9, "reset", "(III)I"⟩
abbrev cX9_users : ByteArray := prog_11_method_5_code
def yX9_users : MethodName := ⟨RX9, "users", "()I"⟩
abbrev cX9_pieces : ByteArray := prog_11_method_6_code
def yX9_pieces : MethodName := ⟨RX9, "pieces", "()I"⟩
abbrev cX9_isUser : ByteArray := prog_11_method_7_code
def yX9_isUser : MethodName := ⟨RX9, "isUser", "(I)Z"⟩
abbrev cX9_isPiece : ByteArray := prog_11_method_8_code
def yX9_isPiece : MethodName := ⟨RX9, "isPiece", "(I)Z"⟩
abbrev cX9_has : ByteArray := prog_11_method_9_code
def yX9_has : MethodName := ⟨RX9, "has", "(II)Z"⟩
abbrev cX9_many : ByteArray := prog_11_method_10_code
def yX9_many : MethodName := ⟨RX9, "many", "(J)I"⟩
abbrev cX9_setContent : ByteArray := prog_11_method_11_code
def yX9_setContent : MethodName := ⟨RX9, "setContent", "(II)I"⟩
abbrev cX9_store : ByteArray := prog_11_method_12_code
def yX9_store : MethodName := ⟨RX9, "store", "(II)I"⟩
abbrev cX9_drop : ByteArray := prog_11_method_13_code
def yX9_drop : MethodName := ⟨RX9, "drop", "(II)I"⟩
abbrev cX9_setOf : ByteArray := prog_11_method_14_code
def yX9_setOf : MethodName := ⟨RX9, "setOf", "(II)I"⟩
abbrev cX9_sets : ByteArray := prog_11_method_15_code
def yX9_sets : MethodName := ⟨RX9, "sets", "(I)I"⟩
abbrev cX9_storeSubsets : ByteArray := prog_11_method_16_code
def yX9_storeSubsets : MethodName := ⟨RX9, "storeSubsets", "(I)I"⟩
abbrev cX9_storeRandom : ByteArray := prog_11_method_17_code
def yX9_storeRandom : MethodName := ⟨RX9, "storeRandom", "(I)I"⟩
abbrev cX9_plan : ByteArray := prog_11_method_18_code
def yX9_plan : MethodName := ⟨RX9, "plan", "(III)I"⟩
abbrev cX9_fulfils : ByteArray := prog_11_method_19_code
def yX9_fulfils : MethodName := ⟨RX9, "fulfils", "()I"⟩
abbrev cX9_idle : ByteArray := prog_11_method_20_code
def yX9_idle : MethodName := ⟨RX9, "idle", "(I)I"⟩
abbrev cX9_cached : ByteArray := prog_11_method_21_code
def yX9_cached : MethodName := ⟨RX9, "cached", "(II)I"⟩
abbrev cX9_want : ByteArray := prog_11_method_22_code
def yX9_want : MethodName := ⟨RX9, "want", "(II)I"⟩
abbrev cX9_presents : ByteArray := prog_11_method_23_code
def yX9_presents : MethodName := ⟨RX9, "presents", "()I"⟩
abbrev cX9_comes : ByteArray := prog_11_method_24_code
def yX9_comes : MethodName := ⟨RX9, "comes", "(IJ)I"⟩
abbrev cX9_leave : ByteArray := prog_11_method_25_code
def yX9_leave : MethodName := ⟨RX9, "leave", "(I)I"⟩
abbrev cX9_join : ByteArray := prog_11_method_26_code
def yX9_join : MethodName := ⟨RX9, "join", "(I)I"⟩
abbrev cX9_queues : ByteArray := prog_11_method_27_code
def yX9_queues : MethodName := ⟨RX9, "queues", "(J)I"⟩
abbrev cX9_sum : ByteArray := prog_11_method_28_code
def yX9_sum : MethodName := ⟨RX9, "sum", "(J)I"⟩
abbrev cX9_send : ByteArray := prog_11_method_29_code
def yX9_send : MethodName := ⟨RX9, "send", "(I)I"⟩
abbrev cX9_receives : ByteArray := prog_11_method_30_code
def yX9_receives : MethodName := ⟨RX9, "receives", "(IJ)V"⟩
abbrev cX9_resend : ByteArray := prog_11_method_31_code
def yX9_resend : MethodName := ⟨RX9, "resend", "(I)I"⟩
abbrev cX9_pending : ByteArray := prog_11_method_32_code
def yX9_pending : MethodName := ⟨RX9, "pending", "(I)J"⟩
abbrev cX9_sent : ByteArray := prog_11_method_33_code
def yX9_sent : MethodName := ⟨RX9, "sent", "(I)J"⟩
abbrev cX9_reduces : ByteArray := prog_11_method_34_code
def yX9_reduces : MethodName := ⟨RX9, "reduces", "(JJ)V"⟩
abbrev cX9_adds : ByteArray := prog_11_method_35_code
def yX9_adds : MethodName := ⟨RX9, "adds", "(JJ)V"⟩
abbrev cX9_looksAt : ByteArray := prog_11_method_36_code
def yX9_looksAt : MethodName := ⟨RX9, "looksAt", "(I)V"⟩
abbrev cX9_knows : ByteArray := prog_11_method_37_code
def yX9_knows : MethodName := ⟨RX9, "knows", "(I)Z"⟩
abbrev cX9_missing : ByteArray := prog_11_method_38_code
def yX9_missing : MethodName := ⟨RX9, "missing", "(I)J"⟩
abbrev cX9_known : ByteArray := prog_11_method_39_code
def yX9_known : MethodName := ⟨RX9, "known", "()I"⟩
abbrev cX9_user : ByteArray := prog_11_method_40_code
def yX9_user : MethodName := ⟨RX9, "user", "(II)I"⟩
abbrev cX9_decode : ByteArray := prog_11_method_41_code
def yX9_decode : MethodName := ⟨RX9, "decode", "(II)I"⟩
abbrev cX9_proof : ByteArray := prog_11_method_42_code
def yX9_proof : MethodName := ⟨RX9, "proof", "(II)J"⟩
abbrev cX9_need : ByteArray := prog_11_method_43_code
def yX9_need : MethodName := ⟨RX9, "need", "(I)I"⟩
abbrev cX9_demanding : ByteArray := prog_11_method_44_code
def yX9_demanding : MethodName := ⟨RX9, "demanding", "()I"⟩
abbrev cX9_counts : ByteArray := prog_11_method_45_code
def yX9_counts : MethodName := ⟨RX9, "counts", "(II)I"⟩
abbrev cX9_bound : ByteArray := prog_11_method_46_code
def yX9_bound : MethodName := ⟨RX9, "bound", "()I"⟩
abbrev cX9_holders : ByteArray := prog_11_method_47_code
def yX9_holders : MethodName := ⟨RX9, "holders", "(II)I"⟩
abbrev cX9_plain : ByteArray := prog_11_method_48_code
def yX9_plain : MethodName := ⟨RX9, "plain", "(I)V"⟩
abbrev cX9_listed : ByteArray := prog_11_method_49_code
def yX9_listed : MethodName := ⟨RX9, "listed", "(IIII)I"⟩
abbrev cX9_subset : ByteArray := prog_11_method_50_code
def yX9_subset : MethodName := ⟨RX9, "subset", "(II)V"⟩
abbrev cX9_leaders : ByteArray := prog_11_method_51_code
def yX9_leaders : MethodName := ⟨RX9, "leaders", "(I)I"⟩
abbrev cX9_subsets : ByteArray := prog_11_method_52_code
def yX9_subsets : MethodName := ⟨RX9, "subsets", "(II)V"⟩
abbrev cX9_joins : ByteArray := prog_11_method_53_code
def yX9_joins : MethodName := ⟨RX9, "joins", "(IIJ)Z"⟩
abbrev cX9_group : ByteArray := prog_11_method_54_code
def yX9_group : MethodName := ⟨RX9, "group", "(I)V"⟩
abbrev cX9_greedy : ByteArray := prog_11_method_55_code
def yX9_greedy : MethodName := ⟨RX9, "greedy", "()V"⟩
abbrev cX9_schedule : ByteArray := prog_11_method_56_code
def yX9_schedule : MethodName := ⟨RX9, "schedule", "(I)I"⟩
abbrev cX9_bitsOf : ByteArray := prog_11_method_57_code
def yX9_bitsOf : MethodName := ⟨RX9, "bitsOf", "(F)I"⟩
abbrev cX9_rate : ByteArray := prog_11_method_58_code
def yX9_rate : MethodName := ⟨RX9, "rate", "()I"⟩
abbrev cX9_choose : ByteArray := prog_11_method_59_code
def yX9_choose : MethodName := ⟨RX9, "choose", "(II)I"⟩
abbrev cX9_rateOf : ByteArray := prog_11_method_60_code
def yX9_rateOf : MethodName := ⟨RX9, "rateOf", "(I)F"⟩
abbrev cX9_formula : ByteArray := prog_11_method_61_code
def yX9_formula : MethodName := ⟨RX9, "formula", "(I)I"⟩
abbrev cX9_sharedRate : ByteArray := prog_11_method_62_code
def yX9_sharedRate : MethodName := ⟨RX9, "sharedRate", "()I"⟩
abbrev cX9_type : ByteArray := prog_11_method_63_code
def yX9_type : MethodName := ⟨RX9, "type", "(I)I"⟩
abbrev cX9_clearText : ByteArray := prog_11_method_64_code
def yX9_clearText : MethodName := ⟨RX9, "clearText", "()I"⟩
abbrev cX9_next : ByteArray := prog_11_method_65_code
def yX9_next : MethodName := ⟨RX9, "next", "()I"⟩
abbrev cX9_isDigit : ByteArray := prog_11_method_66_code
def yX9_isDigit : MethodName := ⟨RX9, "isDigit", "()Z"⟩
abbrev cX9_blanks : ByteArray := prog_11_method_67_code
def yX9_blanks : MethodName := ⟨RX9, "blanks", "()V"⟩
abbrev cX9_number : ByteArray := prog_11_method_68_code
def yX9_number : MethodName := ⟨RX9, "number", "(I)I"⟩
abbrev cX9_argumentsOf : ByteArray := prog_11_method_69_code
def yX9_argumentsOf : MethodName := ⟨RX9, "argumentsOf", "(I)I"⟩
abbrev cX9_reads : ByteArray := prog_11_method_70_code
def yX9_reads : MethodName := ⟨RX9, "reads", "()Z"⟩
abbrev cX9_fault : ByteArray := prog_11_method_71_code
def yX9_fault : MethodName := ⟨RX9, "fault", "()I"⟩
abbrev cX9_does : ByteArray := prog_11_method_72_code
def yX9_does : MethodName := ⟨RX9, "does", "(I)I"⟩
abbrev cX9_run : ByteArray := prog_11_method_73_code
def yX9_run : MethodName := ⟨RX9, "run", "()I"⟩
abbrev cX9_why : ByteArray := prog_11_method_74_code
def yX9_why : MethodName := ⟨RX9, "why", "()I"⟩
abbrev cX9_save : ByteArray := prog_11_method_75_code
def yX9_save : MethodName := ⟨RX9, "save", "(I)I"⟩
abbrev cX9_restore : ByteArray := prog_11_method_76_code
def yX9_restore : MethodName := ⟨RX9, "restore", "(I)I"⟩
abbrev cX9_allMissing : ByteArray := prog_11_method_77_code
def yX9_allMissing : MethodName := ⟨RX9, "allMissing", "()I"⟩
abbrev cX9_count : ByteArray := prog_11_method_78_code
def yX9_count : MethodName := ⟨RX9, "count", "(I)I"⟩
abbrev cX9_mixes : ByteArray := prog_11_method_79_code
def yX9_mixes : MethodName := ⟨RX9, "mixes", "(J)V"⟩
abbrev cX9_digest : ByteArray := prog_11_method_80_code
def yX9_digest : MethodName := ⟨RX9, "digest", "()J"⟩
def RJ6 : String := "java/lang/Integer"
def TJ6 : u_T := fun k => match k with
  | _ => ("", "", "", false)
def tyJ6 : Nat → FieldType := fun k => match k with
  | _ => .int
abbrev wsJ60 : List Cond := u_ws RJ6 TJ6 0
theorem nmJ6 : ∀ a, a < 0 → ∀ b, b < 0 → a ≠ b → (TJ6 a).2.1 ≠ (TJ6 b).2.1 := by decide +kernel
theorem tyJ6_ok : ∀ k, k < 0 → parseFieldDescriptor (TJ6 k).2.2.1 = some (tyJ6 k) := by decide +kernel
abbrev cJ6_bitCount_0f7a4 : ByteArray := prog_12_method_49_code
def yJ6_bitCount_0f7a4 : MethodName := ⟨RJ6, "bitCount", "(I)I"⟩
def RJ13 : String := "java/lang/Long"
def TJ13 : u_T := fun k => match k with
  | _ => ("", "", "", false)
def tyJ13 : Nat → FieldType := fun k => match k with
  | _ => .int
abbrev wsJ130 : List Cond := u_ws RJ13 TJ13 0
theorem nmJ13 : ∀ a, a < 0 → ∀ b, b < 0 → a ≠ b → (TJ13 a).2.1 ≠ (TJ13 b).2.1 := by decide +kernel
theorem tyJ13_ok : ∀ k, k < 0 → parseFieldDescriptor (TJ13 k).2.2.1 = some (tyJ13 k) := by decide +kernel
abbrev cJ13_bitCount_95d88 : ByteArray := prog_13_method_50_code
def yJ13_bitCount_95d88 : MethodName := ⟨RJ13, "bitCount", "(J)I"⟩
def RJ9 : String := "java/lang/Math"
def TJ9 : u_T := fun k => match k with
  | _ => ("", "", "", false)
def tyJ9 : Nat → FieldType := fun k => match k with
  | _ => .int
abbrev wsJ90 : List Cond := u_ws RJ9 TJ9 0
theorem nmJ9 : ∀ a, a < 0 → ∀ b, b < 0 → a ≠ b → (TJ9 a).2.1 ≠ (TJ9 b).2.1 := by decide +kernel
theorem tyJ9_ok : ∀ k, k < 0 → parseFieldDescriptor (TJ9 k).2.2.1 = some (tyJ9 k) := by decide +kernel
abbrev cJ9_max_7cf53 : ByteArray := prog_14_method_65_code
def yJ9_max_7cf53 : MethodName := ⟨RJ9, "max", "(II)I"⟩
abbrev cJ9_min_7cf53 : ByteArray := prog_14_method_69_code
def yJ9_min_7cf53 : MethodName := ⟨RJ9, "min", "(II)I"⟩
def RJ10 : String := "java/lang/System"
def TJ10 : u_T := fun k => match k with
  | _ => ("", "", "", false)
def tyJ10 : Nat → FieldType := fun k => match k with
  | _ => .int
abbrev wsJ100 : List Cond := u_ws RJ10 TJ10 0
theorem nmJ10 : ∀ a, a < 0 → ∀ b, b < 0 → a ≠ b → (TJ10 a).2.1 ≠ (TJ10 b).2.1 := by decide +kernel
theorem tyJ10_ok : ∀ k, k < 0 → parseFieldDescriptor (TJ10 k).2.2.1 = some (tyJ10 k) := by decide +kernel
def RL : String := "CodedCachingLaw"
abbrev cL_law : ByteArray := code
def yL_law : MethodName := ⟨RL, "law", "([I)Z"⟩
abbrev vwCl : List vw_C := [(RX0, TX0, 2), (RX1, TX1, 6), (RX2, TX2, 3), (RX3, TX3, 4), (RX4, TX4, 7), (RX5, TX5, 5), (RX6, TX6, 4), (RX7, TX7, 10), (RX8, TX8, 8), (RX9, TX9, 22)]
end
section
/-! plain instructions as a function of pc, locals and stack, and that the machine does them -/
def lkv : List (Nat × Value) → Nat → Option Value
  | [], _ => none
  | (j, v) :: t, k => if j == k then some v else lkv t k
theorem lkv_mem : ∀ {lv : List (Nat × Value)} {k : Nat} {v : Value}, lkv lv k = some v → (k, v) ∈ lv
  | [], _, _, h => by cases h
  | (j, w) :: t, k, v, h => by
    unfold lkv at h
    by_cases e : j == k
    · rw [if_pos e] at h
      cases h
      rw [beq_iff_eq] at e
      subst e
      exact List.mem_cons_self
    · rw [if_neg e] at h
      exact List.mem_cons_of_mem _ (lkv_mem h)
def insv (i : Nat) (v : Value) : List (Nat × Value) → List (Nat × Value)
  | [] => [(i, v)]
  | (j, w) :: t => if Nat.blt i j then (i, v) :: (j, w) :: t else (j, w) :: insv i v t
theorem insv_mem {i : Nat} {v : Value} {q : Nat × Value} : ∀ {l : List (Nat × Value)}, q ∈ insv i v l → q ∈ (i, v) :: l
  | [], h => h
  | (j, w) :: t, h => by
    unfold insv at h
    by_cases e : Nat.blt i j = true
    · rw [if_pos e] at h
      exact h
    · rw [if_neg e] at h
      rcases List.mem_cons.mp h with h | h
      · subst h
        exact List.mem_cons_of_mem _ List.mem_cons_self
      · rcases List.mem_cons.mp (insv_mem h) with h | h
        · subst h
          exact List.mem_cons_self
        · exact List.mem_cons_of_mem _ (List.mem_cons_of_mem _ h)
def sv1 (i : Nat) (v : Value) (lv : List (Nat × Value)) : List (Nat × Value) := insv i v (lv.filter (fun q => !(q.1 == i) && !(q.1 + 1 == i && q.2.category == 2)))
def sv2 (i : Nat) (v : Value) (lv : List (Nat × Value)) : List (Nat × Value) := insv i v (lv.filter (fun q => !(q.1 == i) && (!(q.1 == i + 1) && !(q.1 + 1 == i && q.2.category == 2))))
theorem lv_less {ls : Array Slot} {nL : Nat} {l l' : List (Nat × Value)} (h : lv_has ls nL l) (hs : ∀ q ∈ l', q ∈ l) : lv_has ls nL l' := ⟨h.1, h.2.1, fun q hq => h.2.2 q (hs q hq)⟩
theorem lkv_at {ls : Array Slot} {nL : Nat} {lv : List (Nat × Value)} {k : Nat} {v : Value} (h : lv_has ls nL lv) (hk : lkv lv k = some v) : ls[k]? = some (.val v) := h.2.2 (k, v) (lkv_mem hk)
abbrev SR : Type := Option (Nat × List (Nat × Value) × List Value)
def st1 (nL : Nat) (i : Instr) (len pc : Nat) (lv : List (Nat × Value)) (st : List Value) : SR :=
  match i, len with
  | .iload_n k, 1 => match lkv lv k.val with
    | some (.int x) => some (pc + 1, lv, .int x :: st)
    | _ => none
  | .iload k, 2 => match lkv lv k with
    | some (.int x) => some (pc + 2, lv, .int x :: st)
    | _ => none
  | .lload_n k, 1 => match lkv lv k.val with
    | some (.long x) => some (pc + 1, lv, .long x :: st)
    | _ => none
  | .lload k, 2 => match lkv lv k with
    | some (.long x) => some (pc + 2, lv, .long x :: st)
    | _ => none
  | .aload_n k, 1 => match lkv lv k.val with
    | some (.ref x) => some (pc + 1, lv, .ref x :: st)
    | _ => none
  | .aload k, 2 => match lkv lv k with
    | some (.ref x) => some (pc + 2, lv, .ref x :: st)
    | _ => none
  | .fload_n k, 1 => match lkv lv k.val with
    | some (.float x) => some (pc + 1, lv, .float x :: st)
    | _ => none
  | .fload k, 2 => match lkv lv k with
    | some (.float x) => some (pc + 2, lv, .float x :: st)
    | _ => none
  | .iconst n, 1 => some (pc + 1, lv, .int (Int32.ofInt n) :: st)
  | .bipush n, 2 => some (pc + 2, lv, .int (Int8.ofInt n).toInt32 :: st)
  | .sipush n, 3 => some (pc + 3, lv, .int (Int16.ofInt n).toInt32 :: st)
  | .lconst n, 1 => some (pc + 1, lv, .long (Int64.ofNat (n : Nat)) :: st)
  | .goto off, 3 => match (pc : Int) + off with
    | .ofNat t => some (t, lv, st)
    | _ => none
  | .iinc k n, 3 => match lkv lv k with
    | some (.int x) => if k < nL then some (pc + 3, sv1 k (.int (x + Int32.ofInt n)) lv, st) else none
    | _ => none
  | _, _ => none
def st2 (nL : Nat) (i : Instr) (len pc : Nat) (lv : List (Nat × Value)) (st : List Value) : SR :=
  match i, len, st with
  | .istore_n k, 1, .int x :: r => if k.val < nL then some (pc + 1, sv1 k.val (.int x) lv, r) else none
  | .istore k, 2, .int x :: r => if k < nL then some (pc + 2, sv1 k (.int x) lv, r) else none
  | .lstore_n k, 1, .long x :: r => if k.val + 1 < nL then some (pc + 1, sv2 k.val (.long x) lv, r) else none
  | .lstore k, 2, .long x :: r => if k + 1 < nL then some (pc + 2, sv2 k (.long x) lv, r) else none
  | .fstore_n k, 1, .float x :: r => if k.val < nL then some (pc + 1, sv1 k.val (.float x) lv, r) else none
  | .fstore k, 2, .float x :: r => if k < nL then some (pc + 2, sv1 k (.float x) lv, r) else none
  | .astore_n k, 1, .ref x :: r => if k.val < nL then some (pc + 1, sv1 k.val (.ref x) lv, r) else none
  | .astore k, 2, .ref x :: r => if k < nL then some (pc + 2, sv1 k (.ref x) lv, r) else none
  | .iadd, 1, .int y :: .int x :: r => some (pc + 1, lv, .int (x + y) :: r)
  | .isub, 1, .int y :: .int x :: r => some (pc + 1, lv, .int (x - y) :: r)
  | .imul, 1, .int y :: .int x :: r => some (pc + 1, lv, .int (x * y) :: r)
  | .iand, 1, .int y :: .int x :: r => some (pc + 1, lv, .int (x &&& y) :: r)
  | .ior, 1, .int y :: .int x :: r => some (pc + 1, lv, .int (x ||| y) :: r)
  | .ixor, 1, .int y :: .int x :: r => some (pc + 1, lv, .int (x ^^^ y) :: r)
  | .ishl, 1, .int y :: .int x :: r => some (pc + 1, lv, .int (x <<< (y &&& 31)) :: r)
  | .ishr, 1, .int y :: .int x :: r => some (pc + 1, lv, .int (x >>> (y &&& 31)) :: r)
  | .iushr, 1, .int y :: .int x :: r => some (pc + 1, lv, .int (x.toUInt32 >>> (y.toUInt32 &&& Int32.toUInt32 31)).toInt32 :: r)
  | _, _, _ => none
def st3 (i : Instr) (len pc : Nat) (lv : List (Nat × Value)) (st : List Value) : SR :=
  match i, len, st with
  | .ladd, 1, .long y :: .long x :: r => some (pc + 1, lv, .long (x + y) :: r)
  | .lsub, 1, .long y :: .long x :: r => some (pc + 1, lv, .long (x - y) :: r)
  | .lmul, 1, .long y :: .long x :: r => some (pc + 1, lv, .long (x * y) :: r)
  | .land, 1, .long y :: .long x :: r => some (pc + 1, lv, .long (x &&& y) :: r)
  | .lor, 1, .long y :: .long x :: r => some (pc + 1, lv, .long (x ||| y) :: r)
  | .lxor, 1, .long y :: .long x :: r => some (pc + 1, lv, .long (x ^^^ y) :: r)
  | .lshl, 1, .int y :: .long x :: r => some (pc + 1, lv, .long (x <<< (y.toInt64 &&& 63)) :: r)
  | .lshr, 1, .int y :: .long x :: r => some (pc + 1, lv, .long (x >>> (y.toInt64 &&& 63)) :: r)
  | .lushr, 1, .int y :: .long x :: r => some (pc + 1, lv, .long (x.toUInt64 >>> (y.toInt64.toUInt64 &&& Int64.toUInt64 63)).toInt64 :: r)
  | .lneg, 1, .long x :: r => some (pc + 1, lv, .long (-x) :: r)
  | .i2l, 1, .int x :: r => some (pc + 1, lv, .long x.toInt64 :: r)
  | .l2i, 1, .long x :: r => some (pc + 1, lv, .int x.toInt32 :: r)
  | .lcmp, 1, .long y :: .long x :: r => some (pc + 1, lv, .int (lg_cmp x y) :: r)
  | .i2f, 1, .int x :: r => some (pc + 1, lv, .float (FP.i2f x) :: r)
  | .f2i, 1, .float x :: r => some (pc + 1, lv, .int (FP.f2i x) :: r)
  | .fcmp op, 1, .float y :: .float x :: r => some (pc + 1, lv, .int (Op.cmpValue (FP.fcmp x y) op) :: r)
  | .dup, 1, v :: r => if v.category = 1 then some (pc + 1, lv, v :: v :: r) else none
  | .pop, 1, v :: r => if v.category = 1 then some (pc + 1, lv, r) else none
  | _, _, _ => none
def st4 (i : Instr) (len pc : Nat) (lv : List (Nat × Value)) (st : List Value) : SR :=
  match i, len, st with
  | .dup2, 1, v :: r => if v.category = 2 then some (pc + 1, lv, v :: v :: r) else match r with
    | w :: r => if v.category = 1 then (if w.category = 1 then some (pc + 1, lv, v :: w :: v :: w :: r) else none) else none
    | _ => none
  | .fconst k, 1, r => match k with
    | 0 => some (pc + 1, lv, .float FP.fconst0 :: r)
    | 1 => some (pc + 1, lv, .float FP.fconst1 :: r)
    | 2 => some (pc + 1, lv, .float FP.fconst2 :: r)
  | _, _, _ => none
def stp (nL : Nat) (i : Instr) (len pc : Nat) (lv : List (Nat × Value)) (st : List Value) : SR :=
  match st1 nL i len pc lv st with
  | some r => some r
  | none => match st2 nL i len pc lv st with
    | some r => some r
    | none => match st3 i len pc lv st with
      | some r => some r
      | none => st4 i len pc lv st
section StepOk
variable {p : Program} {l : Launch} {e : Env} {R : Room} {s : State} {m : MethodId} {args : Array Value} {below : List Frame} {meth : Method} {c : Code} {H : Heap} {locs : List Loc} {cells slots : Nat} {Q : State → Prop} {cc : ByteArray} {ls : Array Slot} {nL : Nat} {i : Instr} {len pc : Nat} {lv : List (Nat × Value)} {st : List Value} {pc' : Nat} {lv' : List (Nat × Value)} {st' : List Value}
theorem st1_ok (hx : p.tables.exec = Jvm.exec) (hb : c.code = cc) (d : decode cc pc = .ok (i, len)) (h : st1 nL i len pc lv st = some (pc', lv', st')) (hl : lv_has ls nL lv) (k : ∀ ls', lv_has ls' nL lv' → W p l e R s m args below meth c H locs cells slots Q (F0 m pc' ls' st')) : W p l e R s m args below meth c H locs cells slots Q (F0 m pc ls st) := by
  unfold st1 at h
  split at h
  case h_1 => split at h <;> first | (cases h; exact lv_iload_n hx hb d rfl (lkv_at hl (by assumption)) (k _ hl)) | cases h
  case h_2 => split at h <;> first | (cases h; exact lv_iload hx hb d (lkv_at hl (by assumption)) (k _ hl)) | cases h
  case h_3 => split at h <;> first | (cases h; exact lv_lload_n hx hb d rfl (lkv_at hl (by assumption)) (k _ hl)) | cases h
  case h_4 => split at h <;> first | (cases h; exact lv_lload hx hb d (lkv_at hl (by assumption)) (k _ hl)) | cases h
  case h_5 => split at h <;> first | (cases h; exact lv_aload_n hx hb d rfl (lkv_at hl (by assumption)) (k _ hl)) | cases h
  case h_6 => split at h <;> first | (cases h; exact lv_aload hx hb d (lkv_at hl (by assumption)) (k _ hl)) | cases h
  case h_7 => split at h <;> first | (cases h; exact lv_fload_n hx hb d rfl (lkv_at hl (by assumption)) (k _ hl)) | cases h
  case h_8 => split at h <;> first | (cases h; exact lv_fload hx hb d (lkv_at hl (by assumption)) (k _ hl)) | cases h
  case h_9 => cases h; exact lv_iconst hx hb d rfl (k _ hl)
  case h_10 => cases h; exact lv_bipush hx hb d rfl (k _ hl)
  case h_11 => cases h; exact lv_sipush hx hb d rfl (k _ hl)
  case h_12 => cases h; exact lv_lconst hx hb d rfl (k _ hl)
  case h_13 => split at h <;> first | (cases h; exact lv_goto hx hb d (by assumption) (k _ hl)) | cases h
  case h_14 =>
    split at h
    · rename_i x hk
      split at h
      · cases h
        obtain ⟨q, hq⟩ := List.getElem?_of_mem (lkv_mem hk)
        exact lv_iinc hx hb d hl hq rfl (by assumption) rfl (fun ls' h' => k ls' (lv_less h' (fun q hq => insv_mem hq)))
      · cases h
    · cases h
  case h_15 => cases h
theorem st2_ok (hx : p.tables.exec = Jvm.exec) (hb : c.code = cc) (d : decode cc pc = .ok (i, len)) (h : st2 nL i len pc lv st = some (pc', lv', st')) (hl : lv_has ls nL lv) (k : ∀ ls', lv_has ls' nL lv' → W p l e R s m args below meth c H locs cells slots Q (F0 m pc' ls' st')) : W p l e R s m args below meth c H locs cells slots Q (F0 m pc ls st) := by
  unfold st2 at h
  split at h
  case h_1 => split at h <;> first | (cases h; exact lv_istore_n hx hb d rfl hl (by assumption) rfl (fun ls' h' => k ls' (lv_less h' (fun q hq => insv_mem hq)))) | cases h
  case h_2 => split at h <;> first | (cases h; exact lv_istore hx hb d hl (by assumption) rfl (fun ls' h' => k ls' (lv_less h' (fun q hq => insv_mem hq)))) | cases h
  case h_3 => split at h <;> first | (cases h; exact lv_lstore_n hx hb d rfl hl (by assumption) rfl (fun ls' h' => k ls' (lv_less h' (fun q hq => insv_mem hq)))) | cases h
  case h_4 => split at h <;> first | (cases h; exact lv_lstore hx hb d hl (by assumption) rfl (fun ls' h' => k ls' (lv_less h' (fun q hq => insv_mem hq)))) | cases h
  case h_5 => split at h <;> first | (cases h; exact lv_fstore_n hx hb d rfl hl (by assumption) rfl (fun ls' h' => k ls' (lv_less h' (fun q hq => insv_mem hq)))) | cases h
  case h_6 => split at h <;> first | (cases h; exact lv_fstore hx hb d hl (by assumption) rfl (fun ls' h' => k ls' (lv_less h' (fun q hq => insv_mem hq)))) | cases h
  case h_7 => split at h <;> first | (cases h; exact lv_astore_n hx hb d rfl hl (by assumption) rfl (fun ls' h' => k ls' (lv_less h' (fun q hq => insv_mem hq)))) | cases h
  case h_8 => split at h <;> first | (cases h; exact lv_astore hx hb d hl (by assumption) rfl (fun ls' h' => k ls' (lv_less h' (fun q hq => insv_mem hq)))) | cases h
  case h_9 => cases h; exact lv_iadd hx hb d (k _ hl)
  case h_10 => cases h; exact lv_isub hx hb d (k _ hl)
  case h_11 => cases h; exact lv_imul hx hb d (k _ hl)
  case h_12 => cases h; exact lv_iand hx hb d (k _ hl)
  case h_13 => cases h; exact lv_ior hx hb d (k _ hl)
  case h_14 => cases h; exact lv_ixor hx hb d (k _ hl)
  case h_15 => cases h; exact lv_ishl hx hb d (k _ hl)
  case h_16 => cases h; exact lv_ishr hx hb d (k _ hl)
  case h_17 => cases h; exact lv_iushr hx hb d rfl (k _ hl)
  case h_18 => cases h
theorem st3_ok (hx : p.tables.exec = Jvm.exec) (hb : c.code = cc) (d : decode cc pc = .ok (i, len)) (h : st3 i len pc lv st = some (pc', lv', st')) (hl : lv_has ls nL lv) (k : ∀ ls', lv_has ls' nL lv' → W p l e R s m args below meth c H locs cells slots Q (F0 m pc' ls' st')) : W p l e R s m args below meth c H locs cells slots Q (F0 m pc ls st) := by
  unfold st3 at h
  split at h
  case h_1 => cases h; exact lv_ladd hx hb d (k _ hl)
  case h_2 => cases h; exact lv_lsub hx hb d (k _ hl)
  case h_3 => cases h; exact lv_lmul hx hb d (k _ hl)
  case h_4 => cases h; exact lv_land hx hb d (k _ hl)
  case h_5 => cases h; exact lv_lor hx hb d (k _ hl)
  case h_6 => cases h; exact lv_lxor hx hb d (k _ hl)
  case h_7 => cases h; exact lv_lshl hx hb d rfl (k _ hl)
  case h_8 => cases h; exact lv_lshr hx hb d rfl (k _ hl)
  case h_9 => cases h; exact lv_lushr hx hb d rfl (k _ hl)
  case h_10 => cases h; exact lv_lneg hx hb d (k _ hl)
  case h_11 => cases h; exact lv_i2l hx hb d rfl (k _ hl)
  case h_12 => cases h; exact lv_l2i hx hb d rfl (k _ hl)
  case h_13 => cases h; exact W.lcmp hx hb d (k _ hl)
  case h_14 => cases h; exact lv_i2f hx hb d (k _ hl)
  case h_15 => cases h; exact lv_f2i hx hb d (k _ hl)
  case h_16 => cases h; exact lv_fcmp hx hb d (k _ hl)
  case h_17 => split at h <;> first | (cases h; exact lv_dup hx hb d (by assumption) (k _ hl)) | cases h
  case h_18 => split at h <;> first | (cases h; exact lv_pop hx hb d (by assumption) (k _ hl)) | cases h
  case h_19 => cases h
theorem st4_ok (hx : p.tables.exec = Jvm.exec) (hb : c.code = cc) (d : decode cc pc = .ok (i, len)) (h : st4 i len pc lv st = some (pc', lv', st')) (hl : lv_has ls nL lv) (k : ∀ ls', lv_has ls' nL lv' → W p l e R s m args below meth c H locs cells slots Q (F0 m pc' ls' st')) : W p l e R s m args below meth c H locs cells slots Q (F0 m pc ls st) := by
  unfold st4 at h
  split at h
  case h_1 =>
    split at h
    · cases h; exact lv_dup2_2 hx hb d (by assumption) (k _ hl)
    · split at h
      · split at h
        · split at h
          · cases h; exact lv_dup2_11 hx hb d (by assumption) (by assumption) (k _ hl)
          · cases h
        · cases h
      · cases h
  case h_2 =>
    split at h
    · cases h; exact lv_fconst0 hx hb d (k _ hl)
    · cases h; exact lv_fconst1 hx hb d (k _ hl)
    · cases h; exact lv_fconst2 hx hb d (k _ hl)
  case h_3 => cases h
theorem stp_ok (hx : p.tables.exec = Jvm.exec) (hb : c.code = cc) (d : decode cc pc = .ok (i, len)) (h : stp nL i len pc lv st = some (pc', lv', st')) (hl : lv_has ls nL lv) (k : ∀ ls', lv_has ls' nL lv' → W p l e R s m args below meth c H locs cells slots Q (F0 m pc' ls' st')) : W p l e R s m args below meth c H locs cells slots Q (F0 m pc ls st) := by
  unfold stp at h
  split at h
  · rename_i r h1
    cases h
    exact st1_ok hx hb d h1 hl k
  · split at h
    · rename_i r h1
      cases h
      exact st2_ok hx hb d h1 hl k
    · split at h
      · rename_i r h1
        cases h
        exact st3_ok hx hb d h1 hl k
      · exact st4_ok hx hb d h hl k
end StepOk
end
section
/-! runs of plain instructions by a table; the pool of cells by layout places -/
abbrev TB : Type := List (Nat × Instr × Nat)
def fnd : TB → Nat → Option (Instr × Nat)
  | [], _ => none
  | (q, i, n) :: t, pc => if q == pc then some (i, n) else fnd t pc
def tbOk (cc : ByteArray) (tb : TB) : Prop := ∀ r ∈ tb, decode cc r.1 = .ok (r.2.1, r.2.2)
def tbAll (cc : ByteArray) (tb : TB) : Bool := tb.all (fun r => decide (decode cc r.1 = .ok (r.2.1, r.2.2)))
theorem tbOk_of {cc : ByteArray} {tb : TB} (h : tbAll cc tb = true) : tbOk cc tb := fun r hr => of_decide_eq_true (List.all_eq_true.mp h r hr)
theorem fnd_mem : ∀ {tb : TB} {pc : Nat} {i : Instr} {n : Nat}, fnd tb pc = some (i, n) → (pc, i, n) ∈ tb
  | [], _, _, _, h => by cases h
  | (q, j, k) :: t, pc, i, n, h => by
    unfold fnd at h
    by_cases e : q == pc
    · rw [if_pos e] at h
      cases h
      rw [beq_iff_eq] at e
      subst e
      exact List.mem_cons_self
    · rw [if_neg e] at h
      exact List.mem_cons_of_mem _ (fnd_mem h)
theorem fnd_dec {cc : ByteArray} {tb : TB} (hok : tbOk cc tb) {pc : Nat} {i : Instr} {n : Nat} (h : fnd tb pc = some (i, n)) : decode cc pc = .ok (i, n) := hok (pc, i, n) (fnd_mem h)
def stpN (nL : Nat) (tb : TB) : Nat → Nat → List (Nat × Value) → List Value → SR
  | 0, pc, lv, st => some (pc, lv, st)
  | k + 1, pc, lv, st => match fnd tb pc with
    | some (i, n) => match stp nL i n pc lv st with
      | some (pc', lv', st') => stpN nL tb k pc' lv' st'
      | none => none
    | none => none
/-- fields by class: 0 an int, 1 a long, 2 a reference, 3 a boolean -/
def fkd : Nat → List Nat
  | 0 => [2, 2]
  | 1 => [2, 2, 2, 0, 1, 1]
  | 2 => [2, 1, 0]
  | 3 => [2, 2, 2, 0]
  | 4 => [2, 0, 0, 3, 0, 0, 0]
  | 5 => [2, 2, 2, 0, 0]
  | 6 => [2, 2, 0, 0]
  | 7 => [2, 2, 2, 2, 2, 0, 0, 0, 0, 0]
  | 8 => [2, 2, 2, 2, 2, 2, 2, 0]
  | 9 => [2, 2, 2, 2, 0, 0, 2, 2, 2, 0, 1, 1, 2, 2, 2, 2, 0, 2, 2, 0, 0, 1]
  | _ => []
abbrev FI : Type := Nat → Nat → Int32
abbrev FJ : Type := Nat → Nat → Int64
abbrev FP' : Type := Nat → Nat → Option Nat
abbrev CY : Type := ClassId × ClassId × ClassId × ClassId × ClassId
/-- where the places lie, their kinds, lengths, references of fields and of arrays -/
abbrev PS : Type := (Nat → Nat) × (Nat → Nat) × (Nat → Nat) × FP' × FP'
def fcl (ad : Nat → Nat) (P : FP') (I : FI) (J : FJ) (i k kd : Nat) : Value := if kd = 1 then .long (J i k) else if kd = 2 then va_rf ((P i k).map ad) else .int (I i k)
def cel (cy : CY) (Y : PS) (I : FI) (J : FJ) (A : FI) (B : FJ) (i : Nat) : va_E :=
  if Y.2.1 i = 10 then .inl (cy.1, Y.2.2.1 i, .inl (A i))
  else if Y.2.1 i = 11 then .inl (cy.2.1, Y.2.2.1 i, .inr (.inl (B i)))
  else if Y.2.1 i = 12 then .inl (cy.2.2.1, Y.2.2.1 i, .inl (A i))
  else if Y.2.1 i = 13 then .inl (cy.2.2.2.1, Y.2.2.1 i, .inr (.inr (.inr (.inr (fun j => (Y.2.2.2.2 i j).map Y.1)))))
  else if Y.2.1 i = 14 then .inl (cy.2.2.2.2, Y.2.2.1 i, .inr (.inr (.inr (.inr (fun j => (Y.2.2.2.2 i j).map Y.1)))))
  else .inr (Y.2.1 i, (fkd (Y.2.1 i)).mapIdx (fcl Y.1 Y.2.2.2.1 I J i))
def lst (K : Nat → Nat) : List Nat := (List.range 600).filter (fun i => decide (K i < 15))
def pool (cy : CY) (Y : PS) (I : FI) (J : FJ) (A : FI) (B : FJ) : va_W := (lst Y.2.1).map fun i => (Y.1 i, cel cy Y I J A B i)
def up2 {α : Type} (f : Nat → Nat → α) (i k : Nat) (v : α) : Nat → Nat → α := va_up f i (va_up (f i) k v)
theorem up2_eq {α : Type} (f : Nat → Nat → α) (i k : Nat) (v : α) (a b : Nat) : up2 f i k v a b = if a = i then (if b = k then v else f i b) else f a b := by
  unfold up2 va_up
  by_cases h : a = i
  · rw [if_pos h, if_pos h]
  · rw [if_neg h, if_neg h]
theorem up2_same {α : Type} (f : Nat → Nat → α) (i k : Nat) (v : α) : up2 f i k v i k = v := by rw [up2_eq, if_pos rfl, if_pos rfl]
theorem up2_row {α : Type} (f : Nat → Nat → α) {i a : Nat} (k : Nat) (v : α) (h : a ≠ i) : up2 f i k v a = f a := by funext b; rw [up2_eq, if_neg h]
theorem up2_ne {α : Type} (f : Nat → Nat → α) {i a : Nat} (k : Nat) (v : α) (b : Nat) (h : a ≠ i) : up2 f i k v a b = f a b := by rw [up2_row f k v h]
theorem up2_ix {α : Type} (f : Nat → Nat → α) (i : Nat) {k b : Nat} (v : α) (h : b ≠ k) : up2 f i k v i b = f i b := by rw [up2_eq, if_pos rfl, if_neg h]
theorem lst_at {K : Nat → Nat} {i : Nat} (hK : K i < 15) (hi : i < 600) : ∃ q : Nat, (lst K)[q]? = some i := by
  apply List.getElem?_of_mem
  unfold lst
  exact List.mem_filter.mpr ⟨List.mem_range.mpr hi, decide_eq_true hK⟩
theorem lst_in {K : Nat → Nat} {i : Nat} (h : i ∈ lst K) : K i < 15 ∧ i < 600 := by
  unfold lst at h
  obtain ⟨h1, h2⟩ := List.mem_filter.mp h
  exact ⟨of_decide_eq_true h2, List.mem_range.mp h1⟩
theorem pool_get {cy : CY} {Y : PS} {I : FI} {J : FJ} {A : FI} {B : FJ} {q i : Nat} (h : (lst Y.2.1)[q]? = some i) : (pool cy Y I J A B)[q]? = some (Y.1 i, cel cy Y I J A B i) := by
  unfold pool
  rw [List.getElem?_map, h]
  rfl
theorem pool_set {A0 : Nat → Prop} {cy : CY} {Y Y' : PS} {I I' : FI} {J J' : FJ} {A A' : FI} {B B' : FJ} {q i : Nat} (hD : va_D A0 (pool cy Y I J A B)) (h : (lst Y.2.1)[q]? = some i) (h1 : Y'.1 = Y.1) (h2 : Y'.2.1 = Y.2.1) (hc : ∀ j, j ≠ i → cel cy Y' I' J' A' B' j = cel cy Y I J A B j) {x : va_E} (hx : cel cy Y' I' J' A' B' i = x) : (pool cy Y I J A B).set q (Y.1 i, x) = pool cy Y' I' J' A' B' := by
  subst hx
  apply List.ext_getElem?
  intro j
  have hl := (List.getElem?_eq_some_iff.mp (pool_get (cy := cy) (Y := Y) (I := I) (J := J) (A := A) (B := B) h)).1
  by_cases hj : j = q
  · subst hj
    rw [List.getElem?_set_self hl]
    unfold pool
    rw [List.getElem?_map, h2, h, h1]
    rfl
  · rw [List.getElem?_set_ne (Ne.symm hj)]
    unfold pool
    rw [List.getElem?_map, List.getElem?_map, h2, h1]
    cases hb : (lst Y.2.1)[j]? with
    | none => rfl
    | some b =>
      have hba : b ≠ i := by
        intro e
        subst e
        exact hj (hD.1 j q _ _ (pool_get hb) (pool_get h) rfl)
      simp only [Option.map_some]
      rw [hc b hba]
theorem fcl_set {ad : Nat → Nat} {P P' : FP'} {I I' : FI} {J J' : FJ} {i k c : Nat} {kd : Nat} {v : Value} (hk : (fkd c)[k]? = some kd) (hv : fcl ad P' I' J' i k kd = v) (ho : ∀ j x, j ≠ k → fcl ad P' I' J' i j x = fcl ad P I J i j x) : (fkd c).mapIdx (fcl ad P' I' J' i) = ((fkd c).mapIdx (fcl ad P I J i)).set k v := by
  apply List.ext_getElem?
  intro j
  have hl : k < ((fkd c).mapIdx (fcl ad P I J i)).length := by
    rw [List.length_mapIdx]
    exact (List.getElem?_eq_some_iff.mp hk).1
  by_cases hj : j = k
  · subst hj
    rw [List.getElem?_set_self hl, List.getElem?_mapIdx, hk]
    exact congrArg some hv
  · rw [List.getElem?_set_ne (Ne.symm hj), List.getElem?_mapIdx, List.getElem?_mapIdx]
    cases (fkd c)[j]? with
    | none => rfl
    | some x => exact congrArg some (ho j x hj)
theorem cel_o {cy : CY} {Y : PS} {I : FI} {J : FJ} {A : FI} {B : FJ} {i c : Nat} (h : Y.2.1 i = c) (hc : c < 10) : cel cy Y I J A B i = .inr (c, (fkd c).mapIdx (fcl Y.1 Y.2.2.2.1 I J i)) := by
  unfold cel
  rw [h, if_neg (by omega), if_neg (by omega), if_neg (by omega), if_neg (by omega), if_neg (by omega)]
theorem cel_10 {cy : CY} {Y : PS} {I : FI} {J : FJ} {A : FI} {B : FJ} {i : Nat} (h : Y.2.1 i = 10) : cel cy Y I J A B i = .inl (cy.1, Y.2.2.1 i, .inl (A i)) := by
  unfold cel
  rw [if_pos h]
theorem cel_11 {cy : CY} {Y : PS} {I : FI} {J : FJ} {A : FI} {B : FJ} {i : Nat} (h : Y.2.1 i = 11) : cel cy Y I J A B i = .inl (cy.2.1, Y.2.2.1 i, .inr (.inl (B i))) := by
  unfold cel
  rw [if_neg (by omega), if_pos h]
theorem cel_12 {cy : CY} {Y : PS} {I : FI} {J : FJ} {A : FI} {B : FJ} {i : Nat} (h : Y.2.1 i = 12) : cel cy Y I J A B i = .inl (cy.2.2.1, Y.2.2.1 i, .inl (A i)) := by
  unfold cel
  rw [if_neg (by omega), if_neg (by omega), if_pos h]
theorem cel_13 {cy : CY} {Y : PS} {I : FI} {J : FJ} {A : FI} {B : FJ} {i : Nat} (h : Y.2.1 i = 13) : cel cy Y I J A B i = .inl (cy.2.2.2.1, Y.2.2.1 i, .inr (.inr (.inr (.inr (fun j => (Y.2.2.2.2 i j).map Y.1))))) := by
  unfold cel
  rw [if_neg (by omega), if_neg (by omega), if_neg (by omega), if_pos h]
theorem cel_14 {cy : CY} {Y : PS} {I : FI} {J : FJ} {A : FI} {B : FJ} {i : Nat} (h : Y.2.1 i = 14) : cel cy Y I J A B i = .inl (cy.2.2.2.2, Y.2.2.1 i, .inr (.inr (.inr (.inr (fun j => (Y.2.2.2.2 i j).map Y.1))))) := by
  unfold cel
  rw [if_neg (by omega), if_neg (by omega), if_neg (by omega), if_neg (by omega), if_pos h]
theorem cel_I {cy : CY} {Y : PS} {I : FI} {J : FJ} {A : FI} {B : FJ} {i k : Nat} {x : Int32} (j : Nat) (hj : j ≠ i) : cel cy Y (up2 I i k x) J A B j = cel cy Y I J A B j := by
  unfold cel
  rw [show fcl Y.1 Y.2.2.2.1 (up2 I i k x) J j = fcl Y.1 Y.2.2.2.1 I J j from by funext a b; unfold fcl; rw [up2_ne _ _ _ _ hj]]
theorem cel_J {cy : CY} {Y : PS} {I : FI} {J : FJ} {A : FI} {B : FJ} {i k : Nat} {x : Int64} (j : Nat) (hj : j ≠ i) : cel cy Y I (up2 J i k x) A B j = cel cy Y I J A B j := by
  unfold cel
  rw [show fcl Y.1 Y.2.2.2.1 I (up2 J i k x) j = fcl Y.1 Y.2.2.2.1 I J j from by funext a b; unfold fcl; rw [up2_ne _ _ _ _ hj]]
theorem cel_A {cy : CY} {Y : PS} {I : FI} {J : FJ} {A : FI} {B : FJ} {i : Nat} {x : Nat → Int32} (j : Nat) (hj : j ≠ i) : cel cy Y I J (va_up A i x) B j = cel cy Y I J A B j := by
  unfold cel
  rw [va_up_ne _ _ hj]
theorem cel_B {cy : CY} {Y : PS} {I : FI} {J : FJ} {A : FI} {B : FJ} {i : Nat} {x : Nat → Int64} (j : Nat) (hj : j ≠ i) : cel cy Y I J A (va_up B i x) j = cel cy Y I J A B j := by
  unfold cel
  rw [va_up_ne _ _ hj]
end
section
/-! the machine over the pool: Sim, contracts (Spec), entry, return, calls -/
def isNst : Cond → Bool
  | .fieldLinkNest .. => true
  | .methodLinkNest .. => true
  | _ => false
def lw_all : List Cond := lw_tbl.filter goodWord
def lw_nst : List Cond := lw_tbl.filter isNst
theorem in_all {w : Cond} (i : Nat) (h : lw_tbl[i]? = some w) (g : goodWord w = true) : w ∈ lw_all := List.mem_filter.mpr ⟨List.mem_of_getElem? h, g⟩
theorem in_nst {w : Cond} (i : Nat) (h : lw_tbl[i]? = some w) (g : isNst w = true) : w ∈ lw_nst := List.mem_filter.mpr ⟨List.mem_of_getElem? h, g⟩
theorem nst_warm {s U : State} (hW : s.WarmedH U.vm) (h : ∀ w ∈ lw_nst, va_Nw w s) : ∀ w ∈ lw_nst, va_Nw w U := by
  intro w hw
  have h1 := (List.mem_filter.mp hw).2
  have h2 := h w hw
  unfold isNst at h1
  split at h1
  · exact va_Nw.warmF hW h2
  · exact va_Nw.warmM hW h2
  · cases h1
theorem nst_same {s U : State} (hv : s.vm = U.vm) (h : ∀ w ∈ lw_nst, va_Nw w s) : ∀ w ∈ lw_nst, va_Nw w U := by
  intro w hw
  have h1 := (List.mem_filter.mp hw).2
  have h2 := h w hw
  unfold isNst at h1
  split at h1
  · exact va_Nw.same rfl hv h2
  · exact va_Nw.same rfl hv h2
  · cases h1
abbrev tysOf (cy : CY) : List (ClassId × FieldType) := [(cy.1, .int), (cy.2.1, .long), (cy.2.2.1, .boolean), (cy.2.2.2.1, .object RX2), (cy.2.2.2.2, .object RX7)]
/-- name, code, locals, what it returns, room, table -/
abbrev MI : Type := MethodName × ByteArray × Nat × Option FieldType × Room × TB
abbrev MX : Type := Program × Launch × Env × Room × State × MethodId × Array Value × List Frame × Method × Code × (State → Prop) × va_G × CY × (Nat → Prop) × Nat
abbrev PO : Type := Option Value → PS → FI → FJ → FI → FJ → Prop
def Sim (X : MX) (Y : PS) (pc : Nat) (lv : List (Nat × Value)) (st : List Value) (I : FI) (J : FJ) (A : FI) (B : FJ) (k n : Nat) : Prop :=
  match X with
  | (p, l, e, R, s, m, args, below, meth, c, Q, D, cy, A0, nL) => ∀ (H : Heap) (locs : List Loc) (ls : Array Slot), va_P D vwCl (pool cy Y I J A B) H → va_D A0 (pool cy Y I J A B) → va_S A0 s.heap H locs → lv_has ls nL lv → W p l e R s m args below meth c H locs k n Q (F0 m pc ls st)
def Good (X : MX) (M : MI) : Prop :=
  match X with
  | (p, l, e, R, s, m, args, below, meth, c, Q, D, cy, A0, nL) => p.tables.exec = Jvm.exec ∧ c.code = M.2.1 ∧ s.vm.findClass M.1.cls = some m.cls ∧ (∀ w ∈ lw_all, w.before args s = true) ∧ (∀ w ∈ lw_nst, va_Nw w s) ∧ va_K D vwCl (tysOf cy) s ∧ c.maxLocals = M.2.2.1 ∧ nL = M.2.2.1 ∧ (∀ q, s.heap.size ≤ q → A0 q) ∧ tbOk M.2.1 M.2.2.2.2.2 ∧ R = M.2.2.2.2.1
def PreP (D : va_G) (cy : CY) (Y : PS) (I : FI) (J : FJ) (A : FI) (B : FJ) (sz : Nat) (U : State) : Prop := U.heap.size = sz ∧ va_P D vwCl (pool cy Y I J A B) U.heap ∧ va_D (fun _ => True) (pool cy Y I J A B) ∧ va_K D vwCl (tysOf cy) U ∧ ∀ w ∈ lw_nst, va_Nw w U
def QcP (D : va_G) (cy : CY) (A0 : Nat → Prop) (post : PO) : Array Value → State → Outcome → State → Prop := fun _ st oc t => (∃ (v : Option Value) (Y : PS) (I : FI) (J : FJ) (A : FI) (B : FJ), oc = .returned v ∧ post v Y I J A B ∧ va_P D vwCl (pool cy Y I J A B) t.heap ∧ va_D A0 (pool cy Y I J A B)) ∧ va_F A0 st t
/-- the contract: M, called with av where the pool holds Y I J A B, returns, and post holds of what it returns and of the pool then -/
def Spec (M : MI) (av : List Value) (Y : PS) (I : FI) (J : FJ) (A : FI) (B : FJ) (post : PO) : Prop := ∀ (l : Launch) (D : va_G) (cy : CY) (sz : Nat), Met l M.1 (Cond.code M.1 M.2.1 M.2.2.1 M.2.2.2.1 :: lw_all) M.2.2.2.2.1 (va_Pc av (PreP D cy Y I J A B sz)) (QcP D cy (va_A (pool cy Y I J A B) sz) post) M.2.2.2.2.1.cells M.2.2.2.2.1.slots (va_A (pool cy Y I J A B) sz)
def RetOK (M : MI) (pc : Nat) (v : Option Value) : Prop :=
  match v with
  | some (.int x) => fnd M.2.2.2.2.2 pc = some (.ireturn, 1) ∧ ∃ ty, M.2.2.2.1 = some ty ∧ narrow ty (.int x) = .int x
  | some (.long _) => fnd M.2.2.2.2.2 pc = some (.lreturn, 1) ∧ M.2.2.2.1 = some .long
  | some (.float _) => fnd M.2.2.2.2.2 pc = some (.freturn, 1) ∧ M.2.2.2.1 = some .float
  | none => fnd M.2.2.2.2.2 pc = some (.return_, 1) ∧ M.2.2.2.1 = none
  | _ => False
def RT (X : MX) (M : MI) (post : PO) : Prop := ∀ (pc : Nat) (lv : List (Nat × Value)) (v : Option Value) (Y : PS) (I : FI) (J : FJ) (A : FI) (B : FJ) (k n : Nat), RetOK M pc v → k ≤ M.2.2.2.2.1.cells → n ≤ M.2.2.2.2.1.slots → post v Y I J A B → Sim X Y pc lv v.toList I J A B k n
theorem Spec_of {M : MI} {av : List Value} {Y : PS} {I : FI} {J : FJ} {A : FI} {B : FJ} {post : PO} (hy : plainName M.1.cls = true) (htb : tbOk M.2.1 M.2.2.2.2.2) (hn : (lg_sl av).length ≤ M.2.2.1) (body : ∀ X, Good X M → RT X M post → Sim X Y 0 (lv_args 0 av) [] I J A B 0 0) : Spec M av Y I J A B post := by
  intro l D cy sz
  refine Met.ofW (cc := M.2.1) (maxL := M.2.2.1) (ret := M.2.2.2.1) hy rfl ?_
  intro p e s m args below meth c s₁ BB hml hv
  obtain ⟨rfl, hsz, hP, hD0, hK, hns⟩ := hv
  have hx := BB.exec
  have hb := BB.bytes
  have hr := BB.returns
  have hts := atoms_spec (ws := Cond.code M.1 M.2.1 M.2.2.1 M.2.2.2.1 :: lw_all) BB.pre
  have hown : s.vm.findClass M.1.cls = some m.cls := findClass_of_methodNamed BB.named
  have hlocks := BB.notSynchronized
  subst hsz
  have hD := hD0.self (sz := s.heap.size)
  generalize hAe : va_A (pool cy Y I J A B) s.heap.size = A0 at hD ⊢
  have hA : ∀ q : Nat, s.heap.size ≤ q → A0 q := fun q h => by rw [← hAe]; exact Or.inr h
  have hS : va_S A0 s.heap s.heap [] := va_S.rf
  have hl := lv_entry av (n := M.2.2.1) hn
  rw [lg_entry_eq]
  have hg : Good (p, l, e, M.2.2.2.2.1, s, m, av.toArray, below, meth, c, MQ below (QcP D cy A0 post) av.toArray s M.2.2.2.2.1.cells M.2.2.2.2.1.slots A0, D, cy, A0, M.2.2.1) M :=
    ⟨hx, hb, hown, fun w hw => hts w (List.mem_cons_of_mem _ hw), hns, hK, hml, rfl, hA, htb, rfl⟩
  refine body _ hg ?_ s.heap [] _ hP hD hS hl
  intro pc lv v Y' I' J' A' B' k n hro hk hn' hpost H locs ls hP' hD' hS' hl'
  refine W.widen hk hn' ?_
  unfold RetOK at hro
  split at hro
  · rename_i x
    obtain ⟨h1, ty, h2, h3⟩ := hro
    exact W.zret hx hb (hr.trans h2) h3 (fun t ht hW => ⟨⟨_, Y', I', J', A', B', rfl, hpost, by rw [ht]; exact hP', hD'⟩, hS'.F ht⟩) hS'.2.2 (fnd_dec htb h1)
  · exact W.lret hx hb (hr.trans hro.2) (fun t ht hW => ⟨⟨_, Y', I', J', A', B', rfl, hpost, by rw [ht]; exact hP', hD'⟩, hS'.F ht⟩) hS'.2.2 (fnd_dec htb hro.1)
  · exact W.fret hx hb (hr.trans hro.2) (fun t ht hW => ⟨⟨_, Y', I', J', A', B', rfl, hpost, by rw [ht]; exact hP', hD'⟩, hS'.F ht⟩) hS'.2.2 (fnd_dec htb hro.1)
  · exact W.vret hx hb (hr.trans hro.2) (fun t ht hW => ⟨⟨_, Y', I', J', A', B', rfl, hpost, by rw [ht]; exact hP', hD'⟩, hS'.F ht⟩) hS'.2.2 (fnd_dec htb hro.1)
  · exact hro.elim
section Rules
variable {X : MX} {M : MI} {Y : PS} {pc : Nat} {lv : List (Nat × Value)} {st : List Value} {I : FI} {J : FJ} {A : FI} {B : FJ} {kc n : Nat}
theorem S_n (g : Good X M) (k : Nat) {pc' : Nat} {lv' : List (Nat × Value)} {st' : List Value} (h : stpN M.2.2.1 M.2.2.2.2.2 k pc lv st = some (pc', lv', st')) (kk : Sim X Y pc' lv' st' I J A B kc n) : Sim X Y pc lv st I J A B kc n := by
  obtain ⟨p, l, e, R, s, m, args, below, meth, c, Q, D, cy, A0, nL⟩ := X
  obtain ⟨hx, hb, hown, hts, hns, hK, hml, hnl, hA, hok, hR⟩ := g
  intro H locs ls hP hD hS hl
  induction k generalizing pc lv st ls with
  | zero =>
    unfold stpN at h
    cases h
    exact kk H locs ls hP hD hS hl
  | succ k ih =>
    unfold stpN at h
    split at h
    · rename_i i j hf
      split at h
      · rename_i a b d hs
        rw [← hnl] at hs
        exact stp_ok hx hb (fnd_dec hok hf) hs hl (fun ls' hl' => ih h ls' hl')
      · cases h
    · cases h
theorem S_keep (ks : List Nat) {lv' : List (Nat × Value)} (h : lv.filter (fun q => ks.contains q.1) = lv') (kk : Sim X Y pc lv' st I J A B kc n) : Sim X Y pc lv st I J A B kc n := by
  obtain ⟨p, l, e, R, s, m, args, below, meth, c, Q, D, cy, A0, nL⟩ := X
  intro H locs ls hP hD hS hl
  exact kk H locs ls hP hD hS (lv_less hl (fun q hq => by rw [← h] at hq; exact (List.mem_filter.mp hq).1))
theorem S_less {lv' : List (Nat × Value)} (h : ∀ q ∈ lv', q ∈ lv) (kk : Sim X Y pc lv' st I J A B kc n) : Sim X Y pc lv st I J A B kc n := by
  obtain ⟨p, l, e, R, s, m, args, below, meth, c, Q, D, cy, A0, nL⟩ := X
  intro H locs ls hP hD hS hl
  exact kk H locs ls hP hD hS (lv_less hl h)
end Rules
end
section
/-! one rule an instruction: branches, divisions, constants, fields, arrays, switches -/
section Rules2
variable {X : MX} {M : MI} {Y : PS} {pc : Nat} {lv : List (Nat × Value)} {st : List Value} {I : FI} {J : FJ} {A : FI} {B : FJ} {kc n : Nat}
theorem S_ic_eq (g : Good X M) {x y : Int32} {off : Int} {tgt : Nat} (hd : fnd M.2.2.2.2.2 pc = some (.if_icmp .eq off, 3)) (ht : (pc : Int) + off = (tgt : Int)) (kt : x = y → Sim X Y tgt lv st I J A B kc n) (kf : ¬ x = y → Sim X Y (pc + 3) lv st I J A B kc n) : Sim X Y pc lv (.int y :: .int x :: st) I J A B kc n := by
  obtain ⟨p, l, e, R, s, m, args, below, meth, cod, Q, D, cy, A0, nL⟩ := X
  obtain ⟨hx, hb, hown, hts, hns, hK, hml, hnl, hA, hok, hR⟩ := g
  intro H locs ls hP hD hS hl
  exact lv_icmp_eq hx hb (fnd_dec hok hd) ht (fun h => kt h H locs ls hP hD hS hl) (fun h => kf h H locs ls hP hD hS hl)
theorem S_if_eq (g : Good X M) {x : Int32} {off : Int} {tgt : Nat} (hd : fnd M.2.2.2.2.2 pc = some (.ifCond .eq off, 3)) (ht : (pc : Int) + off = (tgt : Int)) (kt : x = 0 → Sim X Y tgt lv st I J A B kc n) (kf : ¬ x = 0 → Sim X Y (pc + 3) lv st I J A B kc n) : Sim X Y pc lv (.int x :: st) I J A B kc n := by
  obtain ⟨p, l, e, R, s, m, args, below, meth, cod, Q, D, cy, A0, nL⟩ := X
  obtain ⟨hx, hb, hown, hts, hns, hK, hml, hnl, hA, hok, hR⟩ := g
  intro H locs ls hP hD hS hl
  exact lv_if_eq hx hb (fnd_dec hok hd) ht (fun h => kt h H locs ls hP hD hS hl) (fun h => kf h H locs ls hP hD hS hl)
theorem S_ic_ne (g : Good X M) {x y : Int32} {off : Int} {tgt : Nat} (hd : fnd M.2.2.2.2.2 pc = some (.if_icmp .ne off, 3)) (ht : (pc : Int) + off = (tgt : Int)) (kt : x ≠ y → Sim X Y tgt lv st I J A B kc n) (kf : x = y → Sim X Y (pc + 3) lv st I J A B kc n) : Sim X Y pc lv (.int y :: .int x :: st) I J A B kc n := by
  obtain ⟨p, l, e, R, s, m, args, below, meth, cod, Q, D, cy, A0, nL⟩ := X
  obtain ⟨hx, hb, hown, hts, hns, hK, hml, hnl, hA, hok, hR⟩ := g
  intro H locs ls hP hD hS hl
  exact lv_icmp_ne hx hb (fnd_dec hok hd) ht (fun h => kt h H locs ls hP hD hS hl) (fun h => kf h H locs ls hP hD hS hl)
theorem S_if_ne (g : Good X M) {x : Int32} {off : Int} {tgt : Nat} (hd : fnd M.2.2.2.2.2 pc = some (.ifCond .ne off, 3)) (ht : (pc : Int) + off = (tgt : Int)) (kt : x ≠ 0 → Sim X Y tgt lv st I J A B kc n) (kf : x = 0 → Sim X Y (pc + 3) lv st I J A B kc n) : Sim X Y pc lv (.int x :: st) I J A B kc n := by
  obtain ⟨p, l, e, R, s, m, args, below, meth, cod, Q, D, cy, A0, nL⟩ := X
  obtain ⟨hx, hb, hown, hts, hns, hK, hml, hnl, hA, hok, hR⟩ := g
  intro H locs ls hP hD hS hl
  exact lv_if_ne hx hb (fnd_dec hok hd) ht (fun h => kt h H locs ls hP hD hS hl) (fun h => kf h H locs ls hP hD hS hl)
theorem S_ic_lt (g : Good X M) {x y : Int32} {off : Int} {tgt : Nat} (hd : fnd M.2.2.2.2.2 pc = some (.if_icmp .lt off, 3)) (ht : (pc : Int) + off = (tgt : Int)) (kt : x < y → Sim X Y tgt lv st I J A B kc n) (kf : ¬ x < y → Sim X Y (pc + 3) lv st I J A B kc n) : Sim X Y pc lv (.int y :: .int x :: st) I J A B kc n := by
  obtain ⟨p, l, e, R, s, m, args, below, meth, cod, Q, D, cy, A0, nL⟩ := X
  obtain ⟨hx, hb, hown, hts, hns, hK, hml, hnl, hA, hok, hR⟩ := g
  intro H locs ls hP hD hS hl
  exact lv_icmp_lt hx hb (fnd_dec hok hd) ht (fun h => kt h H locs ls hP hD hS hl) (fun h => kf h H locs ls hP hD hS hl)
theorem S_if_lt (g : Good X M) {x : Int32} {off : Int} {tgt : Nat} (hd : fnd M.2.2.2.2.2 pc = some (.ifCond .lt off, 3)) (ht : (pc : Int) + off = (tgt : Int)) (kt : x < 0 → Sim X Y tgt lv st I J A B kc n) (kf : ¬ x < 0 → Sim X Y (pc + 3) lv st I J A B kc n) : Sim X Y pc lv (.int x :: st) I J A B kc n := by
  obtain ⟨p, l, e, R, s, m, args, below, meth, cod, Q, D, cy, A0, nL⟩ := X
  obtain ⟨hx, hb, hown, hts, hns, hK, hml, hnl, hA, hok, hR⟩ := g
  intro H locs ls hP hD hS hl
  exact lv_if_lt hx hb (fnd_dec hok hd) ht (fun h => kt h H locs ls hP hD hS hl) (fun h => kf h H locs ls hP hD hS hl)
theorem S_ic_ge (g : Good X M) {x y : Int32} {off : Int} {tgt : Nat} (hd : fnd M.2.2.2.2.2 pc = some (.if_icmp .ge off, 3)) (ht : (pc : Int) + off = (tgt : Int)) (kt : y ≤ x → Sim X Y tgt lv st I J A B kc n) (kf : ¬ y ≤ x → Sim X Y (pc + 3) lv st I J A B kc n) : Sim X Y pc lv (.int y :: .int x :: st) I J A B kc n := by
  obtain ⟨p, l, e, R, s, m, args, below, meth, cod, Q, D, cy, A0, nL⟩ := X
  obtain ⟨hx, hb, hown, hts, hns, hK, hml, hnl, hA, hok, hR⟩ := g
  intro H locs ls hP hD hS hl
  exact lv_icmp_ge hx hb (fnd_dec hok hd) ht (fun h => kt h H locs ls hP hD hS hl) (fun h => kf h H locs ls hP hD hS hl)
theorem S_if_ge (g : Good X M) {x : Int32} {off : Int} {tgt : Nat} (hd : fnd M.2.2.2.2.2 pc = some (.ifCond .ge off, 3)) (ht : (pc : Int) + off = (tgt : Int)) (kt : 0 ≤ x → Sim X Y tgt lv st I J A B kc n) (kf : ¬ 0 ≤ x → Sim X Y (pc + 3) lv st I J A B kc n) : Sim X Y pc lv (.int x :: st) I J A B kc n := by
  obtain ⟨p, l, e, R, s, m, args, below, meth, cod, Q, D, cy, A0, nL⟩ := X
  obtain ⟨hx, hb, hown, hts, hns, hK, hml, hnl, hA, hok, hR⟩ := g
  intro H locs ls hP hD hS hl
  exact lv_if_ge hx hb (fnd_dec hok hd) ht (fun h => kt h H locs ls hP hD hS hl) (fun h => kf h H locs ls hP hD hS hl)
theorem S_ic_gt (g : Good X M) {x y : Int32} {off : Int} {tgt : Nat} (hd : fnd M.2.2.2.2.2 pc = some (.if_icmp .gt off, 3)) (ht : (pc : Int) + off = (tgt : Int)) (kt : y < x → Sim X Y tgt lv st I J A B kc n) (kf : ¬ y < x → Sim X Y (pc + 3) lv st I J A B kc n) : Sim X Y pc lv (.int y :: .int x :: st) I J A B kc n := by
  obtain ⟨p, l, e, R, s, m, args, below, meth, cod, Q, D, cy, A0, nL⟩ := X
  obtain ⟨hx, hb, hown, hts, hns, hK, hml, hnl, hA, hok, hR⟩ := g
  intro H locs ls hP hD hS hl
  exact lv_icmp_gt hx hb (fnd_dec hok hd) ht (fun h => kt h H locs ls hP hD hS hl) (fun h => kf h H locs ls hP hD hS hl)
theorem S_if_gt (g : Good X M) {x : Int32} {off : Int} {tgt : Nat} (hd : fnd M.2.2.2.2.2 pc = some (.ifCond .gt off, 3)) (ht : (pc : Int) + off = (tgt : Int)) (kt : 0 < x → Sim X Y tgt lv st I J A B kc n) (kf : ¬ 0 < x → Sim X Y (pc + 3) lv st I J A B kc n) : Sim X Y pc lv (.int x :: st) I J A B kc n := by
  obtain ⟨p, l, e, R, s, m, args, below, meth, cod, Q, D, cy, A0, nL⟩ := X
  obtain ⟨hx, hb, hown, hts, hns, hK, hml, hnl, hA, hok, hR⟩ := g
  intro H locs ls hP hD hS hl
  exact lv_if_gt hx hb (fnd_dec hok hd) ht (fun h => kt h H locs ls hP hD hS hl) (fun h => kf h H locs ls hP hD hS hl)
theorem S_ic_le (g : Good X M) {x y : Int32} {off : Int} {tgt : Nat} (hd : fnd M.2.2.2.2.2 pc = some (.if_icmp .le off, 3)) (ht : (pc : Int) + off = (tgt : Int)) (kt : x ≤ y → Sim X Y tgt lv st I J A B kc n) (kf : ¬ x ≤ y → Sim X Y (pc + 3) lv st I J A B kc n) : Sim X Y pc lv (.int y :: .int x :: st) I J A B kc n := by
  obtain ⟨p, l, e, R, s, m, args, below, meth, cod, Q, D, cy, A0, nL⟩ := X
  obtain ⟨hx, hb, hown, hts, hns, hK, hml, hnl, hA, hok, hR⟩ := g
  intro H locs ls hP hD hS hl
  exact lv_icmp_le hx hb (fnd_dec hok hd) ht (fun h => kt h H locs ls hP hD hS hl) (fun h => kf h H locs ls hP hD hS hl)
theorem S_if_le (g : Good X M) {x : Int32} {off : Int} {tgt : Nat} (hd : fnd M.2.2.2.2.2 pc = some (.ifCond .le off, 3)) (ht : (pc : Int) + off = (tgt : Int)) (kt : x ≤ 0 → Sim X Y tgt lv st I J A B kc n) (kf : ¬ x ≤ 0 → Sim X Y (pc + 3) lv st I J A B kc n) : Sim X Y pc lv (.int x :: st) I J A B kc n := by
  obtain ⟨p, l, e, R, s, m, args, below, meth, cod, Q, D, cy, A0, nL⟩ := X
  obtain ⟨hx, hb, hown, hts, hns, hK, hml, hnl, hA, hok, hR⟩ := g
  intro H locs ls hP hD hS hl
  exact lv_if_le hx hb (fnd_dec hok hd) ht (fun h => kt h H locs ls hP hD hS hl) (fun h => kf h H locs ls hP hD hS hl)
theorem S_idiv (g : Good X M) {x y : Int32} (hne : ¬ y = 0) (hd : fnd M.2.2.2.2.2 pc = some (.idiv, 1)) (kk : Sim X Y (pc + 1) lv (.int (x / y) :: st) I J A B kc n) : Sim X Y pc lv (.int y :: .int x :: st) I J A B kc n := by
  obtain ⟨p, l, e, R, s, m, args, below, meth, cod, Q, D, cy, A0, nL⟩ := X
  obtain ⟨hx, hb, hown, hts, hns, hK, hml, hnl, hA, hok, hR⟩ := g
  intro H locs ls hP hD hS hl
  exact lv_idiv hx hb (fnd_dec hok hd) hne (kk H locs ls hP hD hS hl)
theorem S_irem (g : Good X M) {x y : Int32} (hne : ¬ y = 0) (hd : fnd M.2.2.2.2.2 pc = some (.irem, 1)) (kk : Sim X Y (pc + 1) lv (.int (x - x / y * y) :: st) I J A B kc n) : Sim X Y pc lv (.int y :: .int x :: st) I J A B kc n := by
  obtain ⟨p, l, e, R, s, m, args, below, meth, cod, Q, D, cy, A0, nL⟩ := X
  obtain ⟨hx, hb, hown, hts, hns, hK, hml, hnl, hA, hok, hR⟩ := g
  intro H locs ls hP hD hS hl
  exact lv_irem hx hb (fnd_dec hok hd) hne (kk H locs ls hP hD hS hl)
theorem S_ldiv (g : Good X M) {x y : Int64} (hne : ¬ y = 0) (hd : fnd M.2.2.2.2.2 pc = some (.ldiv, 1)) (kk : Sim X Y (pc + 1) lv (.long (x / y) :: st) I J A B kc n) : Sim X Y pc lv (.long y :: .long x :: st) I J A B kc n := by
  obtain ⟨p, l, e, R, s, m, args, below, meth, cod, Q, D, cy, A0, nL⟩ := X
  obtain ⟨hx, hb, hown, hts, hns, hK, hml, hnl, hA, hok, hR⟩ := g
  intro H locs ls hP hD hS hl
  exact lv_ldiv hx hb (fnd_dec hok hd) hne (kk H locs ls hP hD hS hl)
theorem S_lrem (g : Good X M) {x y : Int64} (hne : ¬ y = 0) (hd : fnd M.2.2.2.2.2 pc = some (.lrem, 1)) (kk : Sim X Y (pc + 1) lv (.long (x - x / y * y) :: st) I J A B kc n) : Sim X Y pc lv (.long y :: .long x :: st) I J A B kc n := by
  obtain ⟨p, l, e, R, s, m, args, below, meth, cod, Q, D, cy, A0, nL⟩ := X
  obtain ⟨hx, hb, hown, hts, hns, hK, hml, hnl, hA, hok, hR⟩ := g
  intro H locs ls hP hD hS hl
  exact lv_lrem hx hb (fnd_dec hok hd) hne (kk H locs ls hP hD hS hl)
theorem S_fadd (g : Good X M) {x y : UInt32} (hne : vf_n32 (FP.fadd x y)) (hd : fnd M.2.2.2.2.2 pc = some (.fadd, 1)) (kk : Sim X Y (pc + 1) lv (.float (FP.fadd x y) :: st) I J A B kc n) : Sim X Y pc lv (.float y :: .float x :: st) I J A B kc n := by
  obtain ⟨p, l, e, R, s, m, args, below, meth, cod, Q, D, cy, A0, nL⟩ := X
  obtain ⟨hx, hb, hown, hts, hns, hK, hml, hnl, hA, hok, hR⟩ := g
  intro H locs ls hP hD hS hl
  exact lv_fadd hx hb (fnd_dec hok hd) hne (kk H locs ls hP hD hS hl)
theorem S_fsub (g : Good X M) {x y : UInt32} (hne : vf_n32 (FP.fsub x y)) (hd : fnd M.2.2.2.2.2 pc = some (.fsub, 1)) (kk : Sim X Y (pc + 1) lv (.float (FP.fsub x y) :: st) I J A B kc n) : Sim X Y pc lv (.float y :: .float x :: st) I J A B kc n := by
  obtain ⟨p, l, e, R, s, m, args, below, meth, cod, Q, D, cy, A0, nL⟩ := X
  obtain ⟨hx, hb, hown, hts, hns, hK, hml, hnl, hA, hok, hR⟩ := g
  intro H locs ls hP hD hS hl
  exact lv_fsub hx hb (fnd_dec hok hd) hne (kk H locs ls hP hD hS hl)
theorem S_fmul (g : Good X M) {x y : UInt32} (hne : vf_n32 (FP.fmul x y)) (hd : fnd M.2.2.2.2.2 pc = some (.fmul, 1)) (kk : Sim X Y (pc + 1) lv (.float (FP.fmul x y) :: st) I J A B kc n) : Sim X Y pc lv (.float y :: .float x :: st) I J A B kc n := by
  obtain ⟨p, l, e, R, s, m, args, below, meth, cod, Q, D, cy, A0, nL⟩ := X
  obtain ⟨hx, hb, hown, hts, hns, hK, hml, hnl, hA, hok, hR⟩ := g
  intro H locs ls hP hD hS hl
  exact lv_fmul hx hb (fnd_dec hok hd) hne (kk H locs ls hP hD hS hl)
theorem S_fdiv (g : Good X M) {x y : UInt32} (hne : vf_n32 (FP.fdiv x y)) (hd : fnd M.2.2.2.2.2 pc = some (.fdiv, 1)) (kk : Sim X Y (pc + 1) lv (.float (FP.fdiv x y) :: st) I J A B kc n) : Sim X Y pc lv (.float y :: .float x :: st) I J A B kc n := by
  obtain ⟨p, l, e, R, s, m, args, below, meth, cod, Q, D, cy, A0, nL⟩ := X
  obtain ⟨hx, hb, hown, hts, hns, hK, hml, hnl, hA, hok, hR⟩ := g
  intro H locs ls hP hD hS hl
  exact lv_fdiv hx hb (fnd_dec hok hd) hne (kk H locs ls hP hD hS hl)
theorem S_ldc (g : Good X M) {idx : Nat} {v : Int32} (hw : Cond.constant M.1.cls idx v ∈ lw_all) (hd : fnd M.2.2.2.2.2 pc = some (.ldc idx, 2)) (kk : Sim X Y (pc + 2) lv (.int v :: st) I J A B kc n) : Sim X Y pc lv st I J A B kc n := by
  obtain ⟨p, l, e, R, s, m, args, below, meth, cod, Q, D, cy, A0, nL⟩ := X
  obtain ⟨hx, hb, hown, hts, hns, hK, hml, hnl, hA, hok, hR⟩ := g
  intro H locs ls hP hD hS hl
  exact lv_ldc hx hb hown (hts _ hw) (fnd_dec hok hd) (kk H locs ls hP hD hS hl)
theorem S_ldcf (g : Good X M) {idx : Nat} {v : UInt32} (hw : Cond.constantFloat M.1.cls idx v ∈ lw_all) (hd : fnd M.2.2.2.2.2 pc = some (.ldc idx, 2)) (kk : Sim X Y (pc + 2) lv (.float v :: st) I J A B kc n) : Sim X Y pc lv st I J A B kc n := by
  obtain ⟨p, l, e, R, s, m, args, below, meth, cod, Q, D, cy, A0, nL⟩ := X
  obtain ⟨hx, hb, hown, hts, hns, hK, hml, hnl, hA, hok, hR⟩ := g
  intro H locs ls hP hD hS hl
  exact lv_ldcf hx hb hown (hts _ hw) (fnd_dec hok hd) (kk H locs ls hP hD hS hl)
theorem S_ldcw (g : Good X M) {idx : Nat} {v : Int32} (hw : Cond.constant M.1.cls idx v ∈ lw_all) (hd : fnd M.2.2.2.2.2 pc = some (.ldc_w idx, 3)) (kk : Sim X Y (pc + 3) lv (.int v :: st) I J A B kc n) : Sim X Y pc lv st I J A B kc n := by
  obtain ⟨p, l, e, R, s, m, args, below, meth, cod, Q, D, cy, A0, nL⟩ := X
  obtain ⟨hx, hb, hown, hts, hns, hK, hml, hnl, hA, hok, hR⟩ := g
  intro H locs ls hP hD hS hl
  exact lv_ldcw hx hb hown (hts _ hw) (fnd_dec hok hd) (kk H locs ls hP hD hS hl)
theorem S_ldc2 (g : Good X M) {idx : Nat} {v : Int64} (hw : Cond.constantLong M.1.cls idx v ∈ lw_all) (hd : fnd M.2.2.2.2.2 pc = some (.ldc2_w idx, 3)) (kk : Sim X Y (pc + 3) lv (.long v :: st) I J A B kc n) : Sim X Y pc lv st I J A B kc n := by
  obtain ⟨p, l, e, R, s, m, args, below, meth, cod, Q, D, cy, A0, nL⟩ := X
  obtain ⟨hx, hb, hown, hts, hns, hK, hml, hnl, hA, hok, hR⟩ := g
  intro H locs ls hP hD hS hl
  exact lv_ldc2 hx hb hown (hts _ hw) (fnd_dec hok hd) (kk H locs ls hP hD hS hl)
theorem S_swIn (g : Good X M) {dflt lo hi : Int} {offs : Array Int} {len : Nat} {x : Int32} {off : Int} {tgt : Nat} (hd : fnd M.2.2.2.2.2 pc = some (.tableswitch dflt lo hi offs, len)) (h1 : ¬ x.toInt < lo) (h2 : ¬ hi < x.toInt) (ho : offs[(x.toInt - lo).toNat]? = some off) (ht : (pc : Int) + off = (tgt : Int)) (kk : Sim X Y tgt lv st I J A B kc n) : Sim X Y pc lv (.int x :: st) I J A B kc n := by
  obtain ⟨p, l, e, R, s, m, args, below, meth, cod, Q, D, cy, A0, nL⟩ := X
  obtain ⟨hx, hb, hown, hts, hns, hK, hml, hnl, hA, hok, hR⟩ := g
  intro H locs ls hP hD hS hl
  exact lv_tableIn hx hb (fnd_dec hok hd) h1 h2 ho ht (kk H locs ls hP hD hS hl)
theorem S_swOut (g : Good X M) {dflt lo hi : Int} {offs : Array Int} {len : Nat} {x : Int32} {tgt : Nat} (hd : fnd M.2.2.2.2.2 pc = some (.tableswitch dflt lo hi offs, len)) (h : x.toInt < lo ∨ hi < x.toInt) (ht : (pc : Int) + dflt = (tgt : Int)) (kk : Sim X Y tgt lv st I J A B kc n) : Sim X Y pc lv (.int x :: st) I J A B kc n := by
  obtain ⟨p, l, e, R, s, m, args, below, meth, cod, Q, D, cy, A0, nL⟩ := X
  obtain ⟨hx, hb, hown, hts, hns, hK, hml, hnl, hA, hok, hR⟩ := g
  intro H locs ls hP hD hS hl
  exact lv_tableOut hx hb (fnd_dec hok hd) h ht (kk H locs ls hP hD hS hl)
theorem S_lsw (g : Good X M) {dflt : Int} {ps : Array (Int × Int)} {len : Nat} {x : Int32} {off : Int} {tgt : Nat} (hd : fnd M.2.2.2.2.2 pc = some (.lookupswitch dflt ps, len)) (hp : (ps.toList.zip (ps.toList.drop 1)).all (fun (a, next) => a.1 < next.1) = true) (ho : Op.lookupswitch.offset ps.toList dflt x.toInt = off) (ht : (pc : Int) + off = (tgt : Int)) (kk : Sim X Y tgt lv st I J A B kc n) : Sim X Y pc lv (.int x :: st) I J A B kc n := by
  obtain ⟨p, l, e, R, s, m, args, below, meth, cod, Q, D, cy, A0, nL⟩ := X
  obtain ⟨hx, hb, hown, hts, hns, hK, hml, hnl, hA, hok, hR⟩ := g
  intro H locs ls hP hD hS hl
  exact lv_lookup hx hb (fnd_dec hok hd) hp ho ht (kk H locs ls hP hD hS hl)
theorem S_nonnull (g : Good X M) {x : Nat} {off : Int} {tgt : Nat} (hd : fnd M.2.2.2.2.2 pc = some (.ifnonnull off, 3)) (ht : (pc : Int) + off = (tgt : Int)) (kk : Sim X Y tgt lv st I J A B kc n) : Sim X Y pc lv (.ref x :: st) I J A B kc n := by
  obtain ⟨p, l, e, R, s, m, args, below, meth, cod, Q, D, cy, A0, nL⟩ := X
  obtain ⟨hx, hb, hown, hts, hns, hK, hml, hnl, hA, hok, hR⟩ := g
  intro H locs ls hP hD hS hl
  exact lv_ifnonnull hx hb (fnd_dec hok hd) ht (kk H locs ls hP hD hS hl)
theorem S_nonnullN (g : Good X M) {off : Int} (hd : fnd M.2.2.2.2.2 pc = some (.ifnonnull off, 3)) (kk : Sim X Y (pc + 3) lv st I J A B kc n) : Sim X Y pc lv (.null :: st) I J A B kc n := by
  obtain ⟨p, l, e, R, s, m, args, below, meth, cod, Q, D, cy, A0, nL⟩ := X
  obtain ⟨hx, hb, hown, hts, hns, hK, hml, hnl, hA, hok, hR⟩ := g
  intro H locs ls hP hD hS hl
  exact lv_ifnonnullN hx hb (fnd_dec hok hd) (kk H locs ls hP hD hS hl)
theorem S_alN (g : Good X M) {k : Fin 4} (hd : fnd M.2.2.2.2.2 pc = some (.aload_n k, 1)) (hk : lkv lv k.val = some .null) (kk : Sim X Y (pc + 1) lv (.null :: st) I J A B kc n) : Sim X Y pc lv st I J A B kc n := by
  obtain ⟨p, l, e, R, s, m, args, below, meth, cod, Q, D, cy, A0, nL⟩ := X
  obtain ⟨hx, hb, hown, hts, hns, hK, hml, hnl, hA, hok, hR⟩ := g
  intro H locs ls hP hD hS hl
  exact lv_aload_nN hx hb (fnd_dec hok hd) rfl (lkv_at hl hk) (kk H locs ls hP hD hS hl)
/-- the words that a field's use at index idx of class own's pool needs: field k of class c -/
def FLp (own : String) (idx c k : Nat) : Prop := ∃ (C : String) (T : u_T) (N : Nat), vwCl[c]? = some (C, T, N) ∧ k < N ∧ (T k).1 = C ∧ (∀ w ∈ u_ws C T N, w ∈ lw_all) ∧ (Cond.fieldLink own idx C (T k).2.1 (T k).2.2.1 ∈ lw_all ∨ ∃ host, Cond.fieldLinkNest own idx C (T k).2.1 (T k).2.2.1 host ∈ lw_nst)
def FWp (own : String) (idx c k : Nat) (ty : FieldType) : Prop := ∃ (C : String) (T : u_T) (N : Nat) (ty0 : Nat → FieldType), vwCl[c]? = some (C, T, N) ∧ k < N ∧ (T k).1 = C ∧ (∀ w ∈ u_ws C T N, w ∈ lw_all) ∧ (∀ j, j < N → parseFieldDescriptor (T j).2.2.1 = some (ty0 j)) ∧ (∀ a, a < N → ∀ b, b < N → a ≠ b → (T a).2.1 ≠ (T b).2.1) ∧ (T k).2.2.2 = false ∧ parseFieldDescriptor (T k).2.2.1 = some ty ∧ (Cond.fieldLink own idx C (T k).2.1 (T k).2.2.1 ∈ lw_all ∨ ∃ host, Cond.fieldLinkNest own idx C (T k).2.1 (T k).2.2.1 host ∈ lw_nst)
theorem S_get (g : Good X M) {i c k kd idx : Nat} (hi : i < 600) (hc : c < 10) (hKi : Y.2.1 i = c) (hk : (fkd c)[k]? = some kd) (fl : FLp M.1.cls idx c k) (hd : fnd M.2.2.2.2.2 pc = some (.getfield idx, 3)) (kk : Sim X Y (pc + 3) lv (fcl Y.1 Y.2.2.2.1 I J i k kd :: st) I J A B kc n) : Sim X Y pc lv (.ref (Y.1 i) :: st) I J A B kc n := by
  obtain ⟨p, l, e, R, s, m, args, below, meth, cod, Q, D, cy, A0, nL⟩ := X
  obtain ⟨hx, hb, hown, hts, hns, hK, hml, hnl, hA, hok, hR⟩ := g
  intro H locs ls hP hD hS hl
  obtain ⟨C, T, N, hcl, hkN, hTC, hws, hlk⟩ := fl
  obtain ⟨q, hq⟩ := lst_at (K := Y.2.1) (i := i) (by omega) hi
  have hg := pool_get (cy := cy) (Y := Y) (I := I) (J := J) (A := A) (B := B) hq
  rw [cel_o hKi hc] at hg
  have hv : ((fkd c).mapIdx (fcl Y.1 Y.2.2.2.1 I J i))[k]? = some (fcl Y.1 Y.2.2.2.1 I J i k kd) := by rw [List.getElem?_mapIdx, hk]; rfl
  rcases hlk with hlk | ⟨host, hlk⟩
  · exact va_get (ref := C) (C := C) (T := T) (N := N) (ci := c) hx hb hts hws hown hK hP q hg hcl k hkN (hts _ hlk) (fun x hx => by rw [← hTC]; rw [hTC] at hx ⊢; exact hx) hv (fnd_dec hok hd) (kk H locs ls hP hD hS hl)
  · exact va_getN (ref := C) (C := C) (T := T) (N := N) (ci := c) hx hb hts hws hown hK hP q hg hcl k hkN (va_Nw.use rfl (hns _ hlk)) (fun x hx => by rw [hTC] at hx; exact hx) hv (fnd_dec hok hd) (kk H locs ls hP hD hS hl)
theorem S_getI (g : Good X M) {i c k idx : Nat} (hi : i < 600) (hc : c < 10) (hKi : Y.2.1 i = c) (hk : (fkd c)[k]? = some 0) (fl : FLp M.1.cls idx c k) (hd : fnd M.2.2.2.2.2 pc = some (.getfield idx, 3)) (kk : Sim X Y (pc + 3) lv (.int (I i k) :: st) I J A B kc n) : Sim X Y pc lv (.ref (Y.1 i) :: st) I J A B kc n := S_get g hi hc hKi hk fl hd kk
theorem S_getZ (g : Good X M) {i c k idx : Nat} (hi : i < 600) (hc : c < 10) (hKi : Y.2.1 i = c) (hk : (fkd c)[k]? = some 3) (fl : FLp M.1.cls idx c k) (hd : fnd M.2.2.2.2.2 pc = some (.getfield idx, 3)) (kk : Sim X Y (pc + 3) lv (.int (I i k) :: st) I J A B kc n) : Sim X Y pc lv (.ref (Y.1 i) :: st) I J A B kc n := S_get g hi hc hKi hk fl hd kk
theorem S_getJ (g : Good X M) {i c k idx : Nat} (hi : i < 600) (hc : c < 10) (hKi : Y.2.1 i = c) (hk : (fkd c)[k]? = some 1) (fl : FLp M.1.cls idx c k) (hd : fnd M.2.2.2.2.2 pc = some (.getfield idx, 3)) (kk : Sim X Y (pc + 3) lv (.long (J i k) :: st) I J A B kc n) : Sim X Y pc lv (.ref (Y.1 i) :: st) I J A B kc n := S_get g hi hc hKi hk fl hd kk
theorem S_getR (g : Good X M) {i c k idx j : Nat} (hi : i < 600) (hc : c < 10) (hKi : Y.2.1 i = c) (hk : (fkd c)[k]? = some 2) (hp : Y.2.2.2.1 i k = some j) (fl : FLp M.1.cls idx c k) (hd : fnd M.2.2.2.2.2 pc = some (.getfield idx, 3)) (kk : Sim X Y (pc + 3) lv (.ref (Y.1 j) :: st) I J A B kc n) : Sim X Y pc lv (.ref (Y.1 i) :: st) I J A B kc n := by
  refine S_get g hi hc hKi hk fl hd ?_
  have hv : fcl Y.1 Y.2.2.2.1 I J i k 2 = .ref (Y.1 j) := by simp [fcl, hp, va_rf]
  rw [hv]
  exact kk
theorem S_putI (g : Good X M) {i c k idx kd : Nat} {ty : FieldType} {x : Int32} (hi : i < 600) (hc : c < 10) (hKi : Y.2.1 i = c) (hk : (fkd c)[k]? = some kd) (hkd : kd ≠ 1 ∧ kd ≠ 2) (fw : FWp M.1.cls idx c k ty) (hn : narrow ty (.int x) = .int x) (hfit : fits ty (.int x) = true) (hd : fnd M.2.2.2.2.2 pc = some (.putfield idx, 3)) (kk : Sim X Y (pc + 3) lv st (up2 I i k x) J A B kc n) : Sim X Y pc lv (.int x :: .ref (Y.1 i) :: st) I J A B kc n := by
  obtain ⟨p, l, e, R, s, m, args, below, meth, cod, Q, D, cy, A0, nL⟩ := X
  obtain ⟨hx, hb, hown, hts, hns, hK, hml, hnl, hA, hok, hR⟩ := g
  intro H locs ls hP hD hS hl
  obtain ⟨C, T, N, ty0, hcl, hkN, hTC, hws, hty, hnm, hfin, hpd, hlk⟩ := fw
  obtain ⟨q, hq⟩ := lst_at (K := Y.2.1) (i := i) (by omega) hi
  have hg := pool_get (cy := cy) (Y := Y) (I := I) (J := J) (A := A) (B := B) hq
  rw [cel_o hKi hc] at hg
  have hlen : k < ((fkd c).mapIdx (fcl Y.1 Y.2.2.2.1 I J i)).length := by rw [List.length_mapIdx]; exact (List.getElem?_eq_some_iff.mp hk).1
  have he : (pool cy Y I J A B).set q (Y.1 i, .inr (c, ((fkd c).mapIdx (fcl Y.1 Y.2.2.2.1 I J i)).set k (.int x))) = pool cy Y (up2 I i k x) J A B := by
    refine pool_set hD hq rfl rfl (fun j hj => cel_I j hj) ?_
    rw [cel_o hKi hc]
    refine congrArg (fun z => Sum.inr (c, z)) (fcl_set hk ?_ ?_)
    · unfold fcl; rw [if_neg hkd.1, if_neg hkd.2, up2_same]
    · intro j z hj; unfold fcl; rw [up2_ix _ _ _ hj]
  rcases hlk with hlk | ⟨host, hlk⟩
  · refine va_put (ref := C) (C := C) (T := T) (N := N) (ci := c) (ty := ty) hx hb hts hws ty0 hty hnm hown hK hP hD hS q hg hcl k hkN (hts _ hlk) (fun x hx => by rw [hTC] at hx; exact hx) hfin hpd hn hfit hlen (fnd_dec hok hd) (fun H1 locs1 hP1 hD1 hS1 => ?_)
    rw [he] at hP1 hD1
    exact kk H1 locs1 ls hP1 hD1 hS1 hl
  · refine va_putN (ref := C) (C := C) (T := T) (N := N) (ci := c) (ty := ty) hx hb hts hws ty0 hty hnm hown hK hP hD hS q hg hcl k hkN (va_Nw.use rfl (hns _ hlk)) (fun x hx => by rw [hTC] at hx; exact hx) hfin hpd hn hfit hlen (fnd_dec hok hd) (fun H1 locs1 hP1 hD1 hS1 => ?_)
    rw [he] at hP1 hD1
    exact kk H1 locs1 ls hP1 hD1 hS1 hl
theorem S_putJ (g : Good X M) {i c k idx : Nat} {x : Int64} (hi : i < 600) (hc : c < 10) (hKi : Y.2.1 i = c) (hk : (fkd c)[k]? = some 1) (fw : FWp M.1.cls idx c k .long) (hd : fnd M.2.2.2.2.2 pc = some (.putfield idx, 3)) (kk : Sim X Y (pc + 3) lv st I (up2 J i k x) A B kc n) : Sim X Y pc lv (.long x :: .ref (Y.1 i) :: st) I J A B kc n := by
  obtain ⟨p, l, e, R, s, m, args, below, meth, cod, Q, D, cy, A0, nL⟩ := X
  obtain ⟨hx, hb, hown, hts, hns, hK, hml, hnl, hA, hok, hR⟩ := g
  intro H locs ls hP hD hS hl
  obtain ⟨C, T, N, ty0, hcl, hkN, hTC, hws, hty, hnm, hfin, hpd, hlk⟩ := fw
  obtain ⟨q, hq⟩ := lst_at (K := Y.2.1) (i := i) (by omega) hi
  have hg := pool_get (cy := cy) (Y := Y) (I := I) (J := J) (A := A) (B := B) hq
  rw [cel_o hKi hc] at hg
  have hlen : k < ((fkd c).mapIdx (fcl Y.1 Y.2.2.2.1 I J i)).length := by rw [List.length_mapIdx]; exact (List.getElem?_eq_some_iff.mp hk).1
  have he : (pool cy Y I J A B).set q (Y.1 i, .inr (c, ((fkd c).mapIdx (fcl Y.1 Y.2.2.2.1 I J i)).set k (.long x))) = pool cy Y I (up2 J i k x) A B := by
    refine pool_set hD hq rfl rfl (fun j hj => cel_J j hj) ?_
    rw [cel_o hKi hc]
    refine congrArg (fun z => Sum.inr (c, z)) (fcl_set hk ?_ ?_)
    · unfold fcl; rw [if_pos rfl, up2_same]
    · intro j z hj; unfold fcl; rw [up2_ix _ _ _ hj]
  rcases hlk with hlk | ⟨host, hlk⟩
  · refine va_put (ref := C) (C := C) (T := T) (N := N) (ci := c) (ty := .long) hx hb hts hws ty0 hty hnm hown hK hP hD hS q hg hcl k hkN (hts _ hlk) (fun x hx => by rw [hTC] at hx; exact hx) hfin hpd rfl rfl hlen (fnd_dec hok hd) (fun H1 locs1 hP1 hD1 hS1 => ?_)
    rw [he] at hP1 hD1
    exact kk H1 locs1 ls hP1 hD1 hS1 hl
  · refine va_putN (ref := C) (C := C) (T := T) (N := N) (ci := c) (ty := .long) hx hb hts hws ty0 hty hnm hown hK hP hD hS q hg hcl k hkN (va_Nw.use rfl (hns _ hlk)) (fun x hx => by rw [hTC] at hx; exact hx) hfin hpd rfl rfl hlen (fnd_dec hok hd) (fun H1 locs1 hP1 hD1 hS1 => ?_)
    rw [he] at hP1 hD1
    exact kk H1 locs1 ls hP1 hD1 hS1 hl
theorem S_iald (g : Good X M) {i : Nat} {x : Int32} (hi : i < 600) (hKi : Y.2.1 i = 10) (hin : vp_in x (Y.2.2.1 i)) (hd : fnd M.2.2.2.2.2 pc = some (.iaload, 1)) (kk : Sim X Y (pc + 1) lv (.int (A i x.toNatClampNeg) :: st) I J A B kc n) : Sim X Y pc lv (.int x :: .ref (Y.1 i) :: st) I J A B kc n := by
  obtain ⟨p, l, e, R, s, m, args, below, meth, cod, Q, D, cy, A0, nL⟩ := X
  obtain ⟨hx, hb, hown, hts, hns, hK, hml, hnl, hA, hok, hR⟩ := g
  intro H locs ls hP hD hS hl
  obtain ⟨q, hq⟩ := lst_at (K := Y.2.1) (i := i) (by omega) hi
  have hg := pool_get (cy := cy) (Y := Y) (I := I) (J := J) (A := A) (B := B) hq
  rw [cel_10 hKi] at hg
  exact va_iald hx hb hK hP q 0 hg rfl hin (fnd_dec hok hd) (kk H locs ls hP hD hS hl)
theorem S_lald (g : Good X M) {i : Nat} {x : Int32} (hi : i < 600) (hKi : Y.2.1 i = 11) (hin : vp_in x (Y.2.2.1 i)) (hd : fnd M.2.2.2.2.2 pc = some (.laload, 1)) (kk : Sim X Y (pc + 1) lv (.long (B i x.toNatClampNeg) :: st) I J A B kc n) : Sim X Y pc lv (.int x :: .ref (Y.1 i) :: st) I J A B kc n := by
  obtain ⟨p, l, e, R, s, m, args, below, meth, cod, Q, D, cy, A0, nL⟩ := X
  obtain ⟨hx, hb, hown, hts, hns, hK, hml, hnl, hA, hok, hR⟩ := g
  intro H locs ls hP hD hS hl
  obtain ⟨q, hq⟩ := lst_at (K := Y.2.1) (i := i) (by omega) hi
  have hg := pool_get (cy := cy) (Y := Y) (I := I) (J := J) (A := A) (B := B) hq
  rw [cel_11 hKi] at hg
  exact va_lald hx hb hK hP q 1 hg rfl hin (fnd_dec hok hd) (kk H locs ls hP hD hS hl)
theorem S_zald (g : Good X M) {i : Nat} {x : Int32} (hi : i < 600) (hKi : Y.2.1 i = 12) (hin : vp_in x (Y.2.2.1 i)) (hd : fnd M.2.2.2.2.2 pc = some (.baload, 1)) (kk : Sim X Y (pc + 1) lv (.int (A i x.toNatClampNeg) :: st) I J A B kc n) : Sim X Y pc lv (.int x :: .ref (Y.1 i) :: st) I J A B kc n := by
  obtain ⟨p, l, e, R, s, m, args, below, meth, cod, Q, D, cy, A0, nL⟩ := X
  obtain ⟨hx, hb, hown, hts, hns, hK, hml, hnl, hA, hok, hR⟩ := g
  intro H locs ls hP hD hS hl
  obtain ⟨q, hq⟩ := lst_at (K := Y.2.1) (i := i) (by omega) hi
  have hg := pool_get (cy := cy) (Y := Y) (I := I) (J := J) (A := A) (B := B) hq
  rw [cel_12 hKi] at hg
  exact va_zald hx hb hK hP q 2 hg rfl hin (fnd_dec hok hd) (kk H locs ls hP hD hS hl)
theorem S_aald13 (g : Good X M) {i : Nat} {x : Int32} (hi : i < 600) (hKi : Y.2.1 i = 13) (hin : vp_in x (Y.2.2.1 i)) (hd : fnd M.2.2.2.2.2 pc = some (.aaload, 1)) (kk : Sim X Y (pc + 1) lv (va_rf ((Y.2.2.2.2 i x.toNatClampNeg).map Y.1) :: st) I J A B kc n) : Sim X Y pc lv (.int x :: .ref (Y.1 i) :: st) I J A B kc n := by
  obtain ⟨p, l, e, R, s, m, args, below, meth, cod, Q, D, cy, A0, nL⟩ := X
  obtain ⟨hx, hb, hown, hts, hns, hK, hml, hnl, hA, hok, hR⟩ := g
  intro H locs ls hP hD hS hl
  obtain ⟨q, hq⟩ := lst_at (K := Y.2.1) (i := i) (by omega) hi
  have hg := pool_get (cy := cy) (Y := Y) (I := I) (J := J) (A := A) (B := B) hq
  rw [cel_13 hKi] at hg
  exact va_aldq hx hb hK hP q 3 hg rfl hin (fnd_dec hok hd) (kk H locs ls hP hD hS hl)
theorem S_aald14 (g : Good X M) {i : Nat} {x : Int32} (hi : i < 600) (hKi : Y.2.1 i = 14) (hin : vp_in x (Y.2.2.1 i)) (hd : fnd M.2.2.2.2.2 pc = some (.aaload, 1)) (kk : Sim X Y (pc + 1) lv (va_rf ((Y.2.2.2.2 i x.toNatClampNeg).map Y.1) :: st) I J A B kc n) : Sim X Y pc lv (.int x :: .ref (Y.1 i) :: st) I J A B kc n := by
  obtain ⟨p, l, e, R, s, m, args, below, meth, cod, Q, D, cy, A0, nL⟩ := X
  obtain ⟨hx, hb, hown, hts, hns, hK, hml, hnl, hA, hok, hR⟩ := g
  intro H locs ls hP hD hS hl
  obtain ⟨q, hq⟩ := lst_at (K := Y.2.1) (i := i) (by omega) hi
  have hg := pool_get (cy := cy) (Y := Y) (I := I) (J := J) (A := A) (B := B) hq
  rw [cel_14 hKi] at hg
  exact va_aldq hx hb hK hP q 4 hg rfl hin (fnd_dec hok hd) (kk H locs ls hP hD hS hl)
theorem S_aaldR (g : Good X M) {i j : Nat} {x : Int32} (hi : i < 600) (hKi : Y.2.1 i = 13) (hin : vp_in x (Y.2.2.1 i)) (hr : Y.2.2.2.2 i x.toNatClampNeg = some j) (hd : fnd M.2.2.2.2.2 pc = some (.aaload, 1)) (kk : Sim X Y (pc + 1) lv (.ref (Y.1 j) :: st) I J A B kc n) : Sim X Y pc lv (.int x :: .ref (Y.1 i) :: st) I J A B kc n := by
  refine S_aald13 g hi hKi hin hd ?_
  rw [hr]
  exact kk
theorem S_iast (g : Good X M) {i : Nat} {x : Int32} {v : Int32} (hi : i < 600) (hKi : Y.2.1 i = 10) (hin : vp_in x (Y.2.2.1 i)) (hd : fnd M.2.2.2.2.2 pc = some (.iastore, 1)) (kk : Sim X Y (pc + 1) lv st I J (up2 A i x.toNatClampNeg v) B kc n) : Sim X Y pc lv (.int v :: .int x :: .ref (Y.1 i) :: st) I J A B kc n := by
  obtain ⟨p, l, e, R, s, m, args, below, meth, cod, Q, D, cy, A0, nL⟩ := X
  obtain ⟨hx, hb, hown, hts, hns, hK, hml, hnl, hA, hok, hR⟩ := g
  intro H locs ls hP hD hS hl
  obtain ⟨q, hq⟩ := lst_at (K := Y.2.1) (i := i) (by omega) hi
  have hg := pool_get (cy := cy) (Y := Y) (I := I) (J := J) (A := A) (B := B) hq
  rw [cel_10 hKi] at hg
  have he : (pool cy Y I J A B).set q (Y.1 i, .inl (cy.1, Y.2.2.1 i, .inl (upd (A i) x.toNatClampNeg v))) = pool cy Y I J (up2 A i x.toNatClampNeg v) B := by
    refine pool_set hD hq rfl rfl (fun j hj => cel_A j hj) ?_
    rw [cel_10 hKi]
    rw [va_up_self]
    rfl
  refine va_iast hx hb hK hP hD hS q 0 hg rfl hin (fnd_dec hok hd) (fun H1 locs1 hP1 hD1 hS1 => ?_)
  rw [he] at hP1 hD1
  exact kk H1 locs1 ls hP1 hD1 hS1 hl
theorem S_zast (g : Good X M) {i : Nat} {x : Int32} {v : Int32} (hi : i < 600) (hKi : Y.2.1 i = 12) (hin : vp_in x (Y.2.2.1 i)) (hv : vp_nar .boolean v = v) (hd : fnd M.2.2.2.2.2 pc = some (.bastore, 1)) (kk : Sim X Y (pc + 1) lv st I J (up2 A i x.toNatClampNeg v) B kc n) : Sim X Y pc lv (.int v :: .int x :: .ref (Y.1 i) :: st) I J A B kc n := by
  obtain ⟨p, l, e, R, s, m, args, below, meth, cod, Q, D, cy, A0, nL⟩ := X
  obtain ⟨hx, hb, hown, hts, hns, hK, hml, hnl, hA, hok, hR⟩ := g
  intro H locs ls hP hD hS hl
  obtain ⟨q, hq⟩ := lst_at (K := Y.2.1) (i := i) (by omega) hi
  have hg := pool_get (cy := cy) (Y := Y) (I := I) (J := J) (A := A) (B := B) hq
  rw [cel_12 hKi] at hg
  have he : (pool cy Y I J A B).set q (Y.1 i, .inl (cy.2.2.1, Y.2.2.1 i, .inl (upd (A i) x.toNatClampNeg v))) = pool cy Y I J (up2 A i x.toNatClampNeg v) B := by
    refine pool_set hD hq rfl rfl (fun j hj => cel_A j hj) ?_
    rw [cel_12 hKi]
    rw [va_up_self]
    rfl
  refine va_zast hx hb hK hP hD hS q 2 hg rfl hin (fnd_dec hok hd) (fun H1 locs1 hP1 hD1 hS1 => ?_)
  rw [hv] at hP1 hD1
  rw [he] at hP1 hD1
  exact kk H1 locs1 ls hP1 hD1 hS1 hl
theorem S_last (g : Good X M) {i : Nat} {x : Int32} {v : Int64} (hi : i < 600) (hKi : Y.2.1 i = 11) (hin : vp_in x (Y.2.2.1 i)) (hd : fnd M.2.2.2.2.2 pc = some (.lastore, 1)) (kk : Sim X Y (pc + 1) lv st I J A (up2 B i x.toNatClampNeg v) kc n) : Sim X Y pc lv (.long v :: .int x :: .ref (Y.1 i) :: st) I J A B kc n := by
  obtain ⟨p, l, e, R, s, m, args, below, meth, cod, Q, D, cy, A0, nL⟩ := X
  obtain ⟨hx, hb, hown, hts, hns, hK, hml, hnl, hA, hok, hR⟩ := g
  intro H locs ls hP hD hS hl
  obtain ⟨q, hq⟩ := lst_at (K := Y.2.1) (i := i) (by omega) hi
  have hg := pool_get (cy := cy) (Y := Y) (I := I) (J := J) (A := A) (B := B) hq
  rw [cel_11 hKi] at hg
  have he : (pool cy Y I J A B).set q (Y.1 i, .inl (cy.2.1, Y.2.2.1 i, .inr (.inl (vp_updL (B i) x.toNatClampNeg v)))) = pool cy Y I J A (up2 B i x.toNatClampNeg v) := by
    refine pool_set hD hq rfl rfl (fun j hj => cel_B j hj) ?_
    rw [cel_11 hKi]
    rw [va_up_self]
    rfl
  refine va_last hx hb hK hP hD hS q 1 hg rfl hin (fnd_dec hok hd) (fun H1 locs1 hP1 hD1 hS1 => ?_)
  rw [he] at hP1 hD1
  exact kk H1 locs1 ls hP1 hD1 hS1 hl
end Rules2
end
section
/-! calls by contract, arraycopy -/
/-- the words of a method that is called: its code, its class initialised, how many parameters -/
def MWp (M : MI) (np : Nat) : Prop := Cond.code M.1 M.2.1 M.2.2.1 M.2.2.2.1 ∈ lw_all ∧ Cond.initialized M.1.cls ∈ lw_all ∧ M.1.cls ≠ "java/lang/invoke/MethodHandle" ∧ M.1.cls ≠ "java/lang/invoke/VarHandle" ∧ (parseMethodDescriptor M.1.desc).map (fun d => d.parameters.length) = some np
def MWv (M : MI) (c np : Nat) : Prop := MWp M np ∧ Cond.instanceMethod M.1 ∈ lw_all ∧ Cond.selects M.1.cls M.1 M.1 ∈ lw_all ∧ ∃ T N, vwCl[c]? = some (M.1.cls, T, N)
def MWs (M : MI) (np : Nat) : Prop := MWp M np ∧ Cond.static M.1 ∈ lw_all
/-- the call's link: an ordinary one, or a nest mate's -/
def LKp (own : String) (idx : Nat) (y : MethodName) : Prop := Cond.methodLink own idx y ∈ lw_all ∨ ∃ host, Cond.methodLinkNest own idx y host ∈ lw_nst
def fits_room (M M2 : MI) : Prop := M2.2.2.2.2.1.frames + 1 ≤ M.2.2.2.2.1.frames ∧ 8 + (M2.2.2.1 + 11) + M2.2.2.2.2.1.locals ≤ M.2.2.2.2.1.locals
theorem all_good {M : MI} {np : Nat} (h : MWp M np) : GoodIn lw_all (Cond.code M.1 M.2.1 M.2.2.1 M.2.2.2.1 :: lw_all) := by
  intro w hw
  have hm : w ∈ lw_all := by
    rcases List.mem_cons.mp hw with h1 | h1
    · rw [h1]; exact h.1
    · exact h1
  exact ⟨hm, good_of_word (List.mem_filter.mp hm).2⟩
theorem pre_blind {av : List Value} {D : va_G} {cy : CY} {Y : PS} {I : FI} {J : FJ} {A : FI} {B : FJ} {sz : Nat} : FrameBlind (va_Pc av (PreP D cy Y I J A B sz)) := by
  intro a U g mk h
  obtain ⟨h1, h2, h3, h4, h5, h6⟩ := h
  exact ⟨h1, h2, h3, h4, va_K.moved (u := U) (U := U.calling g mk a) (Vm.Alike.refl U.vm) h5, nst_same (s := U) (U := U.calling g mk a) rfl h6⟩
theorem va_A_in {A0 : Nat → Prop} {ws : va_W} {H0 H : Heap} {locs : List Loc} (hD : va_D A0 ws) (hS : va_S A0 H0 H locs) (hA : ∀ q, H0.size ≤ q → A0 q) : ∀ q, va_A ws H.size q → A0 q := by
  intro q h
  rcases h with ⟨k, x, h⟩ | h
  · exact hD.2 k _ h
  · exact hA q (Nat.le_trans hS.1 h)
/-- behind the call, whatever it returns -/
theorem W_after {p : Program} {l : Launch} {e : Env} {R : Room} {s : State} {m : MethodId} {args : Array Value} {below : List Frame} {meth : Method} {c : Code} {H : Heap} {locs : List Loc} {k n mc ms : Nat} {Q : State → Prop} {D : va_G} {cy : CY} {A0 A1 : Nat → Prop} {post : PO} {pc : Nat} {ls : Array Slot} {st0 rest : List Value} {a : Array Value} (hr : va_Run p l e R s m args below meth c H locs k n mc ms (F0 m pc ls st0) rest (QcP D cy A1 post a) A1) (hS : va_S A0 s.heap H locs) (hA1 : ∀ q, A1 q → A0 q)
    (kk : ∀ (v : Option Value) (Y : PS) (I : FI) (J : FJ) (A : FI) (B : FJ) (H1 : Heap) (locs1 : List Loc), post v Y I J A B → va_P D vwCl (pool cy Y I J A B) H1 → va_D A0 (pool cy Y I J A B) → va_S A0 s.heap H1 locs1 → W p l e R s m args below meth c H1 locs1 (k + mc) (n + ms) Q (F0 m (pc + 3) ls (v.toList ++ rest))) : W p l e R s m args below meth c H locs k n Q (F0 m pc ls st0) := by
  intro T hT X
  obtain ⟨v, st₀, t, T', L, h0, X', hL, e1, e2, ⟨⟨v', Y, I, J, A, B, hv, hp, hP, hD⟩, hz, hk⟩, st⟩ := hr T hT X
  cases hv
  rw [h0] at hz hk
  obtain ⟨t2, a1, b1⟩ := kk v Y I J A B T'.heap (locs ++ L) hp (by rw [e1]; exact hP) (hD.weaken (fun _ q _ h => hA1 q.1 h))
    ⟨Nat.le_trans hS.1 (by rw [e1]; exact hz), fun q h1 h2 => by rw [e1, hk q (Nat.lt_of_lt_of_le h1 hS.1) (fun z => h2 (hA1 q z))]; exact hS.2.1 q h1 h2, fun q hq => by
      rcases List.mem_append.mp hq with h | h
      · exact hS.2.2 q h
      · exact hA1 _ (hL q h)⟩ T' rfl X'
  exact ⟨t2, st t2 a1, b1⟩
section Calls
variable {X : MX} {M M2 : MI} {Y : PS} {pc : Nat} {lv : List (Nat × Value)} {st : List Value} {I : FI} {J : FJ} {A : FI} {B : FJ} {kc n : Nat}
theorem S_callV (g : Good X M) {i c np idx : Nat} {As : List Value} {post : PO} (hsp : Spec M2 (.ref (Y.1 i) :: As) Y I J A B post) (mw : MWv M2 c np) (lk : LKp M.1.cls idx M2.1) (hroom : fits_room M M2) (hi : i < 600) (hc : c < 10) (hKi : Y.2.1 i = c) (hn : As.length = np) (hst : (st.map fun v => v.category).sum ≤ 8) (hf : kc + M2.2.2.2.2.1.cells ≤ M.2.2.2.2.1.cells ∧ n + M2.2.2.2.2.1.slots ≤ M.2.2.2.2.1.slots) (hd : fnd M.2.2.2.2.2 pc = some (.invokevirtual idx, 3))
    (kk : ∀ (v : Option Value) (Y' : PS) (I' : FI) (J' : FJ) (A' : FI) (B' : FJ), post v Y' I' J' A' B' → Sim X Y' (pc + 3) lv (v.toList ++ st) I' J' A' B' (kc + M2.2.2.2.2.1.cells) (n + M2.2.2.2.2.1.slots)) : Sim X Y pc lv (As.reverse ++ .ref (Y.1 i) :: st) I J A B kc n := by
  obtain ⟨p, l, e, R, s, m, args, below, meth, cod, Q, D, cy, A0, nL⟩ := X
  obtain ⟨hx, hb, hown, hts, hns, hK, hml, hnl, hA, hok, hR⟩ := g
  intro H locs ls hP hD hS hl
  obtain ⟨hmp, hins, hsel, T, N, hcl⟩ := mw
  obtain ⟨q, hq⟩ := lst_at (K := Y.2.1) (i := i) (by omega) hi
  have hg := pool_get (cy := cy) (Y := Y) (I := I) (J := J) (A := A) (B := B) hq
  rw [cel_o hKi hc] at hg
  have hrv := va_recv hK hP hcl hg
  have hpre : PreV s H M2.1.cls (Y.1 i) (va_Pc (.ref (Y.1 i) :: As) (PreP D cy Y I J A B H.size)) As := ⟨pre_blind, hrv, fun U hU hW => ⟨rfl, by rw [hU], by rw [hU]; exact hP, hD.weaken (fun _ _ _ _ => trivial), va_K.moved hW.alike hK, nst_warm hW hns⟩⟩
  subst hR
  have hG := all_good hmp
  have hnl' : ls.size = nL := hl.1
  rcases lk with lk | ⟨host, lk⟩
  · refine W_after (va_runV (As := As) (rest := st) ⟨hx, hb, hml, hown, hts⟩ (hsp l D cy H.size) (C := M2.1.cls) (n := np) ⟨callB_of np hts hG rfl rfl rfl (hts _ hmp.2.1) (hts _ lk) hmp.2.2 hroom, hts _ hins, hts _ hsel⟩ hpre rfl hn (hnl'.trans hnl) rfl (lv_room hst) (fnd_dec hok hd) hf) hS (va_A_in hD hS hA) (fun v Y' I' J' A' B' H1 locs1 hpo hP1 hD1 hS1 => kk v Y' I' J' A' B' hpo H1 locs1 ls hP1 hD1 hS1 hl)
  · refine W_after (va_runVN (As := As) (rest := st) ⟨hx, hb, hml, hown, hts⟩ (hsp l D cy H.size) (C := M2.1.cls) (host := host) (n := np) ⟨va_cnB np hts hG rfl rfl rfl (hns _ lk) (hts _ hmp.2.1) hmp.2.2 hroom, hts _ hins, hts _ hsel⟩ hpre rfl hn (hnl'.trans hnl) rfl (lv_room hst) (fnd_dec hok hd) hf) hS (va_A_in hD hS hA) (fun v Y' I' J' A' B' H1 locs1 hpo hP1 hD1 hS1 => kk v Y' I' J' A' B' hpo H1 locs1 ls hP1 hD1 hS1 hl)
theorem S_callS (g : Good X M) {np idx : Nat} {As : List Value} {post : PO} (hsp : Spec M2 As Y I J A B post) (mw : MWs M2 np) (lk : LKp M.1.cls idx M2.1) (hroom : fits_room M M2) (hn : As.length = np) (hst : (st.map fun v => v.category).sum ≤ 8) (hf : kc + M2.2.2.2.2.1.cells ≤ M.2.2.2.2.1.cells ∧ n + M2.2.2.2.2.1.slots ≤ M.2.2.2.2.1.slots) (hd : fnd M.2.2.2.2.2 pc = some (.invokestatic idx, 3))
    (kk : ∀ (v : Option Value) (Y' : PS) (I' : FI) (J' : FJ) (A' : FI) (B' : FJ), post v Y' I' J' A' B' → Sim X Y' (pc + 3) lv (v.toList ++ st) I' J' A' B' (kc + M2.2.2.2.2.1.cells) (n + M2.2.2.2.2.1.slots)) : Sim X Y pc lv (As.reverse ++ st) I J A B kc n := by
  obtain ⟨p, l, e, R, s, m, args, below, meth, cod, Q, D, cy, A0, nL⟩ := X
  obtain ⟨hx, hb, hown, hts, hns, hK, hml, hnl, hA, hok, hR⟩ := g
  intro H locs ls hP hD hS hl
  obtain ⟨hmp, hstat⟩ := mw
  have hpre : PreS s H (va_Pc As (PreP D cy Y I J A B H.size)) As := ⟨pre_blind, fun U hU hW => ⟨rfl, by rw [hU], by rw [hU]; exact hP, hD.weaken (fun _ _ _ _ => trivial), va_K.moved hW.alike hK, nst_warm hW hns⟩⟩
  subst hR
  have hG := all_good hmp
  have hnl' : ls.size = nL := hl.1
  rcases lk with lk | ⟨host, lk⟩
  · refine W_after (va_runS (As := As) (rest := st) ⟨hx, hb, hml, hown, hts⟩ (hsp l D cy H.size) (n := np) ⟨callB_of np hts hG rfl rfl rfl (hts _ hmp.2.1) (hts _ lk) hmp.2.2 hroom, hts _ hstat⟩ hpre rfl hn (hnl'.trans hnl) rfl (lv_room hst) (fnd_dec hok hd) hf) hS (va_A_in hD hS hA) (fun v Y' I' J' A' B' H1 locs1 hpo hP1 hD1 hS1 => kk v Y' I' J' A' B' hpo H1 locs1 ls hP1 hD1 hS1 hl)
  · refine W_after (va_runSN (As := As) (rest := st) ⟨hx, hb, hml, hown, hts⟩ (hsp l D cy H.size) (host := host) (n := np) ⟨va_cnB np hts hG rfl rfl rfl (hns _ lk) (hts _ hmp.2.1) hmp.2.2 hroom, hts _ hstat, trivial⟩ hpre rfl hn (hnl'.trans hnl) rfl (lv_room hst) (fnd_dec hok hd) hf) hS (va_A_in hD hS hA) (fun v Y' I' J' A' B' H1 locs1 hpo hP1 hD1 hS1 => kk v Y' I' J' A' B' hpo H1 locs1 ls hP1 hD1 hS1 hl)
/-- what changes nothing of the layout, and answers just this -/
def eqP (v : Option Value) (Y : PS) (I : FI) (J : FJ) (A : FI) (B : FJ) : PO := fun v' Y' I' J' A' B' => v' = v ∧ Y' = Y ∧ I' = I ∧ J' = J ∧ A' = A ∧ B' = B
theorem eqP_rf {v : Option Value} : eqP v Y I J A B v Y I J A B := ⟨rfl, rfl, rfl, rfl, rfl, rfl⟩
theorem S_cV (g : Good X M) {i c np idx : Nat} {As : List Value} {v : Option Value} {I' : FI} {J' : FJ} {A' : FI} {B' : FJ} (hsp : Spec M2 (.ref (Y.1 i) :: As) Y I J A B (eqP v Y I' J' A' B')) (mw : MWv M2 c np) (lk : LKp M.1.cls idx M2.1) (hroom : fits_room M M2) (hi : i < 600) (hc : c < 10) (hKi : Y.2.1 i = c) (hn : As.length = np) (hst : (st.map fun v => v.category).sum ≤ 8) (hf : kc + M2.2.2.2.2.1.cells ≤ M.2.2.2.2.1.cells ∧ n + M2.2.2.2.2.1.slots ≤ M.2.2.2.2.1.slots) (hd : fnd M.2.2.2.2.2 pc = some (.invokevirtual idx, 3))
    (kk : Sim X Y (pc + 3) lv (v.toList ++ st) I' J' A' B' (kc + M2.2.2.2.2.1.cells) (n + M2.2.2.2.2.1.slots)) : Sim X Y pc lv (As.reverse ++ .ref (Y.1 i) :: st) I J A B kc n :=
  S_callV g hsp mw lk hroom hi hc hKi hn hst hf hd (fun v' Y' a b c d h => by obtain ⟨rfl, rfl, rfl, rfl, rfl, rfl⟩ := h; exact kk)
theorem S_cS (g : Good X M) {np idx : Nat} {As : List Value} {v : Option Value} {I' : FI} {J' : FJ} {A' : FI} {B' : FJ} (hsp : Spec M2 As Y I J A B (eqP v Y I' J' A' B')) (mw : MWs M2 np) (lk : LKp M.1.cls idx M2.1) (hroom : fits_room M M2) (hn : As.length = np) (hst : (st.map fun v => v.category).sum ≤ 8) (hf : kc + M2.2.2.2.2.1.cells ≤ M.2.2.2.2.1.cells ∧ n + M2.2.2.2.2.1.slots ≤ M.2.2.2.2.1.slots) (hd : fnd M.2.2.2.2.2 pc = some (.invokestatic idx, 3))
    (kk : Sim X Y (pc + 3) lv (v.toList ++ st) I' J' A' B' (kc + M2.2.2.2.2.1.cells) (n + M2.2.2.2.2.1.slots)) : Sim X Y pc lv (As.reverse ++ st) I J A B kc n :=
  S_callS g hsp mw lk hroom hn hst hf hd (fun v' Y' a b c d h => by obtain ⟨rfl, rfl, rfl, rfl, rfl, rfl⟩ := h; exact kk)
theorem S_copyi (g : Good X M) {i j idx : Nat} {sp dp c : Int32} (hi : i < 600) (hKi : Y.2.1 i = 10) (hj : j < 600) (hKj : Y.2.1 j = 10) (hlk : Cond.methodLink M.1.cls idx arraycopyName ∈ lw_all) (hnat : Cond.native arraycopyName ∈ lw_all) (hstat : Cond.static arraycopyName ∈ lw_all) (hini : Cond.initialized "java/lang/System" ∈ lw_all) (h1 : ¬ sp < 0) (h2 : ¬ dp < 0) (h3 : ¬ c < 0) (h4 : sp.toNatClampNeg + c.toNatClampNeg ≤ Y.2.2.1 i) (h5 : dp.toNatClampNeg + c.toNatClampNeg ≤ Y.2.2.1 j) (hfr : 1 ≤ M.2.2.2.2.1.frames) (hlo : (st.map fun v => v.category).sum + (nativeFrameWords "java/lang/System" "arraycopy" 5 + 11) ≤ M.2.2.2.2.1.locals) (hd : fnd M.2.2.2.2.2 pc = some (.invokestatic idx, 3)) (kk : Sim X Y (pc + 3) lv st I J (va_up A j (va_cpy (A i) (A j) sp.toNatClampNeg dp.toNatClampNeg c.toNatClampNeg)) B kc n) : Sim X Y pc lv (.int c :: .int dp :: .ref (Y.1 j) :: .int sp :: .ref (Y.1 i) :: st) I J A B kc n := by
  obtain ⟨p, l, e, R, s, m, args, below, meth, cod, Q, D, cy, A0, nL⟩ := X
  obtain ⟨hx, hb, hown, hts, hns, hK, hml, hnl, hA, hok, hR⟩ := g
  intro H locs ls hP hD hS hl
  obtain ⟨q, hq⟩ := lst_at (K := Y.2.1) (i := i) (by omega) hi
  have hg := pool_get (cy := cy) (Y := Y) (I := I) (J := J) (A := A) (B := B) hq
  rw [cel_10 hKi] at hg
  obtain ⟨q1, hq1⟩ := lst_at (K := Y.2.1) (i := j) (by omega) hj
  have hg1 := pool_get (cy := cy) (Y := Y) (I := I) (J := J) (A := A) (B := B) hq1
  rw [cel_10 hKj] at hg1
  have he : (pool cy Y I J A B).set q1 (Y.1 j, .inl (cy.1, Y.2.2.1 j, .inl (va_cpy (A i) (A j) sp.toNatClampNeg dp.toNatClampNeg c.toNatClampNeg))) = pool cy Y I J (va_up A j (va_cpy (A i) (A j) sp.toNatClampNeg dp.toNatClampNeg c.toNatClampNeg)) B := by
    refine pool_set hD hq1 rfl rfl (fun j hj => cel_A j hj) ?_
    rw [cel_10 hKj, va_up_self]
  subst hR
  refine va_copyi (ty := .int) hx hb (hml.trans (hnl.symm.trans hl.1.symm)) hown (hts _ hlk) (hts _ hnat) (hts _ hstat) (hts _ hini) hK hP hD hS q q1 0 0 hg hg1 rfl rfl rfl h1 h2 h3 h4 h5 (fun _ _ => rfl) hfr hlo (fnd_dec hok hd) (fun H1 locs1 hP1 hD1 hS1 => ?_)
  rw [he] at hP1 hD1
  exact kk H1 locs1 ls hP1 hD1 hS1 hl
theorem S_copyl (g : Good X M) {i j idx : Nat} {sp dp c : Int32} (hi : i < 600) (hKi : Y.2.1 i = 11) (hj : j < 600) (hKj : Y.2.1 j = 11) (hlk : Cond.methodLink M.1.cls idx arraycopyName ∈ lw_all) (hnat : Cond.native arraycopyName ∈ lw_all) (hstat : Cond.static arraycopyName ∈ lw_all) (hini : Cond.initialized "java/lang/System" ∈ lw_all) (h1 : ¬ sp < 0) (h2 : ¬ dp < 0) (h3 : ¬ c < 0) (h4 : sp.toNatClampNeg + c.toNatClampNeg ≤ Y.2.2.1 i) (h5 : dp.toNatClampNeg + c.toNatClampNeg ≤ Y.2.2.1 j) (hfr : 1 ≤ M.2.2.2.2.1.frames) (hlo : (st.map fun v => v.category).sum + (nativeFrameWords "java/lang/System" "arraycopy" 5 + 11) ≤ M.2.2.2.2.1.locals) (hd : fnd M.2.2.2.2.2 pc = some (.invokestatic idx, 3)) (kk : Sim X Y (pc + 3) lv st I J A (va_up B j (va_cpy (B i) (B j) sp.toNatClampNeg dp.toNatClampNeg c.toNatClampNeg)) kc n) : Sim X Y pc lv (.int c :: .int dp :: .ref (Y.1 j) :: .int sp :: .ref (Y.1 i) :: st) I J A B kc n := by
  obtain ⟨p, l, e, R, s, m, args, below, meth, cod, Q, D, cy, A0, nL⟩ := X
  obtain ⟨hx, hb, hown, hts, hns, hK, hml, hnl, hA, hok, hR⟩ := g
  intro H locs ls hP hD hS hl
  obtain ⟨q, hq⟩ := lst_at (K := Y.2.1) (i := i) (by omega) hi
  have hg := pool_get (cy := cy) (Y := Y) (I := I) (J := J) (A := A) (B := B) hq
  rw [cel_11 hKi] at hg
  obtain ⟨q1, hq1⟩ := lst_at (K := Y.2.1) (i := j) (by omega) hj
  have hg1 := pool_get (cy := cy) (Y := Y) (I := I) (J := J) (A := A) (B := B) hq1
  rw [cel_11 hKj] at hg1
  have he : (pool cy Y I J A B).set q1 (Y.1 j, .inl (cy.2.1, Y.2.2.1 j, .inr (.inl (va_cpy (B i) (B j) sp.toNatClampNeg dp.toNatClampNeg c.toNatClampNeg)))) = pool cy Y I J A (va_up B j (va_cpy (B i) (B j) sp.toNatClampNeg dp.toNatClampNeg c.toNatClampNeg)) := by
    refine pool_set hD hq1 rfl rfl (fun j hj => cel_B j hj) ?_
    rw [cel_11 hKj, va_up_self]
  subst hR
  refine va_copyl (ty := .long) hx hb (hml.trans (hnl.symm.trans hl.1.symm)) hown (hts _ hlk) (hts _ hnat) (hts _ hstat) (hts _ hini) hK hP hD hS q q1 1 1 hg hg1 rfl rfl rfl h1 h2 h3 h4 h5 (fun _ _ => rfl) hfr hlo (fnd_dec hok hd) (fun H1 locs1 hP1 hD1 hS1 => ?_)
  rw [he] at hP1 hD1
  exact kk H1 locs1 ls hP1 hD1 hS1 hl
end Calls
end
