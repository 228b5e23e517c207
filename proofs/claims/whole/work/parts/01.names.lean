-- ===== PART A: goes FIRST, ahead of the names: the tables' words, and 'selects' of the private methods out of them =====
/-- a private method of a class that the tables say can be made, by its rows of tables_1 -/
def lw_okq (q : MethodName × Nat) : Prop := (q.1.cls ≠ "java/lang/invoke/MethodHandle" ∧ q.1.cls ≠ "java/lang/invoke/VarHandle") ∧ Cond.instantiable q.1.cls q.2 ∈ tables_1 ∧ Cond.privateMethod q.1 ∈ tables_1 ∧ Cond.instanceMethod q.1 ∈ tables_1
theorem lw_p0 : lw_okq (⟨"PurserLedgers", "newTrial", "()LPurserLedgers$Books;"⟩, 5) := ⟨⟨by decide +kernel, by decide +kernel⟩, List.mem_of_getElem? (i := 15) (by decide +kernel), List.mem_of_getElem? (i := 287) (by decide +kernel), List.mem_of_getElem? (i := 288) (by decide +kernel)⟩
theorem lw_p1 : lw_okq (⟨"PurserLedgers", "settleTrial", "(I)I"⟩, 5) := ⟨⟨by decide +kernel, by decide +kernel⟩, List.mem_of_getElem? (i := 15) (by decide +kernel), List.mem_of_getElem? (i := 330) (by decide +kernel), List.mem_of_getElem? (i := 331) (by decide +kernel)⟩
theorem lw_p2 : lw_okq (⟨"PurserLedgers$Books", "reasonAgainst", "(LPurserLedgers$Sailor;LPurserLedgers$Item;I)I"⟩, 10) := ⟨⟨by decide +kernel, by decide +kernel⟩, List.mem_of_getElem? (i := 23) (by decide +kernel), List.mem_of_getElem? (i := 379) (by decide +kernel), List.mem_of_getElem? (i := 380) (by decide +kernel)⟩
theorem lw_p3 : lw_okq (⟨"PurserLedgers$Order", "readSign", "(LPurserLedgers$Text;I)Z"⟩, 3) := ⟨⟨by decide +kernel, by decide +kernel⟩, List.mem_of_getElem? (i := 233) (by decide +kernel), List.mem_of_getElem? (i := 721) (by decide +kernel), List.mem_of_getElem? (i := 722) (by decide +kernel)⟩
theorem lw_p4 : lw_okq (⟨"PurserLedgers$Order", "readNumber", "(LPurserLedgers$Text;)I"⟩, 3) := ⟨⟨by decide +kernel, by decide +kernel⟩, List.mem_of_getElem? (i := 233) (by decide +kernel), List.mem_of_getElem? (i := 725) (by decide +kernel), List.mem_of_getElem? (i := 726) (by decide +kernel)⟩
theorem lw_p5 : lw_okq (⟨"PurserLedgers$Order", "number", "(I)I"⟩, 3) := ⟨⟨by decide +kernel, by decide +kernel⟩, List.mem_of_getElem? (i := 233) (by decide +kernel), List.mem_of_getElem? (i := 735) (by decide +kernel), List.mem_of_getElem? (i := 736) (by decide +kernel)⟩
theorem lw_p6 : lw_okq (⟨"PurserLedgersModel", "noSign", "(II)I"⟩, 13) := ⟨⟨by decide +kernel, by decide +kernel⟩, List.mem_of_getElem? (i := 765) (by decide +kernel), List.mem_of_getElem? (i := 820) (by decide +kernel), List.mem_of_getElem? (i := 821) (by decide +kernel)⟩
theorem lw_p7 : lw_okq (⟨"PurserLedgersModel", "isAtSea", "()Z"⟩, 13) := ⟨⟨by decide +kernel, by decide +kernel⟩, List.mem_of_getElem? (i := 765) (by decide +kernel), List.mem_of_getElem? (i := 828) (by decide +kernel), List.mem_of_getElem? (i := 829) (by decide +kernel)⟩
theorem lw_p8 : lw_okq (⟨"PurserLedgersModel", "record", "([I)V"⟩, 13) := ⟨⟨by decide +kernel, by decide +kernel⟩, List.mem_of_getElem? (i := 765) (by decide +kernel), List.mem_of_getElem? (i := 833) (by decide +kernel), List.mem_of_getElem? (i := 834) (by decide +kernel)⟩
theorem lw_p9 : lw_okq (⟨"PurserLedgersModel", "doSign", "(II)I"⟩, 13) := ⟨⟨by decide +kernel, by decide +kernel⟩, List.mem_of_getElem? (i := 765) (by decide +kernel), List.mem_of_getElem? (i := 837) (by decide +kernel), List.mem_of_getElem? (i := 838) (by decide +kernel)⟩
theorem lw_p10 : lw_okq (⟨"PurserLedgersModel", "clear", "(I)V"⟩, 13) := ⟨⟨by decide +kernel, by decide +kernel⟩, List.mem_of_getElem? (i := 765) (by decide +kernel), List.mem_of_getElem? (i := 841) (by decide +kernel), List.mem_of_getElem? (i := 842) (by decide +kernel)⟩
theorem lw_p11 : lw_okq (⟨"PurserLedgersModel", "put", "(III)V"⟩, 13) := ⟨⟨by decide +kernel, by decide +kernel⟩, List.mem_of_getElem? (i := 765) (by decide +kernel), List.mem_of_getElem? (i := 845) (by decide +kernel), List.mem_of_getElem? (i := 846) (by decide +kernel)⟩
theorem lw_p12 : lw_okq (⟨"PurserLedgersModel", "noStock", "(III)I"⟩, 13) := ⟨⟨by decide +kernel, by decide +kernel⟩, List.mem_of_getElem? (i := 765) (by decide +kernel), List.mem_of_getElem? (i := 853) (by decide +kernel), List.mem_of_getElem? (i := 854) (by decide +kernel)⟩
theorem lw_p13 : lw_okq (⟨"PurserLedgersModel", "ofItem", "(II)I"⟩, 13) := ⟨⟨by decide +kernel, by decide +kernel⟩, List.mem_of_getElem? (i := 765) (by decide +kernel), List.mem_of_getElem? (i := 860) (by decide +kernel), List.mem_of_getElem? (i := 861) (by decide +kernel)⟩
theorem lw_p14 : lw_okq (⟨"PurserLedgersModel", "doStock", "(III)I"⟩, 13) := ⟨⟨by decide +kernel, by decide +kernel⟩, List.mem_of_getElem? (i := 765) (by decide +kernel), List.mem_of_getElem? (i := 864) (by decide +kernel), List.mem_of_getElem? (i := 865) (by decide +kernel)⟩
theorem lw_p15 : lw_okq (⟨"PurserLedgersModel", "spend", "(I)V"⟩, 13) := ⟨⟨by decide +kernel, by decide +kernel⟩, List.mem_of_getElem? (i := 765) (by decide +kernel), List.mem_of_getElem? (i := 868) (by decide +kernel), List.mem_of_getElem? (i := 869) (by decide +kernel)⟩
def lw_privs_1 : List (MethodName × Nat) := [(⟨"PurserLedgers", "newTrial", "()LPurserLedgers$Books;"⟩, 5), (⟨"PurserLedgers", "settleTrial", "(I)I"⟩, 5), (⟨"PurserLedgers$Books", "reasonAgainst", "(LPurserLedgers$Sailor;LPurserLedgers$Item;I)I"⟩, 10), (⟨"PurserLedgers$Order", "readSign", "(LPurserLedgers$Text;I)Z"⟩, 3), (⟨"PurserLedgers$Order", "readNumber", "(LPurserLedgers$Text;)I"⟩, 3), (⟨"PurserLedgers$Order", "number", "(I)I"⟩, 3), (⟨"PurserLedgersModel", "noSign", "(II)I"⟩, 13), (⟨"PurserLedgersModel", "isAtSea", "()Z"⟩, 13), (⟨"PurserLedgersModel", "record", "([I)V"⟩, 13), (⟨"PurserLedgersModel", "doSign", "(II)I"⟩, 13), (⟨"PurserLedgersModel", "clear", "(I)V"⟩, 13), (⟨"PurserLedgersModel", "put", "(III)V"⟩, 13), (⟨"PurserLedgersModel", "noStock", "(III)I"⟩, 13), (⟨"PurserLedgersModel", "ofItem", "(II)I"⟩, 13), (⟨"PurserLedgersModel", "doStock", "(III)I"⟩, 13), (⟨"PurserLedgersModel", "spend", "(I)V"⟩, 13)]
theorem lw_r1 : ∀ q ∈ lw_privs_1, lw_okq q := List.forall_mem_cons.mpr ⟨lw_p0, List.forall_mem_cons.mpr ⟨lw_p1, List.forall_mem_cons.mpr ⟨lw_p2, List.forall_mem_cons.mpr ⟨lw_p3, List.forall_mem_cons.mpr ⟨lw_p4, List.forall_mem_cons.mpr ⟨lw_p5, List.forall_mem_cons.mpr ⟨lw_p6, List.forall_mem_cons.mpr ⟨lw_p7, List.forall_mem_cons.mpr ⟨lw_p8, List.forall_mem_cons.mpr ⟨lw_p9, List.forall_mem_cons.mpr ⟨lw_p10, List.forall_mem_cons.mpr ⟨lw_p11, List.forall_mem_cons.mpr ⟨lw_p12, List.forall_mem_cons.mpr ⟨lw_p13, List.forall_mem_cons.mpr ⟨lw_p14, List.forall_mem_cons.mpr ⟨lw_p15, fun _ h => absurd h List.not_mem_nil⟩⟩⟩⟩⟩⟩⟩⟩⟩⟩⟩⟩⟩⟩⟩⟩
theorem lw_p16 : lw_okq (⟨"PurserLedgersModel", "noSell", "(III)I"⟩, 13) := ⟨⟨by decide +kernel, by decide +kernel⟩, List.mem_of_getElem? (i := 765) (by decide +kernel), List.mem_of_getElem? (i := 876) (by decide +kernel), List.mem_of_getElem? (i := 877) (by decide +kernel)⟩
theorem lw_p17 : lw_okq (⟨"PurserLedgersModel", "isSailor", "(I)Z"⟩, 13) := ⟨⟨by decide +kernel, by decide +kernel⟩, List.mem_of_getElem? (i := 765) (by decide +kernel), List.mem_of_getElem? (i := 880) (by decide +kernel), List.mem_of_getElem? (i := 881) (by decide +kernel)⟩
theorem lw_p18 : lw_okq (⟨"PurserLedgersModel", "whyNot", "(III)I"⟩, 13) := ⟨⟨by decide +kernel, by decide +kernel⟩, List.mem_of_getElem? (i := 765) (by decide +kernel), List.mem_of_getElem? (i := 884) (by decide +kernel), List.mem_of_getElem? (i := 885) (by decide +kernel)⟩
theorem lw_p19 : lw_okq (⟨"PurserLedgersModel", "of", "(II)I"⟩, 13) := ⟨⟨by decide +kernel, by decide +kernel⟩, List.mem_of_getElem? (i := 765) (by decide +kernel), List.mem_of_getElem? (i := 888) (by decide +kernel), List.mem_of_getElem? (i := 889) (by decide +kernel)⟩
theorem lw_p20 : lw_okq (⟨"PurserLedgersModel", "balance", "(I)I"⟩, 13) := ⟨⟨by decide +kernel, by decide +kernel⟩, List.mem_of_getElem? (i := 765) (by decide +kernel), List.mem_of_getElem? (i := 892) (by decide +kernel), List.mem_of_getElem? (i := 893) (by decide +kernel)⟩
theorem lw_p21 : lw_okq (⟨"PurserLedgersModel", "isGone", "(I)Z"⟩, 13) := ⟨⟨by decide +kernel, by decide +kernel⟩, List.mem_of_getElem? (i := 765) (by decide +kernel), List.mem_of_getElem? (i := 896) (by decide +kernel), List.mem_of_getElem? (i := 897) (by decide +kernel)⟩
theorem lw_p22 : lw_okq (⟨"PurserLedgersModel", "earned", "(I)I"⟩, 13) := ⟨⟨by decide +kernel, by decide +kernel⟩, List.mem_of_getElem? (i := 765) (by decide +kernel), List.mem_of_getElem? (i := 900) (by decide +kernel), List.mem_of_getElem? (i := 901) (by decide +kernel)⟩
theorem lw_p23 : lw_okq (⟨"PurserLedgersModel", "charged", "(I)I"⟩, 13) := ⟨⟨by decide +kernel, by decide +kernel⟩, List.mem_of_getElem? (i := 765) (by decide +kernel), List.mem_of_getElem? (i := 907) (by decide +kernel), List.mem_of_getElem? (i := 908) (by decide +kernel)⟩
theorem lw_p24 : lw_okq (⟨"PurserLedgersModel", "doSell", "(III)I"⟩, 13) := ⟨⟨by decide +kernel, by decide +kernel⟩, List.mem_of_getElem? (i := 765) (by decide +kernel), List.mem_of_getElem? (i := 911) (by decide +kernel), List.mem_of_getElem? (i := 912) (by decide +kernel)⟩
theorem lw_p25 : lw_okq (⟨"PurserLedgersModel", "charge", "(III)V"⟩, 13) := ⟨⟨by decide +kernel, by decide +kernel⟩, List.mem_of_getElem? (i := 765) (by decide +kernel), List.mem_of_getElem? (i := 915) (by decide +kernel), List.mem_of_getElem? (i := 916) (by decide +kernel)⟩
theorem lw_p26 : lw_okq (⟨"PurserLedgersModel", "write", "(III)V"⟩, 13) := ⟨⟨by decide +kernel, by decide +kernel⟩, List.mem_of_getElem? (i := 765) (by decide +kernel), List.mem_of_getElem? (i := 919) (by decide +kernel), List.mem_of_getElem? (i := 920) (by decide +kernel)⟩
theorem lw_p27 : lw_okq (⟨"PurserLedgersModel", "noAdvance", "(II)I"⟩, 13) := ⟨⟨by decide +kernel, by decide +kernel⟩, List.mem_of_getElem? (i := 765) (by decide +kernel), List.mem_of_getElem? (i := 927) (by decide +kernel), List.mem_of_getElem? (i := 928) (by decide +kernel)⟩
theorem lw_p28 : lw_okq (⟨"PurserLedgersModel", "doAdvance", "(II)I"⟩, 13) := ⟨⟨by decide +kernel, by decide +kernel⟩, List.mem_of_getElem? (i := 765) (by decide +kernel), List.mem_of_getElem? (i := 931) (by decide +kernel), List.mem_of_getElem? (i := 932) (by decide +kernel)⟩
theorem lw_p29 : lw_okq (⟨"PurserLedgersModel", "noFine", "(II)I"⟩, 13) := ⟨⟨by decide +kernel, by decide +kernel⟩, List.mem_of_getElem? (i := 765) (by decide +kernel), List.mem_of_getElem? (i := 939) (by decide +kernel), List.mem_of_getElem? (i := 940) (by decide +kernel)⟩
theorem lw_p30 : lw_okq (⟨"PurserLedgersModel", "doFine", "(II)I"⟩, 13) := ⟨⟨by decide +kernel, by decide +kernel⟩, List.mem_of_getElem? (i := 765) (by decide +kernel), List.mem_of_getElem? (i := 943) (by decide +kernel), List.mem_of_getElem? (i := 944) (by decide +kernel)⟩
theorem lw_p31 : lw_okq (⟨"PurserLedgersModel", "ofWatch", "(II)I"⟩, 13) := ⟨⟨by decide +kernel, by decide +kernel⟩, List.mem_of_getElem? (i := 765) (by decide +kernel), List.mem_of_getElem? (i := 951) (by decide +kernel), List.mem_of_getElem? (i := 952) (by decide +kernel)⟩
def lw_privs_2 : List (MethodName × Nat) := [(⟨"PurserLedgersModel", "noSell", "(III)I"⟩, 13), (⟨"PurserLedgersModel", "isSailor", "(I)Z"⟩, 13), (⟨"PurserLedgersModel", "whyNot", "(III)I"⟩, 13), (⟨"PurserLedgersModel", "of", "(II)I"⟩, 13), (⟨"PurserLedgersModel", "balance", "(I)I"⟩, 13), (⟨"PurserLedgersModel", "isGone", "(I)Z"⟩, 13), (⟨"PurserLedgersModel", "earned", "(I)I"⟩, 13), (⟨"PurserLedgersModel", "charged", "(I)I"⟩, 13), (⟨"PurserLedgersModel", "doSell", "(III)I"⟩, 13), (⟨"PurserLedgersModel", "charge", "(III)V"⟩, 13), (⟨"PurserLedgersModel", "write", "(III)V"⟩, 13), (⟨"PurserLedgersModel", "noAdvance", "(II)I"⟩, 13), (⟨"PurserLedgersModel", "doAdvance", "(II)I"⟩, 13), (⟨"PurserLedgersModel", "noFine", "(II)I"⟩, 13), (⟨"PurserLedgersModel", "doFine", "(II)I"⟩, 13), (⟨"PurserLedgersModel", "ofWatch", "(II)I"⟩, 13)]
theorem lw_r2 : ∀ q ∈ lw_privs_2, lw_okq q := List.forall_mem_cons.mpr ⟨lw_p16, List.forall_mem_cons.mpr ⟨lw_p17, List.forall_mem_cons.mpr ⟨lw_p18, List.forall_mem_cons.mpr ⟨lw_p19, List.forall_mem_cons.mpr ⟨lw_p20, List.forall_mem_cons.mpr ⟨lw_p21, List.forall_mem_cons.mpr ⟨lw_p22, List.forall_mem_cons.mpr ⟨lw_p23, List.forall_mem_cons.mpr ⟨lw_p24, List.forall_mem_cons.mpr ⟨lw_p25, List.forall_mem_cons.mpr ⟨lw_p26, List.forall_mem_cons.mpr ⟨lw_p27, List.forall_mem_cons.mpr ⟨lw_p28, List.forall_mem_cons.mpr ⟨lw_p29, List.forall_mem_cons.mpr ⟨lw_p30, List.forall_mem_cons.mpr ⟨lw_p31, fun _ h => absurd h List.not_mem_nil⟩⟩⟩⟩⟩⟩⟩⟩⟩⟩⟩⟩⟩⟩⟩⟩
theorem lw_p32 : lw_okq (⟨"PurserLedgersModel", "isFined", "(II)Z"⟩, 13) := ⟨⟨by decide +kernel, by decide +kernel⟩, List.mem_of_getElem? (i := 765) (by decide +kernel), List.mem_of_getElem? (i := 955) (by decide +kernel), List.mem_of_getElem? (i := 956) (by decide +kernel)⟩
theorem lw_p33 : lw_okq (⟨"PurserLedgersModel", "partOf", "(III)I"⟩, 13) := ⟨⟨by decide +kernel, by decide +kernel⟩, List.mem_of_getElem? (i := 765) (by decide +kernel), List.mem_of_getElem? (i := 959) (by decide +kernel), List.mem_of_getElem? (i := 960) (by decide +kernel)⟩
theorem lw_p34 : lw_okq (⟨"PurserLedgersModel", "noLeave", "(I)I"⟩, 13) := ⟨⟨by decide +kernel, by decide +kernel⟩, List.mem_of_getElem? (i := 765) (by decide +kernel), List.mem_of_getElem? (i := 967) (by decide +kernel), List.mem_of_getElem? (i := 968) (by decide +kernel)⟩
theorem lw_p35 : lw_okq (⟨"PurserLedgersModel", "inPlace", "(I)I"⟩, 13) := ⟨⟨by decide +kernel, by decide +kernel⟩, List.mem_of_getElem? (i := 765) (by decide +kernel), List.mem_of_getElem? (i := 971) (by decide +kernel), List.mem_of_getElem? (i := 972) (by decide +kernel)⟩
theorem lw_p36 : lw_okq (⟨"PurserLedgersModel", "aboardOf", "(I)I"⟩, 13) := ⟨⟨by decide +kernel, by decide +kernel⟩, List.mem_of_getElem? (i := 765) (by decide +kernel), List.mem_of_getElem? (i := 975) (by decide +kernel), List.mem_of_getElem? (i := 976) (by decide +kernel)⟩
theorem lw_p37 : lw_okq (⟨"PurserLedgersModel", "doLeave", "(I)I"⟩, 13) := ⟨⟨by decide +kernel, by decide +kernel⟩, List.mem_of_getElem? (i := 765) (by decide +kernel), List.mem_of_getElem? (i := 979) (by decide +kernel), List.mem_of_getElem? (i := 980) (by decide +kernel)⟩
theorem lw_p38 : lw_okq (⟨"PurserLedgersModel", "noBack", "(II)I"⟩, 13) := ⟨⟨by decide +kernel, by decide +kernel⟩, List.mem_of_getElem? (i := 765) (by decide +kernel), List.mem_of_getElem? (i := 987) (by decide +kernel), List.mem_of_getElem? (i := 988) (by decide +kernel)⟩
theorem lw_p39 : lw_okq (⟨"PurserLedgersModel", "doBack", "(II)I"⟩, 13) := ⟨⟨by decide +kernel, by decide +kernel⟩, List.mem_of_getElem? (i := 765) (by decide +kernel), List.mem_of_getElem? (i := 991) (by decide +kernel), List.mem_of_getElem? (i := 992) (by decide +kernel)⟩
theorem lw_p40 : lw_okq (⟨"PurserLedgersModel", "noSail", "()I"⟩, 13) := ⟨⟨by decide +kernel, by decide +kernel⟩, List.mem_of_getElem? (i := 765) (by decide +kernel), List.mem_of_getElem? (i := 999) (by decide +kernel), List.mem_of_getElem? (i := 1000) (by decide +kernel)⟩
theorem lw_p41 : lw_okq (⟨"PurserLedgersModel", "doSail", "()I"⟩, 13) := ⟨⟨by decide +kernel, by decide +kernel⟩, List.mem_of_getElem? (i := 765) (by decide +kernel), List.mem_of_getElem? (i := 1003) (by decide +kernel), List.mem_of_getElem? (i := 1004) (by decide +kernel)⟩
theorem lw_p42 : lw_okq (⟨"PurserLedgersModel", "noPort", "()I"⟩, 13) := ⟨⟨by decide +kernel, by decide +kernel⟩, List.mem_of_getElem? (i := 765) (by decide +kernel), List.mem_of_getElem? (i := 1011) (by decide +kernel), List.mem_of_getElem? (i := 1012) (by decide +kernel)⟩
theorem lw_p43 : lw_okq (⟨"PurserLedgersModel", "doPort", "()I"⟩, 13) := ⟨⟨by decide +kernel, by decide +kernel⟩, List.mem_of_getElem? (i := 765) (by decide +kernel), List.mem_of_getElem? (i := 1015) (by decide +kernel), List.mem_of_getElem? (i := 1016) (by decide +kernel)⟩
theorem lw_p44 : lw_okq (⟨"PurserLedgersModel", "noDays", "(I)I"⟩, 13) := ⟨⟨by decide +kernel, by decide +kernel⟩, List.mem_of_getElem? (i := 765) (by decide +kernel), List.mem_of_getElem? (i := 1023) (by decide +kernel), List.mem_of_getElem? (i := 1024) (by decide +kernel)⟩
theorem lw_p45 : lw_okq (⟨"PurserLedgersModel", "doDays", "(I)I"⟩, 13) := ⟨⟨by decide +kernel, by decide +kernel⟩, List.mem_of_getElem? (i := 765) (by decide +kernel), List.mem_of_getElem? (i := 1027) (by decide +kernel), List.mem_of_getElem? (i := 1028) (by decide +kernel)⟩
theorem lw_p46 : lw_okq (⟨"PurserLedgersModel", "pay", "(II)V"⟩, 13) := ⟨⟨by decide +kernel, by decide +kernel⟩, List.mem_of_getElem? (i := 765) (by decide +kernel), List.mem_of_getElem? (i := 1035) (by decide +kernel), List.mem_of_getElem? (i := 1036) (by decide +kernel)⟩
theorem lw_p47 : lw_okq (⟨"PurserLedgersModel", "noPayOff", "()I"⟩, 13) := ⟨⟨by decide +kernel, by decide +kernel⟩, List.mem_of_getElem? (i := 765) (by decide +kernel), List.mem_of_getElem? (i := 1043) (by decide +kernel), List.mem_of_getElem? (i := 1044) (by decide +kernel)⟩
def lw_privs_3 : List (MethodName × Nat) := [(⟨"PurserLedgersModel", "isFined", "(II)Z"⟩, 13), (⟨"PurserLedgersModel", "partOf", "(III)I"⟩, 13), (⟨"PurserLedgersModel", "noLeave", "(I)I"⟩, 13), (⟨"PurserLedgersModel", "inPlace", "(I)I"⟩, 13), (⟨"PurserLedgersModel", "aboardOf", "(I)I"⟩, 13), (⟨"PurserLedgersModel", "doLeave", "(I)I"⟩, 13), (⟨"PurserLedgersModel", "noBack", "(II)I"⟩, 13), (⟨"PurserLedgersModel", "doBack", "(II)I"⟩, 13), (⟨"PurserLedgersModel", "noSail", "()I"⟩, 13), (⟨"PurserLedgersModel", "doSail", "()I"⟩, 13), (⟨"PurserLedgersModel", "noPort", "()I"⟩, 13), (⟨"PurserLedgersModel", "doPort", "()I"⟩, 13), (⟨"PurserLedgersModel", "noDays", "(I)I"⟩, 13), (⟨"PurserLedgersModel", "doDays", "(I)I"⟩, 13), (⟨"PurserLedgersModel", "pay", "(II)V"⟩, 13), (⟨"PurserLedgersModel", "noPayOff", "()I"⟩, 13)]
theorem lw_r3 : ∀ q ∈ lw_privs_3, lw_okq q := List.forall_mem_cons.mpr ⟨lw_p32, List.forall_mem_cons.mpr ⟨lw_p33, List.forall_mem_cons.mpr ⟨lw_p34, List.forall_mem_cons.mpr ⟨lw_p35, List.forall_mem_cons.mpr ⟨lw_p36, List.forall_mem_cons.mpr ⟨lw_p37, List.forall_mem_cons.mpr ⟨lw_p38, List.forall_mem_cons.mpr ⟨lw_p39, List.forall_mem_cons.mpr ⟨lw_p40, List.forall_mem_cons.mpr ⟨lw_p41, List.forall_mem_cons.mpr ⟨lw_p42, List.forall_mem_cons.mpr ⟨lw_p43, List.forall_mem_cons.mpr ⟨lw_p44, List.forall_mem_cons.mpr ⟨lw_p45, List.forall_mem_cons.mpr ⟨lw_p46, List.forall_mem_cons.mpr ⟨lw_p47, fun _ h => absurd h List.not_mem_nil⟩⟩⟩⟩⟩⟩⟩⟩⟩⟩⟩⟩⟩⟩⟩⟩
theorem lw_p48 : lw_okq (⟨"PurserLedgersModel", "doPayOff", "()I"⟩, 13) := ⟨⟨by decide +kernel, by decide +kernel⟩, List.mem_of_getElem? (i := 765) (by decide +kernel), List.mem_of_getElem? (i := 1047) (by decide +kernel), List.mem_of_getElem? (i := 1048) (by decide +kernel)⟩
theorem lw_p49 : lw_okq (⟨"PurserLedgersModel", "putAside", "()V"⟩, 13) := ⟨⟨by decide +kernel, by decide +kernel⟩, List.mem_of_getElem? (i := 765) (by decide +kernel), List.mem_of_getElem? (i := 1119) (by decide +kernel), List.mem_of_getElem? (i := 1120) (by decide +kernel)⟩
theorem lw_p50 : lw_okq (⟨"PurserLedgersModel", "doText", "()Z"⟩, 13) := ⟨⟨by decide +kernel, by decide +kernel⟩, List.mem_of_getElem? (i := 765) (by decide +kernel), List.mem_of_getElem? (i := 1123) (by decide +kernel), List.mem_of_getElem? (i := 1124) (by decide +kernel)⟩
theorem lw_p51 : lw_okq (⟨"PurserLedgersModel", "readOrder", "(I)I"⟩, 13) := ⟨⟨by decide +kernel, by decide +kernel⟩, List.mem_of_getElem? (i := 765) (by decide +kernel), List.mem_of_getElem? (i := 1127) (by decide +kernel), List.mem_of_getElem? (i := 1128) (by decide +kernel)⟩
theorem lw_p52 : lw_okq (⟨"PurserLedgersModel", "at", "(I)I"⟩, 13) := ⟨⟨by decide +kernel, by decide +kernel⟩, List.mem_of_getElem? (i := 765) (by decide +kernel), List.mem_of_getElem? (i := 1131) (by decide +kernel), List.mem_of_getElem? (i := 1132) (by decide +kernel)⟩
theorem lw_p53 : lw_okq (⟨"PurserLedgersModel", "noOrder", "()I"⟩, 13) := ⟨⟨by decide +kernel, by decide +kernel⟩, List.mem_of_getElem? (i := 765) (by decide +kernel), List.mem_of_getElem? (i := 1138) (by decide +kernel), List.mem_of_getElem? (i := 1139) (by decide +kernel)⟩
theorem lw_p54 : lw_okq (⟨"PurserLedgersModel", "doOrder", "()I"⟩, 13) := ⟨⟨by decide +kernel, by decide +kernel⟩, List.mem_of_getElem? (i := 765) (by decide +kernel), List.mem_of_getElem? (i := 1142) (by decide +kernel), List.mem_of_getElem? (i := 1143) (by decide +kernel)⟩
theorem lw_p55 : lw_okq (⟨"PurserLedgersModel", "putBack", "()V"⟩, 13) := ⟨⟨by decide +kernel, by decide +kernel⟩, List.mem_of_getElem? (i := 765) (by decide +kernel), List.mem_of_getElem? (i := 1146) (by decide +kernel), List.mem_of_getElem? (i := 1147) (by decide +kernel)⟩
def lw_privs_4 : List (MethodName × Nat) := [(⟨"PurserLedgersModel", "doPayOff", "()I"⟩, 13), (⟨"PurserLedgersModel", "putAside", "()V"⟩, 13), (⟨"PurserLedgersModel", "doText", "()Z"⟩, 13), (⟨"PurserLedgersModel", "readOrder", "(I)I"⟩, 13), (⟨"PurserLedgersModel", "at", "(I)I"⟩, 13), (⟨"PurserLedgersModel", "noOrder", "()I"⟩, 13), (⟨"PurserLedgersModel", "doOrder", "()I"⟩, 13), (⟨"PurserLedgersModel", "putBack", "()V"⟩, 13)]
theorem lw_r4 : ∀ q ∈ lw_privs_4, lw_okq q := List.forall_mem_cons.mpr ⟨lw_p48, List.forall_mem_cons.mpr ⟨lw_p49, List.forall_mem_cons.mpr ⟨lw_p50, List.forall_mem_cons.mpr ⟨lw_p51, List.forall_mem_cons.mpr ⟨lw_p52, List.forall_mem_cons.mpr ⟨lw_p53, List.forall_mem_cons.mpr ⟨lw_p54, List.forall_mem_cons.mpr ⟨lw_p55, fun _ h => absurd h List.not_mem_nil⟩⟩⟩⟩⟩⟩⟩⟩
def lw_privs : List (MethodName × Nat) := lw_privs_1 ++ (lw_privs_2 ++ (lw_privs_3 ++ (lw_privs_4)))
def lw_tbl : List Cond := k2_sels lw_privs ++ tables_1
theorem lw_privs_ok : ∀ q ∈ lw_privs, lw_okq q := by
  show ∀ q ∈ lw_privs_1 ++ (lw_privs_2 ++ (lw_privs_3 ++ (lw_privs_4))), lw_okq q
  exact List.forall_mem_append.mpr ⟨lw_r1, List.forall_mem_append.mpr ⟨lw_r2, List.forall_mem_append.mpr ⟨lw_r3, lw_r4⟩⟩⟩
/-- the streams that the claim lets the run draw from -/
abbrev lw_cs : List Choice := [Jvm.Choice.named "NaN.bits"]
theorem lw_bits : nanBits ∈ lw_cs := by first | decide | exact List.mem_cons_self | simp [lw_cs, nanBits]
-- ===== end of PART A; then your names; then what follows =====
def RX0 : String := "PurserLedgers$Books"
def TX0 : u_T := fun k => match k with
  | 0 => ("PurserLedgers$Books", "crew", "[LPurserLedgers$Sailor;", true)
  | 1 => ("PurserLedgers$Books", "chest", "[LPurserLedgers$Item;", true)
  | 2 => ("PurserLedgers$Books", "settings", "[I", true)
  | 3 => ("PurserLedgers$Books", "entries", "LPurserLedgers$Entries;", true)
  | 4 => ("PurserLedgers$Books", "totals", "LPurserLedgers$Totals;", true)
  | 5 => ("PurserLedgers$Books", "signed", "I", false)
  | 6 => ("PurserLedgers$Books", "voyage", "I", false)
  | 7 => ("PurserLedgers$Books", "voyageDays", "I", false)
  | 8 => ("PurserLedgers$Books", "ports", "I", false)
  | _ => ("PurserLedgers$Books", "atSea", "Z", false)
def tyX0 : Nat → FieldType := fun k => match k with
  | 0 => .array (.object "PurserLedgers$Sailor")
  | 1 => .array (.object "PurserLedgers$Item")
  | 2 => .array .int
  | 3 => .object "PurserLedgers$Entries"
  | 4 => .object "PurserLedgers$Totals"
  | 5 => .int
  | 6 => .int
  | 7 => .int
  | 8 => .int
  | _ => .boolean
abbrev wsX00 : List Cond := u_ws RX0 TX0 10
theorem nmX0 : ∀ a, a < 10 → ∀ b, b < 10 → a ≠ b → (TX0 a).2.1 ≠ (TX0 b).2.1 := by decide +kernel
theorem tyX0_ok : ∀ k, k < 10 → parseFieldDescriptor (TX0 k).2.2.1 = some (tyX0 k) := by decide +kernel
abbrev cX0_init : ByteArray := prog_2_method_1_code
def yX0_init : MethodName := ⟨RX0, "<init>", "()V"⟩
abbrev cX0_copyFrom : ByteArray := prog_2_method_2_code
def yX0_copyFrom : MethodName := ⟨RX0, "copyFrom", "(LPurserLedgers$Books;)V"⟩
abbrev cX0_findSailor : ByteArray := prog_2_method_3_code
def yX0_findSailor : MethodName := ⟨RX0, "findSailor", "(I)LPurserLedgers$Sailor;"⟩
abbrev cX0_findItem : ByteArray := prog_2_method_4_code
def yX0_findItem : MethodName := ⟨RX0, "findItem", "(I)LPurserLedgers$Item;"⟩
abbrev cX0_setting : ByteArray := prog_2_method_5_code
def yX0_setting : MethodName := ⟨RX0, "setting", "(I)I"⟩
abbrev cX0_signOn : ByteArray := prog_2_method_6_code
def yX0_signOn : MethodName := ⟨RX0, "signOn", "(II)I"⟩
abbrev cX0_buyForChest : ByteArray := prog_2_method_7_code
def yX0_buyForChest : MethodName := ⟨RX0, "buyForChest", "(III)I"⟩
abbrev cX0_sellFromChest : ByteArray := prog_2_method_8_code
def yX0_sellFromChest : MethodName := ⟨RX0, "sellFromChest", "(III)I"⟩
abbrev cX0_reasonNotToSell : ByteArray := prog_2_method_9_code
def yX0_reasonNotToSell : MethodName := ⟨RX0, "reasonNotToSell", "(III)I"⟩
abbrev cX0_reasonAgainst : ByteArray := prog_2_method_10_code
def yX0_reasonAgainst : MethodName := ⟨RX0, "reasonAgainst", "(LPurserLedgers$Sailor;LPurserLedgers$Item;I)I"⟩
abbrev cX0_couldBuy : ByteArray := prog_2_method_11_code
def yX0_couldBuy : MethodName := ⟨RX0, "couldBuy", "(II)I"⟩
abbrev cX0_advanceTo : ByteArray := prog_2_method_12_code
def yX0_advanceTo : MethodName := ⟨RX0, "advanceTo", "(II)I"⟩
abbrev cX0_fineOne : ByteArray := prog_2_method_13_code
def yX0_fineOne : MethodName := ⟨RX0, "fineOne", "(II)I"⟩
abbrev cX0_chargeFine : ByteArray := prog_2_method_14_code
def yX0_chargeFine : MethodName := ⟨RX0, "chargeFine", "(ILPurserLedgers$Sailor;I)V"⟩
abbrev cX0_fineAll : ByteArray := prog_2_method_15_code
def yX0_fineAll : MethodName := ⟨RX0, "fineAll", "(II)I"⟩
abbrev cX0_couldAllBeFined : ByteArray := prog_2_method_16_code
def yX0_couldAllBeFined : MethodName := ⟨RX0, "couldAllBeFined", "(III)Z"⟩
abbrev cX0_sizeOfWatch : ByteArray := prog_2_method_17_code
def yX0_sizeOfWatch : MethodName := ⟨RX0, "sizeOfWatch", "(I)I"⟩
abbrev cX0_letAshore : ByteArray := prog_2_method_18_code
def yX0_letAshore : MethodName := ⟨RX0, "letAshore", "(I)I"⟩
abbrev cX0_comeBack : ByteArray := prog_2_method_19_code
def yX0_comeBack : MethodName := ⟨RX0, "comeBack", "(II)I"⟩
abbrev cX0_putToSea : ByteArray := prog_2_method_20_code
def yX0_putToSea : MethodName := ⟨RX0, "putToSea", "()I"⟩
abbrev cX0_comeIntoPort : ByteArray := prog_2_method_21_code
def yX0_comeIntoPort : MethodName := ⟨RX0, "comeIntoPort", "()I"⟩
abbrev cX0_passDays : ByteArray := prog_2_method_22_code
def yX0_passDays : MethodName := ⟨RX0, "passDays", "(I)I"⟩
abbrev cX0_sendAway : ByteArray := prog_2_method_23_code
def yX0_sendAway : MethodName := ⟨RX0, "sendAway", "(I)I"⟩
abbrev cX0_payTo : ByteArray := prog_2_method_24_code
def yX0_payTo : MethodName := ⟨RX0, "payTo", "(ILPurserLedgers$Sailor;I)V"⟩
abbrev cX0_endVoyage : ByteArray := prog_2_method_25_code
def yX0_endVoyage : MethodName := ⟨RX0, "endVoyage", "()I"⟩
abbrev cX0_changeSetting : ByteArray := prog_2_method_26_code
def yX0_changeSetting : MethodName := ⟨RX0, "changeSetting", "(II)I"⟩
abbrev cX0_daysUntilClear : ByteArray := prog_2_method_27_code
def yX0_daysUntilClear : MethodName := ⟨RX0, "daysUntilClear", "(I)I"⟩
abbrev cX0_tellPayingOff : ByteArray := prog_2_method_28_code
def yX0_tellPayingOff : MethodName := ⟨RX0, "tellPayingOff", "(I)I"⟩
abbrev cX0_wouldBePaid : ByteArray := prog_2_method_29_code
def yX0_wouldBePaid : MethodName := ⟨RX0, "wouldBePaid", "()I"⟩
abbrev cX0_debtsTogether : ByteArray := prog_2_method_30_code
def yX0_debtsTogether : MethodName := ⟨RX0, "debtsTogether", "()I"⟩
abbrev cX0_setOfDebtors : ByteArray := prog_2_method_31_code
def yX0_setOfDebtors : MethodName := ⟨RX0, "setOfDebtors", "()I"⟩
abbrev cX0_setOf : ByteArray := prog_2_method_32_code
def yX0_setOf : MethodName := ⟨RX0, "setOf", "(I)I"⟩
abbrev cX0_sailorByBalance : ByteArray := prog_2_method_33_code
def yX0_sailorByBalance : MethodName := ⟨RX0, "sailorByBalance", "(I)I"⟩
abbrev cX0_poorerThan : ByteArray := prog_2_method_34_code
def yX0_poorerThan : MethodName := ⟨RX0, "poorerThan", "(II)I"⟩
abbrev cX0_chargedShare : ByteArray := prog_2_method_35_code
def yX0_chargedShare : MethodName := ⟨RX0, "chargedShare", "()I"⟩
abbrev cX0_tell : ByteArray := prog_2_method_36_code
def yX0_tell : MethodName := ⟨RX0, "tell", "(I)I"⟩
abbrev cX0_tellCoins : ByteArray := prog_2_method_37_code
def yX0_tellCoins : MethodName := ⟨RX0, "tellCoins", "(I)I"⟩
def RX1 : String := "PurserLedgers$Entries"
def TX1 : u_T := fun k => match k with
  | 0 => ("PurserLedgers$Entries", "sailors", "[I", true)
  | 1 => ("PurserLedgers$Entries", "kinds", "[I", true)
  | 2 => ("PurserLedgers$Entries", "coins", "[I", true)
  | _ => ("PurserLedgers$Entries", "kept", "I", false)
def tyX1 : Nat → FieldType := fun k => match k with
  | 0 => .array .int
  | 1 => .array .int
  | 2 => .array .int
  | _ => .int
abbrev wsX10 : List Cond := u_ws RX1 TX1 4
theorem nmX1 : ∀ a, a < 4 → ∀ b, b < 4 → a ≠ b → (TX1 a).2.1 ≠ (TX1 b).2.1 := by decide +kernel
theorem tyX1_ok : ∀ k, k < 4 → parseFieldDescriptor (TX1 k).2.2.1 = some (tyX1 k) := by decide +kernel
abbrev cX1_init : ByteArray := prog_3_method_1_code
def yX1_init : MethodName := ⟨RX1, "<init>", "()V"⟩
abbrev cX1_copyFrom : ByteArray := prog_3_method_2_code
def yX1_copyFrom : MethodName := ⟨RX1, "copyFrom", "(LPurserLedgers$Entries;)V"⟩
abbrev cX1_enter : ByteArray := prog_3_method_3_code
def yX1_enter : MethodName := ⟨RX1, "enter", "(III)V"⟩
abbrev cX1_putAhead : ByteArray := prog_3_method_4_code
def yX1_putAhead : MethodName := ⟨RX1, "putAhead", "([II)V"⟩
abbrev cX1_tell : ByteArray := prog_3_method_5_code
def yX1_tell : MethodName := ⟨RX1, "tell", "(II)I"⟩
abbrev cX1_numberAt : ByteArray := prog_3_method_6_code
def yX1_numberAt : MethodName := ⟨RX1, "numberAt", "([II)I"⟩
def RX2 : String := "PurserLedgers$History"
def TX2 : u_T := fun k => match k with
  | 0 => ("PurserLedgers$History", "states", "[LPurserLedgers$Books;", true)
  | _ => ("PurserLedgers$History", "kept", "I", false)
def tyX2 : Nat → FieldType := fun k => match k with
  | 0 => .array (.object "PurserLedgers$Books")
  | _ => .int
abbrev wsX20 : List Cond := u_ws RX2 TX2 2
theorem nmX2 : ∀ a, a < 2 → ∀ b, b < 2 → a ≠ b → (TX2 a).2.1 ≠ (TX2 b).2.1 := by decide +kernel
theorem tyX2_ok : ∀ k, k < 2 → parseFieldDescriptor (TX2 k).2.2.1 = some (tyX2 k) := by decide +kernel
abbrev cX2_init : ByteArray := prog_4_method_1_code
def yX2_init : MethodName := ⟨RX2, "<init>", "()V"⟩
abbrev cX2_record : ByteArray := prog_4_method_2_code
def yX2_record : MethodName := ⟨RX2, "record", "(LPurserLedgers$Books;)V"⟩
abbrev cX2_restoreInto : ByteArray := prog_4_method_3_code
def yX2_restoreInto : MethodName := ⟨RX2, "restoreInto", "(LPurserLedgers$Books;)I"⟩
def RX3 : String := "PurserLedgers$Item"
def TX3 : u_T := fun k => match k with
  | 0 => ("PurserLedgers$Item", "inStock", "I", false)
  | 1 => ("PurserLedgers$Item", "price", "I", false)
  | 2 => ("PurserLedgers$Item", "bought", "I", false)
  | 3 => ("PurserLedgers$Item", "sold", "I", false)
  | _ => ("PurserLedgers$Item", "charged", "I", false)
def tyX3 : Nat → FieldType := fun k => match k with
  | 0 => .int
  | 1 => .int
  | 2 => .int
  | 3 => .int
  | _ => .int
abbrev wsX30 : List Cond := u_ws RX3 TX3 5
theorem nmX3 : ∀ a, a < 5 → ∀ b, b < 5 → a ≠ b → (TX3 a).2.1 ≠ (TX3 b).2.1 := by decide +kernel
theorem tyX3_ok : ∀ k, k < 5 → parseFieldDescriptor (TX3 k).2.2.1 = some (tyX3 k) := by decide +kernel
abbrev cX3_init : ByteArray := prog_5_method_1_code
def yX3_init : MethodName := ⟨RX3, "<init>", "()V"⟩
abbrev cX3_copyFrom : ByteArray := prog_5_method_2_code
def yX3_copyFrom : MethodName := ⟨RX3, "copyFrom", "(LPurserLedgers$Item;)V"⟩
abbrev cX3_takeIn : ByteArray := prog_5_method_3_code
def yX3_takeIn : MethodName := ⟨RX3, "takeIn", "(II)V"⟩
abbrev cX3_giveOut : ByteArray := prog_5_method_4_code
def yX3_giveOut : MethodName := ⟨RX3, "giveOut", "(II)V"⟩
abbrev cX3_tell : ByteArray := prog_5_method_5_code
def yX3_tell : MethodName := ⟨RX3, "tell", "(I)I"⟩
def RX4 : String := "PurserLedgers$Order"
def TX4 : u_T := fun k => match k with
  | 0 => ("PurserLedgers$Order", "numbers", "[I", true)
  | 1 => ("PurserLedgers$Order", "letter", "I", false)
  | _ => ("PurserLedgers$Order", "place", "I", false)
def tyX4 : Nat → FieldType := fun k => match k with
  | 0 => .array .int
  | 1 => .int
  | _ => .int
abbrev wsX40 : List Cond := u_ws RX4 TX4 3
theorem nmX4 : ∀ a, a < 3 → ∀ b, b < 3 → a ≠ b → (TX4 a).2.1 ≠ (TX4 b).2.1 := by decide +kernel
theorem tyX4_ok : ∀ k, k < 3 → parseFieldDescriptor (TX4 k).2.2.1 = some (tyX4 k) := by decide +kernel
abbrev cX4_init : ByteArray := prog_6_method_1_code
def yX4_init : MethodName := ⟨RX4, "<init>", "()V"⟩
abbrev cX4_readFrom : ByteArray := prog_6_method_2_code
def yX4_readFrom : MethodName := ⟨RX4, "readFrom", "(LPurserLedgers$Text;I)Z"⟩
abbrev cX4_numbersOf : ByteArray := prog_6_method_3_code
def yX4_numbersOf : MethodName := ⟨RX4, "numbersOf", "(I)I"⟩
abbrev cX4_readSign : ByteArray := prog_6_method_4_code
def yX4_readSign : MethodName := ⟨RX4, "readSign", "(LPurserLedgers$Text;I)Z"⟩
abbrev cX4_readNumber : ByteArray := prog_6_method_5_code
def yX4_readNumber : MethodName := ⟨RX4, "readNumber", "(LPurserLedgers$Text;)I"⟩
abbrev cX4_number : ByteArray := prog_6_method_6_code
def yX4_number : MethodName := ⟨RX4, "number", "(I)I"⟩
abbrev cX4_carryOut : ByteArray := prog_6_method_7_code
def yX4_carryOut : MethodName := ⟨RX4, "carryOut", "(LPurserLedgers$Books;)I"⟩
def RX5 : String := "PurserLedgers$Rehearsal"
def TX5 : u_T := fun k => match k with
  | 0 => ("PurserLedgers$Rehearsal", "order", "LPurserLedgers$Order;", true)
  | 1 => ("PurserLedgers$Rehearsal", "done", "I", false)
  | 2 => ("PurserLedgers$Rehearsal", "position", "I", false)
  | 3 => ("PurserLedgers$Rehearsal", "reason", "I", false)
  | _ => ("PurserLedgers$Rehearsal", "cause", "I", false)
def tyX5 : Nat → FieldType := fun k => match k with
  | 0 => .object "PurserLedgers$Order"
  | 1 => .int
  | 2 => .int
  | 3 => .int
  | _ => .int
abbrev wsX50 : List Cond := u_ws RX5 TX5 5
theorem nmX5 : ∀ a, a < 5 → ∀ b, b < 5 → a ≠ b → (TX5 a).2.1 ≠ (TX5 b).2.1 := by decide +kernel
theorem tyX5_ok : ∀ k, k < 5 → parseFieldDescriptor (TX5 k).2.2.1 = some (tyX5 k) := by decide +kernel
abbrev cX5_init : ByteArray := prog_7_method_1_code
def yX5_init : MethodName := ⟨RX5, "<init>", "()V"⟩
abbrev cX5_runThrough : ByteArray := prog_7_method_2_code
def yX5_runThrough : MethodName := ⟨RX5, "runThrough", "(LPurserLedgers$Text;LPurserLedgers$Books;)V"⟩
abbrev cX5_isFaulty : ByteArray := prog_7_method_3_code
def yX5_isFaulty : MethodName := ⟨RX5, "isFaulty", "()Z"⟩
abbrev cX5_tellFault : ByteArray := prog_7_method_4_code
def yX5_tellFault : MethodName := ⟨RX5, "tellFault", "(I)I"⟩
def RX6 : String := "PurserLedgers$Sailor"
def TX6 : u_T := fun k => match k with
  | 0 => ("PurserLedgers$Sailor", "rank", "I", false)
  | 1 => ("PurserLedgers$Sailor", "watch", "I", false)
  | 2 => ("PurserLedgers$Sailor", "whereabouts", "I", false)
  | 3 => ("PurserLedgers$Sailor", "seaDays", "I", false)
  | 4 => ("PurserLedgers$Sailor", "portDays", "I", false)
  | 5 => ("PurserLedgers$Sailor", "bought", "I", false)
  | 6 => ("PurserLedgers$Sailor", "fines", "I", false)
  | 7 => ("PurserLedgers$Sailor", "advances", "I", false)
  | 8 => ("PurserLedgers$Sailor", "debt", "I", false)
  | _ => ("PurserLedgers$Sailor", "paid", "I", false)
def tyX6 : Nat → FieldType := fun k => match k with
  | 0 => .int
  | 1 => .int
  | 2 => .int
  | 3 => .int
  | 4 => .int
  | 5 => .int
  | 6 => .int
  | 7 => .int
  | 8 => .int
  | _ => .int
abbrev wsX60 : List Cond := u_ws RX6 TX6 10
theorem nmX6 : ∀ a, a < 10 → ∀ b, b < 10 → a ≠ b → (TX6 a).2.1 ≠ (TX6 b).2.1 := by decide +kernel
theorem tyX6_ok : ∀ k, k < 10 → parseFieldDescriptor (TX6 k).2.2.1 = some (tyX6 k) := by decide +kernel
abbrev cX6_init : ByteArray := prog_8_method_1_code
def yX6_init : MethodName := ⟨RX6, "<init>", "()V"⟩
abbrev cX6_copyFrom : ByteArray := prog_8_method_2_code
def yX6_copyFrom : MethodName := ⟨RX6, "copyFrom", "(LPurserLedgers$Sailor;)V"⟩
abbrev cX6_comeAboard : ByteArray := prog_8_method_3_code
def yX6_comeAboard : MethodName := ⟨RX6, "comeAboard", "(II)V"⟩
abbrev cX6_beginVoyage : ByteArray := prog_8_method_4_code
def yX6_beginVoyage : MethodName := ⟨RX6, "beginVoyage", "(I)V"⟩
abbrev cX6_goAway : ByteArray := prog_8_method_5_code
def yX6_goAway : MethodName := ⟨RX6, "goAway", "()V"⟩
abbrev cX6_isGone : ByteArray := prog_8_method_6_code
def yX6_isGone : MethodName := ⟨RX6, "isGone", "()Z"⟩
abbrev cX6_isOfWatch : ByteArray := prog_8_method_7_code
def yX6_isOfWatch : MethodName := ⟨RX6, "isOfWatch", "(I)Z"⟩
abbrev cX6_passDays : ByteArray := prog_8_method_8_code
def yX6_passDays : MethodName := ⟨RX6, "passDays", "(IZ)V"⟩
abbrev cX6_earned : ByteArray := prog_8_method_9_code
def yX6_earned : MethodName := ⟨RX6, "earned", "()I"⟩
abbrev cX6_earnedAfter : ByteArray := prog_8_method_10_code
def yX6_earnedAfter : MethodName := ⟨RX6, "earnedAfter", "(IZ)I"⟩
abbrev cX6_wages : ByteArray := prog_8_method_11_code
def yX6_wages : MethodName := ⟨RX6, "wages", "(II)I"⟩
abbrev cX6_charged : ByteArray := prog_8_method_12_code
def yX6_charged : MethodName := ⟨RX6, "charged", "()I"⟩
abbrev cX6_balance : ByteArray := prog_8_method_13_code
def yX6_balance : MethodName := ⟨RX6, "balance", "()I"⟩
abbrev cX6_couldBeFined : ByteArray := prog_8_method_14_code
def yX6_couldBeFined : MethodName := ⟨RX6, "couldBeFined", "(I)Z"⟩
abbrev cX6_tell : ByteArray := prog_8_method_15_code
def yX6_tell : MethodName := ⟨RX6, "tell", "(I)I"⟩
def RX7 : String := "PurserLedgers$Text"
def TX7 : u_T := fun k => match k with
  | 0 => ("PurserLedgers$Text", "characters", "[I", true)
  | _ => ("PurserLedgers$Text", "length", "I", false)
def tyX7 : Nat → FieldType := fun k => match k with
  | 0 => .array .int
  | _ => .int
abbrev wsX70 : List Cond := u_ws RX7 TX7 2
theorem nmX7 : ∀ a, a < 2 → ∀ b, b < 2 → a ≠ b → (TX7 a).2.1 ≠ (TX7 b).2.1 := by decide +kernel
theorem tyX7_ok : ∀ k, k < 2 → parseFieldDescriptor (TX7 k).2.2.1 = some (tyX7 k) := by decide +kernel
abbrev cX7_init : ByteArray := prog_9_method_1_code
def yX7_init : MethodName := ⟨RX7, "<init>", "()V"⟩
abbrev cX7_append : ByteArray := prog_9_method_2_code
def yX7_append : MethodName := ⟨RX7, "append", "(I)I"⟩
abbrev cX7_empty : ByteArray := prog_9_method_3_code
def yX7_empty : MethodName := ⟨RX7, "empty", "()I"⟩
abbrev cX7_at : ByteArray := prog_9_method_4_code
def yX7_at : MethodName := ⟨RX7, "at", "(I)I"⟩
def RX8 : String := "PurserLedgers$Totals"
def TX8 : u_T := fun k => match k with
  | 0 => ("PurserLedgers$Totals", "cash", "I", false)
  | 1 => ("PurserLedgers$Totals", "drawn", "I", false)
  | 2 => ("PurserLedgers$Totals", "spent", "I", false)
  | 3 => ("PurserLedgers$Totals", "advanced", "I", false)
  | 4 => ("PurserLedgers$Totals", "paid", "I", false)
  | 5 => ("PurserLedgers$Totals", "charged", "I", false)
  | 6 => ("PurserLedgers$Totals", "fines", "I", false)
  | _ => ("PurserLedgers$Totals", "forfeit", "I", false)
def tyX8 : Nat → FieldType := fun k => match k with
  | 0 => .int
  | 1 => .int
  | 2 => .int
  | 3 => .int
  | 4 => .int
  | 5 => .int
  | 6 => .int
  | _ => .int
abbrev wsX80 : List Cond := u_ws RX8 TX8 8
theorem nmX8 : ∀ a, a < 8 → ∀ b, b < 8 → a ≠ b → (TX8 a).2.1 ≠ (TX8 b).2.1 := by decide +kernel
theorem tyX8_ok : ∀ k, k < 8 → parseFieldDescriptor (TX8 k).2.2.1 = some (tyX8 k) := by decide +kernel
abbrev cX8_init : ByteArray := prog_10_method_1_code
def yX8_init : MethodName := ⟨RX8, "<init>", "()V"⟩
abbrev cX8_copyFrom : ByteArray := prog_10_method_2_code
def yX8_copyFrom : MethodName := ⟨RX8, "copyFrom", "(LPurserLedgers$Totals;)V"⟩
abbrev cX8_missingFor : ByteArray := prog_10_method_3_code
def yX8_missingFor : MethodName := ⟨RX8, "missingFor", "(I)I"⟩
abbrev cX8_takeCash : ByteArray := prog_10_method_4_code
def yX8_takeCash : MethodName := ⟨RX8, "takeCash", "(I)V"⟩
def RX9 : String := "PurserLedgers"
def TX9 : u_T := fun k => match k with
  | 0 => ("PurserLedgers", "now", "LPurserLedgers$Books;", true)
  | 1 => ("PurserLedgers", "trial", "LPurserLedgers$Books;", true)
  | 2 => ("PurserLedgers", "history", "LPurserLedgers$History;", true)
  | 3 => ("PurserLedgers", "text", "LPurserLedgers$Text;", true)
  | _ => ("PurserLedgers", "rehearsal", "LPurserLedgers$Rehearsal;", true)
def tyX9 : Nat → FieldType := fun k => match k with
  | 0 => .object "PurserLedgers$Books"
  | 1 => .object "PurserLedgers$Books"
  | 2 => .object "PurserLedgers$History"
  | 3 => .object "PurserLedgers$Text"
  | _ => .object "PurserLedgers$Rehearsal"
abbrev wsX90 : List Cond := u_ws RX9 TX9 5
theorem nmX9 : ∀ a, a < 5 → ∀ b, b < 5 → a ≠ b → (TX9 a).2.1 ≠ (TX9 b).2.1 := by decide +kernel
theorem tyX9_ok : ∀ k, k < 5 → parseFieldDescriptor (TX9 k).2.2.1 = some (tyX9 k) := by decide +kernel
abbrev cX9_init : ByteArray := prog_1_method_1_code
def yX9_init : MethodName := ⟨RX9, "<init>", "()V"⟩
abbrev cX9_sign : ByteArray := prog_1_method_2_code
def yX9_sign : MethodName := ⟨RX9, "sign", "(II)I"⟩
abbrev cX9_stock : ByteArray := prog_1_method_3_code
def yX9_stock : MethodName := ⟨RX9, "stock", "(III)I"⟩
abbrev cX9_sell : ByteArray := prog_1_method_4_code
def yX9_sell : MethodName := ⟨RX9, "sell", "(III)I"⟩
abbrev cX9_advance : ByteArray := prog_1_method_5_code
def yX9_advance : MethodName := ⟨RX9, "advance", "(II)I"⟩
abbrev cX9_fine : ByteArray := prog_1_method_6_code
def yX9_fine : MethodName := ⟨RX9, "fine", "(II)I"⟩
abbrev cX9_fineWatch : ByteArray := prog_1_method_7_code
def yX9_fineWatch : MethodName := ⟨RX9, "fineWatch", "(II)I"⟩
abbrev cX9_leave : ByteArray := prog_1_method_8_code
def yX9_leave : MethodName := ⟨RX9, "leave", "(I)I"⟩
abbrev cX9_back : ByteArray := prog_1_method_9_code
def yX9_back : MethodName := ⟨RX9, "back", "(II)I"⟩
abbrev cX9_sail : ByteArray := prog_1_method_10_code
def yX9_sail : MethodName := ⟨RX9, "sail", "()I"⟩
abbrev cX9_port : ByteArray := prog_1_method_11_code
def yX9_port : MethodName := ⟨RX9, "port", "()I"⟩
abbrev cX9_days : ByteArray := prog_1_method_12_code
def yX9_days : MethodName := ⟨RX9, "days", "(I)I"⟩
abbrev cX9_dismiss : ByteArray := prog_1_method_13_code
def yX9_dismiss : MethodName := ⟨RX9, "dismiss", "(I)I"⟩
abbrev cX9_payOff : ByteArray := prog_1_method_14_code
def yX9_payOff : MethodName := ⟨RX9, "payOff", "()I"⟩
abbrev cX9_set : ByteArray := prog_1_method_15_code
def yX9_set : MethodName := ⟨RX9, "set", "(II)I"⟩
abbrev cX9_sailor : ByteArray := prog_1_method_16_code
def yX9_sailor : MethodName := ⟨RX9, "sailor", "(II)I"⟩
abbrev cX9_item : ByteArray := prog_1_method_17_code
def yX9_item : MethodName := ⟨RX9, "item", "(II)I"⟩
abbrev cX9_book : ByteArray := prog_1_method_18_code
def yX9_book : MethodName := ⟨RX9, "book", "(II)I"⟩
abbrev cX9_why : ByteArray := prog_1_method_19_code
def yX9_why : MethodName := ⟨RX9, "why", "(III)I"⟩
abbrev cX9_most : ByteArray := prog_1_method_20_code
def yX9_most : MethodName := ⟨RX9, "most", "(II)I"⟩
abbrev cX9_clearIn : ByteArray := prog_1_method_21_code
def yX9_clearIn : MethodName := ⟨RX9, "clearIn", "(I)I"⟩
abbrev cX9_ifPaidOff : ByteArray := prog_1_method_22_code
def yX9_ifPaidOff : MethodName := ⟨RX9, "ifPaidOff", "(I)I"⟩
abbrev cX9_poorest : ByteArray := prog_1_method_23_code
def yX9_poorest : MethodName := ⟨RX9, "poorest", "(I)I"⟩
abbrev cX9_share : ByteArray := prog_1_method_24_code
def yX9_share : MethodName := ⟨RX9, "share", "()I"⟩
abbrev cX9_count : ByteArray := prog_1_method_25_code
def yX9_count : MethodName := ⟨RX9, "count", "(I)I"⟩
abbrev cX9_undo : ByteArray := prog_1_method_26_code
def yX9_undo : MethodName := ⟨RX9, "undo", "()I"⟩
abbrev cX9_type : ByteArray := prog_1_method_27_code
def yX9_type : MethodName := ⟨RX9, "type", "(I)I"⟩
abbrev cX9_clearText : ByteArray := prog_1_method_28_code
def yX9_clearText : MethodName := ⟨RX9, "clearText", "()I"⟩
abbrev cX9_fault : ByteArray := prog_1_method_29_code
def yX9_fault : MethodName := ⟨RX9, "fault", "(I)I"⟩
abbrev cX9_play : ByteArray := prog_1_method_30_code
def yX9_play : MethodName := ⟨RX9, "play", "()I"⟩
abbrev cX9_newTrial : ByteArray := prog_1_method_31_code
def yX9_newTrial : MethodName := ⟨RX9, "newTrial", "()LPurserLedgers$Books;"⟩
abbrev cX9_settleTrial : ByteArray := prog_1_method_32_code
def yX9_settleTrial : MethodName := ⟨RX9, "settleTrial", "(I)I"⟩
abbrev cX9_within : ByteArray := prog_1_method_33_code
def yX9_within : MethodName := ⟨RX9, "within", "(III)Z"⟩
abbrev cX9_copyNumbers : ByteArray := prog_1_method_34_code
def yX9_copyNumbers : MethodName := ⟨RX9, "copyNumbers", "([I[I)V"⟩
abbrev cX9_bitsOf : ByteArray := prog_1_method_35_code
def yX9_bitsOf : MethodName := ⟨RX9, "bitsOf", "(F)I"⟩
def RX10 : String := "PurserLedgersModel"
def TX10 : u_T := fun k => match k with
  | 0 => ("PurserLedgersModel", "z", "[I", true)
  | 1 => ("PurserLedgersModel", "aside", "[I", true)
  | 2 => ("PurserLedgersModel", "before", "[I", true)
  | 3 => ("PurserLedgersModel", "states", "I", false)
  | 4 => ("PurserLedgersModel", "text", "[I", true)
  | 5 => ("PurserLedgersModel", "length", "I", false)
  | 6 => ("PurserLedgersModel", "letter", "I", false)
  | 7 => ("PurserLedgersModel", "number", "[I", true)
  | 8 => ("PurserLedgersModel", "broken", "I", false)
  | 9 => ("PurserLedgersModel", "position", "I", false)
  | 10 => ("PurserLedgersModel", "reason", "I", false)
  | 11 => ("PurserLedgersModel", "cause", "I", false)
  | _ => ("PurserLedgersModel", "orders", "I", false)
def tyX10 : Nat → FieldType := fun k => match k with
  | 0 => .array .int
  | 1 => .array .int
  | 2 => .array .int
  | 3 => .int
  | 4 => .array .int
  | 5 => .int
  | 6 => .int
  | 7 => .array .int
  | 8 => .int
  | 9 => .int
  | 10 => .int
  | 11 => .int
  | _ => .int
abbrev wsX100 : List Cond := u_ws RX10 TX10 13
theorem nmX10 : ∀ a, a < 13 → ∀ b, b < 13 → a ≠ b → (TX10 a).2.1 ≠ (TX10 b).2.1 := by decide +kernel
theorem tyX10_ok : ∀ k, k < 13 → parseFieldDescriptor (TX10 k).2.2.1 = some (tyX10 k) := by decide +kernel
abbrev cX10_init : ByteArray := prog_12_method_1_code
def yX10_init : MethodName := ⟨RX10, "<init>", "()V"⟩
abbrev cX10_in : ByteArray := prog_12_method_3_code
def yX10_in : MethodName := ⟨RX10, "in", "(III)Z"⟩
abbrev cX10_of : ByteArray := prog_12_method_4_code
def yX10_of : MethodName := ⟨RX10, "of", "(II)I"⟩
abbrev cX10_put : ByteArray := prog_12_method_5_code
def yX10_put : MethodName := ⟨RX10, "put", "(III)V"⟩
abbrev cX10_ofItem : ByteArray := prog_12_method_6_code
def yX10_ofItem : MethodName := ⟨RX10, "ofItem", "(II)I"⟩
abbrev cX10_isSailor : ByteArray := prog_12_method_7_code
def yX10_isSailor : MethodName := ⟨RX10, "isSailor", "(I)Z"⟩
abbrev cX10_isItem : ByteArray := prog_12_method_8_code
def yX10_isItem : MethodName := ⟨RX10, "isItem", "(I)Z"⟩
abbrev cX10_isGone : ByteArray := prog_12_method_9_code
def yX10_isGone : MethodName := ⟨RX10, "isGone", "(I)Z"⟩
abbrev cX10_isAtSea : ByteArray := prog_12_method_10_code
def yX10_isAtSea : MethodName := ⟨RX10, "isAtSea", "()Z"⟩
abbrev cX10_record : ByteArray := prog_12_method_11_code
def yX10_record : MethodName := ⟨RX10, "record", "([I)V"⟩
abbrev cX10_putAside : ByteArray := prog_12_method_12_code
def yX10_putAside : MethodName := ⟨RX10, "putAside", "()V"⟩
abbrev cX10_putBack : ByteArray := prog_12_method_13_code
def yX10_putBack : MethodName := ⟨RX10, "putBack", "()V"⟩
abbrev cX10_undo : ByteArray := prog_12_method_14_code
def yX10_undo : MethodName := ⟨RX10, "undo", "()I"⟩
abbrev cX10_wages : ByteArray := prog_12_method_15_code
def yX10_wages : MethodName := ⟨RX10, "wages", "(III)I"⟩
abbrev cX10_earned : ByteArray := prog_12_method_16_code
def yX10_earned : MethodName := ⟨RX10, "earned", "(I)I"⟩
abbrev cX10_charged : ByteArray := prog_12_method_17_code
def yX10_charged : MethodName := ⟨RX10, "charged", "(I)I"⟩
abbrev cX10_balance : ByteArray := prog_12_method_18_code
def yX10_balance : MethodName := ⟨RX10, "balance", "(I)I"⟩
abbrev cX10_spend : ByteArray := prog_12_method_19_code
def yX10_spend : MethodName := ⟨RX10, "spend", "(I)V"⟩
abbrev cX10_write : ByteArray := prog_12_method_20_code
def yX10_write : MethodName := ⟨RX10, "write", "(III)V"⟩
abbrev cX10_charge : ByteArray := prog_12_method_21_code
def yX10_charge : MethodName := ⟨RX10, "charge", "(III)V"⟩
abbrev cX10_pay : ByteArray := prog_12_method_22_code
def yX10_pay : MethodName := ⟨RX10, "pay", "(II)V"⟩
abbrev cX10_clear : ByteArray := prog_12_method_23_code
def yX10_clear : MethodName := ⟨RX10, "clear", "(I)V"⟩
abbrev cX10_noSign : ByteArray := prog_12_method_24_code
def yX10_noSign : MethodName := ⟨RX10, "noSign", "(II)I"⟩
abbrev cX10_doSign : ByteArray := prog_12_method_25_code
def yX10_doSign : MethodName := ⟨RX10, "doSign", "(II)I"⟩
abbrev cX10_sign : ByteArray := prog_12_method_26_code
def yX10_sign : MethodName := ⟨RX10, "sign", "(II)I"⟩
abbrev cX10_noStock : ByteArray := prog_12_method_27_code
def yX10_noStock : MethodName := ⟨RX10, "noStock", "(III)I"⟩
abbrev cX10_doStock : ByteArray := prog_12_method_28_code
def yX10_doStock : MethodName := ⟨RX10, "doStock", "(III)I"⟩
abbrev cX10_stock : ByteArray := prog_12_method_29_code
def yX10_stock : MethodName := ⟨RX10, "stock", "(III)I"⟩
abbrev cX10_whyNot : ByteArray := prog_12_method_30_code
def yX10_whyNot : MethodName := ⟨RX10, "whyNot", "(III)I"⟩
abbrev cX10_noSell : ByteArray := prog_12_method_31_code
def yX10_noSell : MethodName := ⟨RX10, "noSell", "(III)I"⟩
abbrev cX10_doSell : ByteArray := prog_12_method_32_code
def yX10_doSell : MethodName := ⟨RX10, "doSell", "(III)I"⟩
abbrev cX10_sell : ByteArray := prog_12_method_33_code
def yX10_sell : MethodName := ⟨RX10, "sell", "(III)I"⟩
abbrev cX10_noAdvance : ByteArray := prog_12_method_34_code
def yX10_noAdvance : MethodName := ⟨RX10, "noAdvance", "(II)I"⟩
abbrev cX10_doAdvance : ByteArray := prog_12_method_35_code
def yX10_doAdvance : MethodName := ⟨RX10, "doAdvance", "(II)I"⟩
abbrev cX10_advance : ByteArray := prog_12_method_36_code
def yX10_advance : MethodName := ⟨RX10, "advance", "(II)I"⟩
abbrev cX10_noFine : ByteArray := prog_12_method_37_code
def yX10_noFine : MethodName := ⟨RX10, "noFine", "(II)I"⟩
abbrev cX10_doFine : ByteArray := prog_12_method_38_code
def yX10_doFine : MethodName := ⟨RX10, "doFine", "(II)I"⟩
abbrev cX10_fine : ByteArray := prog_12_method_39_code
def yX10_fine : MethodName := ⟨RX10, "fine", "(II)I"⟩
abbrev cX10_ofWatch : ByteArray := prog_12_method_40_code
def yX10_ofWatch : MethodName := ⟨RX10, "ofWatch", "(II)I"⟩
abbrev cX10_partOf : ByteArray := prog_12_method_41_code
def yX10_partOf : MethodName := ⟨RX10, "partOf", "(III)I"⟩
abbrev cX10_isFined : ByteArray := prog_12_method_42_code
def yX10_isFined : MethodName := ⟨RX10, "isFined", "(II)Z"⟩
abbrev cX10_fineWatch : ByteArray := prog_12_method_43_code
def yX10_fineWatch : MethodName := ⟨RX10, "fineWatch", "(II)I"⟩
abbrev cX10_inPlace : ByteArray := prog_12_method_44_code
def yX10_inPlace : MethodName := ⟨RX10, "inPlace", "(I)I"⟩
abbrev cX10_aboardOf : ByteArray := prog_12_method_45_code
def yX10_aboardOf : MethodName := ⟨RX10, "aboardOf", "(I)I"⟩
abbrev cX10_noLeave : ByteArray := prog_12_method_46_code
def yX10_noLeave : MethodName := ⟨RX10, "noLeave", "(I)I"⟩
abbrev cX10_doLeave : ByteArray := prog_12_method_47_code
def yX10_doLeave : MethodName := ⟨RX10, "doLeave", "(I)I"⟩
abbrev cX10_leave : ByteArray := prog_12_method_48_code
def yX10_leave : MethodName := ⟨RX10, "leave", "(I)I"⟩
abbrev cX10_noBack : ByteArray := prog_12_method_49_code
def yX10_noBack : MethodName := ⟨RX10, "noBack", "(II)I"⟩
abbrev cX10_doBack : ByteArray := prog_12_method_50_code
def yX10_doBack : MethodName := ⟨RX10, "doBack", "(II)I"⟩
abbrev cX10_back : ByteArray := prog_12_method_51_code
def yX10_back : MethodName := ⟨RX10, "back", "(II)I"⟩
abbrev cX10_noSail : ByteArray := prog_12_method_52_code
def yX10_noSail : MethodName := ⟨RX10, "noSail", "()I"⟩
abbrev cX10_doSail : ByteArray := prog_12_method_53_code
def yX10_doSail : MethodName := ⟨RX10, "doSail", "()I"⟩
abbrev cX10_sail : ByteArray := prog_12_method_54_code
def yX10_sail : MethodName := ⟨RX10, "sail", "()I"⟩
abbrev cX10_noPort : ByteArray := prog_12_method_55_code
def yX10_noPort : MethodName := ⟨RX10, "noPort", "()I"⟩
abbrev cX10_doPort : ByteArray := prog_12_method_56_code
def yX10_doPort : MethodName := ⟨RX10, "doPort", "()I"⟩
abbrev cX10_port : ByteArray := prog_12_method_57_code
def yX10_port : MethodName := ⟨RX10, "port", "()I"⟩
abbrev cX10_noDays : ByteArray := prog_12_method_58_code
def yX10_noDays : MethodName := ⟨RX10, "noDays", "(I)I"⟩
abbrev cX10_doDays : ByteArray := prog_12_method_59_code
def yX10_doDays : MethodName := ⟨RX10, "doDays", "(I)I"⟩
abbrev cX10_days : ByteArray := prog_12_method_60_code
def yX10_days : MethodName := ⟨RX10, "days", "(I)I"⟩
abbrev cX10_dismiss : ByteArray := prog_12_method_61_code
def yX10_dismiss : MethodName := ⟨RX10, "dismiss", "(I)I"⟩
abbrev cX10_noPayOff : ByteArray := prog_12_method_62_code
def yX10_noPayOff : MethodName := ⟨RX10, "noPayOff", "()I"⟩
abbrev cX10_doPayOff : ByteArray := prog_12_method_63_code
def yX10_doPayOff : MethodName := ⟨RX10, "doPayOff", "()I"⟩
abbrev cX10_payOff : ByteArray := prog_12_method_64_code
def yX10_payOff : MethodName := ⟨RX10, "payOff", "()I"⟩
abbrev cX10_set : ByteArray := prog_12_method_65_code
def yX10_set : MethodName := ⟨RX10, "set", "(II)I"⟩
abbrev cX10_sailor : ByteArray := prog_12_method_66_code
def yX10_sailor : MethodName := ⟨RX10, "sailor", "(II)I"⟩
abbrev cX10_item : ByteArray := prog_12_method_67_code
def yX10_item : MethodName := ⟨RX10, "item", "(II)I"⟩
abbrev cX10_book : ByteArray := prog_12_method_68_code
def yX10_book : MethodName := ⟨RX10, "book", "(II)I"⟩
abbrev cX10_why : ByteArray := prog_12_method_69_code
def yX10_why : MethodName := ⟨RX10, "why", "(III)I"⟩
abbrev cX10_most : ByteArray := prog_12_method_70_code
def yX10_most : MethodName := ⟨RX10, "most", "(II)I"⟩
abbrev cX10_clearIn : ByteArray := prog_12_method_71_code
def yX10_clearIn : MethodName := ⟨RX10, "clearIn", "(I)I"⟩
abbrev cX10_ifPaidOff : ByteArray := prog_12_method_72_code
def yX10_ifPaidOff : MethodName := ⟨RX10, "ifPaidOff", "(I)I"⟩
abbrev cX10_poorest : ByteArray := prog_12_method_73_code
def yX10_poorest : MethodName := ⟨RX10, "poorest", "(I)I"⟩
abbrev cX10_share : ByteArray := prog_12_method_74_code
def yX10_share : MethodName := ⟨RX10, "share", "()I"⟩
abbrev cX10_count : ByteArray := prog_12_method_75_code
def yX10_count : MethodName := ⟨RX10, "count", "(I)I"⟩
abbrev cX10_type : ByteArray := prog_12_method_76_code
def yX10_type : MethodName := ⟨RX10, "type", "(I)I"⟩
abbrev cX10_clearText : ByteArray := prog_12_method_77_code
def yX10_clearText : MethodName := ⟨RX10, "clearText", "()I"⟩
abbrev cX10_at : ByteArray := prog_12_method_78_code
def yX10_at : MethodName := ⟨RX10, "at", "(I)I"⟩
abbrev cX10_numbers : ByteArray := prog_12_method_79_code
def yX10_numbers : MethodName := ⟨RX10, "numbers", "(I)I"⟩
abbrev cX10_readOrder : ByteArray := prog_12_method_80_code
def yX10_readOrder : MethodName := ⟨RX10, "readOrder", "(I)I"⟩
abbrev cX10_noOrder : ByteArray := prog_12_method_81_code
def yX10_noOrder : MethodName := ⟨RX10, "noOrder", "()I"⟩
abbrev cX10_doOrder : ByteArray := prog_12_method_82_code
def yX10_doOrder : MethodName := ⟨RX10, "doOrder", "()I"⟩
abbrev cX10_doText : ByteArray := prog_12_method_83_code
def yX10_doText : MethodName := ⟨RX10, "doText", "()Z"⟩
abbrev cX10_fault : ByteArray := prog_12_method_84_code
def yX10_fault : MethodName := ⟨RX10, "fault", "(I)I"⟩
abbrev cX10_play : ByteArray := prog_12_method_85_code
def yX10_play : MethodName := ⟨RX10, "play", "()I"⟩
def RJxf58ca : String := "java/lang/Float"
def TJxf58ca : u_T := fun k => match k with
  | _ => ("", "", "", false)
def tyJxf58ca : Nat → FieldType := fun k => match k with
  | _ => .int
theorem nmJxf58ca : ∀ a, a < 0 → ∀ b, b < 0 → a ≠ b → (TJxf58ca a).2.1 ≠ (TJxf58ca b).2.1 := by decide +kernel
theorem tyJxf58ca_ok : ∀ k, k < 0 → parseFieldDescriptor (TJxf58ca k).2.2.1 = some (tyJxf58ca k) := by decide +kernel
abbrev cJxf58ca_isNaN_12338 : ByteArray := prog_13_method_6_code
def yJxf58ca_isNaN_12338 : MethodName := ⟨RJxf58ca, "isNaN", "(F)Z"⟩
abbrev cJxf58ca_floatToIntBits_5c35a : ByteArray := prog_13_method_24_code
def yJxf58ca_floatToIntBits_5c35a : MethodName := ⟨RJxf58ca, "floatToIntBits", "(F)I"⟩
def RJ9 : String := "java/lang/Math"
def TJ9 : u_T := fun k => match k with
  | _ => ("", "", "", false)
def tyJ9 : Nat → FieldType := fun k => match k with
  | _ => .int
theorem nmJ9 : ∀ a, a < 0 → ∀ b, b < 0 → a ≠ b → (TJ9 a).2.1 ≠ (TJ9 b).2.1 := by decide +kernel
theorem tyJ9_ok : ∀ k, k < 0 → parseFieldDescriptor (TJ9 k).2.2.1 = some (tyJ9 k) := by decide +kernel
abbrev cJ9_max_7cf53 : ByteArray := prog_14_method_65_code
def yJ9_max_7cf53 : MethodName := ⟨RJ9, "max", "(II)I"⟩
abbrev cJ9_min_7cf53 : ByteArray := prog_14_method_69_code
def yJ9_min_7cf53 : MethodName := ⟨RJ9, "min", "(II)I"⟩
def RL : String := "PurserLedgersLaw"
abbrev cL_law : ByteArray := code
def yL_law : MethodName := ⟨RL, "law", "([I)Z"⟩
abbrev vwCl : List vw_C := [(RX0, TX0, 10), (RX1, TX1, 4), (RX2, TX2, 2), (RX3, TX3, 5), (RX4, TX4, 3), (RX5, TX5, 5), (RX6, TX6, 10), (RX7, TX7, 2), (RX8, TX8, 8), (RX9, TX9, 5), (RX10, TX10, 13)]
def wsL_law_r1 : List Cond := [Cond.classLink RL 7 RX9, Cond.instantiable RX9 5, Cond.initialized RX9, Cond.classLink RL 10 RX10, Cond.instantiable RX10 13, Cond.initialized RX10, Cond.methodLink RL 9 yX9_init, Cond.instanceMethod yX9_init, Cond.code yX9_init cX9_init 1 none, Cond.methodLink RX9 1 objectInit, Cond.instanceMethod objectInit, Cond.code objectInit ⟨#[0xb1]⟩ 1 none, Cond.classLink RX9 7 RX0, Cond.instantiable RX0 10, Cond.initialized RX0, Cond.fieldLink RX9 10 "PurserLedgers" "now" "LPurserLedgers$Books;", Cond.fieldLink RX9 16 "PurserLedgers" "trial" "LPurserLedgers$Books;", Cond.classLink RX9 19 RX2, Cond.instantiable RX2 2, Cond.initialized RX2, Cond.fieldLink RX9 22 "PurserLedgers" "history" "LPurserLedgers$History;", Cond.classLink RX9 26 RX7, Cond.instantiable RX7 2, Cond.initialized RX7]
def wsL_law_r2 : List Cond := [Cond.fieldLink RX9 29 "PurserLedgers" "text" "LPurserLedgers$Text;", Cond.classLink RX9 33 RX5, Cond.instantiable RX5 5, Cond.initialized RX5, Cond.fieldLink RX9 36 "PurserLedgers" "rehearsal" "LPurserLedgers$Rehearsal;", Cond.methodLink RX9 9 yX0_init, Cond.instanceMethod yX0_init, Cond.code yX0_init cX0_init 2 none, Cond.methodLink RX0 3 objectInit, Cond.classLink RX0 9 RX6, Cond.fieldLink RX0 11 "PurserLedgers$Books" "crew" "[LPurserLedgers$Sailor;", Cond.instantiable RX6 10, Cond.initialized RX6, Cond.classLink RX0 18 RX3, Cond.fieldLink RX0 20 "PurserLedgers$Books" "chest" "[LPurserLedgers$Item;", Cond.instantiable RX3 5, Cond.initialized RX3, Cond.arrayClass .int, Cond.fieldLink RX0 29 "PurserLedgers$Books" "settings" "[I", Cond.classLink RX0 36 RX1, Cond.instantiable RX1 4, Cond.initialized RX1, Cond.fieldLink RX0 39 "PurserLedgers$Books" "entries" "LPurserLedgers$Entries;", Cond.classLink RX0 43 RX8]
def wsL_law_r3 : List Cond := [Cond.instantiable RX8 8, Cond.initialized RX8, Cond.fieldLink RX0 46 "PurserLedgers$Books" "totals" "LPurserLedgers$Totals;", Cond.instanceMethod yX6_init, Cond.code yX6_init cX6_init 1 none, Cond.methodLink RX6 3 objectInit, Cond.instanceMethod yX3_init, Cond.code yX3_init cX3_init 1 none, Cond.methodLink RX3 3 objectInit, Cond.static yX9_copyNumbers, Cond.code yX9_copyNumbers cX9_copyNumbers 3 none, Cond.methodLink RX0 38 yX1_init, Cond.instanceMethod yX1_init, Cond.code yX1_init cX1_init 1 none, Cond.methodLink RX1 3 objectInit, Cond.fieldLink RX1 9 "PurserLedgers$Entries" "sailors" "[I", Cond.fieldLink RX1 15 "PurserLedgers$Entries" "kinds" "[I", Cond.fieldLink RX1 18 "PurserLedgers$Entries" "coins" "[I", Cond.methodLink RX0 45 yX8_init, Cond.instanceMethod yX8_init, Cond.code yX8_init cX8_init 1 none, Cond.methodLink RX8 3 objectInit, Cond.fieldLink RX8 9 "PurserLedgers$Totals" "cash" "I", Cond.methodLink RX9 21 yX2_init]
def wsL_law_r4 : List Cond := [Cond.instanceMethod yX2_init, Cond.code yX2_init cX2_init 2 none, Cond.methodLink RX2 3 objectInit, Cond.classLink RX2 9 RX0, Cond.fieldLink RX2 11 "PurserLedgers$History" "states" "[LPurserLedgers$Books;", Cond.methodLink RX2 17 yX0_init, Cond.methodLink RX9 28 yX7_init, Cond.instanceMethod yX7_init, Cond.code yX7_init cX7_init 1 none, Cond.methodLink RX7 3 objectInit, Cond.fieldLink RX7 9 "PurserLedgers$Text" "characters" "[I", Cond.methodLink RX9 35 yX5_init, Cond.instanceMethod yX5_init, Cond.code yX5_init cX5_init 1 none, Cond.methodLink RX5 3 objectInit, Cond.classLink RX5 9 RX4, Cond.instantiable RX4 3, Cond.initialized RX4, Cond.fieldLink RX5 12 "PurserLedgers$Rehearsal" "order" "LPurserLedgers$Order;", Cond.methodLink RX5 11 yX4_init, Cond.instanceMethod yX4_init, Cond.code yX4_init cX4_init 1 none, Cond.methodLink RX4 3 objectInit, Cond.fieldLink RX4 9 "PurserLedgers$Order" "numbers" "[I"]
def wsL_law_r5 : List Cond := [Cond.methodLink RL 12 yX10_init, Cond.instanceMethod yX10_init, Cond.code yX10_init cX10_init 1 none, Cond.methodLink RX10 1 objectInit, Cond.fieldLink RX10 7 "PurserLedgersModel" "z" "[I", Cond.fieldLink RX10 13 "PurserLedgersModel" "aside" "[I", Cond.fieldLink RX10 16 "PurserLedgersModel" "before" "[I", Cond.fieldLink RX10 19 "PurserLedgersModel" "text" "[I", Cond.fieldLink RX10 22 "PurserLedgersModel" "number" "[I", Cond.methodLink RL 13 yX9_sign, Cond.instanceMethod yX9_sign, Cond.selects RX9 yX9_sign yX9_sign, Cond.code yX9_sign cX9_sign 3 (some .int), Cond.methodLink RX9 40 yX9_newTrial, Cond.instanceMethod yX9_newTrial, Cond.selects RX9 yX9_newTrial yX9_newTrial, Cond.code yX9_newTrial cX9_newTrial 1 (some (.object "PurserLedgers$Books")), Cond.methodLink RX9 173 yX0_copyFrom, Cond.instanceMethod yX0_copyFrom, Cond.selects RX0 yX0_copyFrom yX0_copyFrom, Cond.code yX0_copyFrom cX0_copyFrom 3 none, Cond.fieldLink RX0 63 "PurserLedgers$Books" "signed" "I", Cond.fieldLink RX0 67 "PurserLedgers$Books" "voyage" "I", Cond.fieldLink RX0 70 "PurserLedgers$Books" "voyageDays" "I"]
def wsL_law_r6 : List Cond := [Cond.fieldLink RX0 73 "PurserLedgers$Books" "ports" "I", Cond.fieldLink RX0 76 "PurserLedgers$Books" "atSea" "Z", Cond.methodLink RX0 50 yX6_copyFrom, Cond.instanceMethod yX6_copyFrom, Cond.selects RX6 yX6_copyFrom yX6_copyFrom, Cond.code yX6_copyFrom cX6_copyFrom 2 none, Cond.fieldLink RX6 9 "PurserLedgers$Sailor" "rank" "I", Cond.fieldLink RX6 15 "PurserLedgers$Sailor" "watch" "I", Cond.fieldLink RX6 18 "PurserLedgers$Sailor" "whereabouts" "I", Cond.fieldLink RX6 21 "PurserLedgers$Sailor" "seaDays" "I", Cond.fieldLink RX6 24 "PurserLedgers$Sailor" "portDays" "I", Cond.fieldLink RX6 27 "PurserLedgers$Sailor" "bought" "I", Cond.fieldLink RX6 30 "PurserLedgers$Sailor" "fines" "I", Cond.fieldLink RX6 33 "PurserLedgers$Sailor" "advances" "I", Cond.fieldLink RX6 36 "PurserLedgers$Sailor" "debt" "I", Cond.fieldLink RX6 39 "PurserLedgers$Sailor" "paid" "I", Cond.methodLink RX0 54 yX3_copyFrom, Cond.instanceMethod yX3_copyFrom, Cond.selects RX3 yX3_copyFrom yX3_copyFrom, Cond.code yX3_copyFrom cX3_copyFrom 2 none, Cond.fieldLink RX3 9 "PurserLedgers$Item" "inStock" "I", Cond.fieldLink RX3 15 "PurserLedgers$Item" "price" "I", Cond.fieldLink RX3 18 "PurserLedgers$Item" "bought" "I", Cond.fieldLink RX3 21 "PurserLedgers$Item" "sold" "I"]
def wsL_law_r7 : List Cond := [Cond.fieldLink RX3 24 "PurserLedgers$Item" "charged" "I", Cond.methodLink RX0 57 yX1_copyFrom, Cond.instanceMethod yX1_copyFrom, Cond.selects RX1 yX1_copyFrom yX1_copyFrom, Cond.code yX1_copyFrom cX1_copyFrom 2 none, Cond.fieldLink RX1 25 "PurserLedgers$Entries" "kept" "I", Cond.methodLink RX0 60 yX8_copyFrom, Cond.instanceMethod yX8_copyFrom, Cond.selects RX8 yX8_copyFrom yX8_copyFrom, Cond.code yX8_copyFrom cX8_copyFrom 2 none, Cond.fieldLink RX8 15 "PurserLedgers$Totals" "drawn" "I", Cond.fieldLink RX8 18 "PurserLedgers$Totals" "spent" "I", Cond.fieldLink RX8 21 "PurserLedgers$Totals" "advanced" "I", Cond.fieldLink RX8 24 "PurserLedgers$Totals" "paid" "I", Cond.fieldLink RX8 27 "PurserLedgers$Totals" "charged" "I", Cond.fieldLink RX8 30 "PurserLedgers$Totals" "fines" "I", Cond.fieldLink RX8 33 "PurserLedgers$Totals" "forfeit" "I", Cond.methodLink RX9 44 yX0_signOn, Cond.instanceMethod yX0_signOn, Cond.selects RX0 yX0_signOn yX0_signOn, Cond.code yX0_signOn cX0_signOn 4 (some .int), Cond.constant RX0 84 (-1000001), Cond.constant RX0 85 (-1000002), Cond.constant RX0 86 (-1000003)]
def wsL_law_r8 : List Cond := [Cond.static yX9_within, Cond.code yX9_within cX9_within 3 (some .boolean), Cond.methodLink RX0 87 yX6_comeAboard, Cond.instanceMethod yX6_comeAboard, Cond.selects RX6 yX6_comeAboard yX6_comeAboard, Cond.code yX6_comeAboard cX6_comeAboard 3 none, Cond.methodLink RX6 42 yX6_beginVoyage, Cond.instanceMethod yX6_beginVoyage, Cond.selects RX6 yX6_beginVoyage yX6_beginVoyage, Cond.code yX6_beginVoyage cX6_beginVoyage 2 none, Cond.methodLink RX9 48 yX9_settleTrial, Cond.instanceMethod yX9_settleTrial, Cond.selects RX9 yX9_settleTrial yX9_settleTrial, Cond.code yX9_settleTrial cX9_settleTrial 2 (some .int), Cond.methodLink RX9 177 yX2_record, Cond.instanceMethod yX2_record, Cond.selects RX2 yX2_record yX2_record, Cond.code yX2_record cX2_record 5 none, Cond.fieldLink RX2 22 "PurserLedgers$History" "kept" "I", Cond.methodLink RX2 18 yX0_copyFrom, Cond.methodLink RL 17 yX10_sign, Cond.instanceMethod yX10_sign, Cond.selects RX10 yX10_sign yX10_sign, Cond.code yX10_sign cX10_sign 4 (some .int)]
def wsL_law_r9 : List Cond := [Cond.methodLink RX10 73 yX10_noSign, Cond.instanceMethod yX10_noSign, Cond.selects RX10 yX10_noSign yX10_noSign, Cond.code yX10_noSign cX10_noSign 3 (some .int), Cond.constant RX10 64 (-1000001), Cond.constant RX10 37 (-1000002), Cond.constant RX10 69 (-1000003), Cond.methodLink RX10 25 yX10_in, Cond.static yX10_in, Cond.code yX10_in cX10_in 3 (some .boolean), Cond.methodLink RX10 65 yX10_isAtSea, Cond.instanceMethod yX10_isAtSea, Cond.selects RX10 yX10_isAtSea yX10_isAtSea, Cond.code yX10_isAtSea cX10_isAtSea 1 (some .boolean), Cond.methodLink RX10 76 yX10_record, Cond.instanceMethod yX10_record, Cond.selects RX10 yX10_record yX10_record, Cond.code yX10_record cX10_record 3 none, Cond.fieldLink RX10 33 "PurserLedgersModel" "states" "I", Cond.methodLink RX10 80 yX10_doSign, Cond.instanceMethod yX10_doSign, Cond.selects RX10 yX10_doSign yX10_doSign, Cond.code yX10_doSign cX10_doSign 4 (some .int), Cond.methodLink RX10 70 yX10_clear]
def wsL_law_r10 : List Cond := [Cond.instanceMethod yX10_clear, Cond.selects RX10 yX10_clear yX10_clear, Cond.code yX10_clear cX10_clear 3 none, Cond.methodLink RX10 53 yX10_put, Cond.instanceMethod yX10_put, Cond.selects RX10 yX10_put yX10_put, Cond.code yX10_put cX10_put 4 none, Cond.methodLink RL 18 yX9_stock, Cond.instanceMethod yX9_stock, Cond.selects RX9 yX9_stock yX9_stock, Cond.code yX9_stock cX9_stock 4 (some .int), Cond.methodLink RX9 52 yX0_buyForChest, Cond.instanceMethod yX0_buyForChest, Cond.selects RX0 yX0_buyForChest yX0_buyForChest, Cond.code yX0_buyForChest cX0_buyForChest 5 (some .int), Cond.fieldLink RX0 95 "PurserLedgers$Item" "inStock" "I", Cond.fieldLink RX0 98 "PurserLedgers$Totals" "spent" "I", Cond.fieldLink RX0 112 "PurserLedgers$Item" "price" "I", Cond.methodLink RX0 91 yX0_findItem, Cond.instanceMethod yX0_findItem, Cond.selects RX0 yX0_findItem yX0_findItem, Cond.code yX0_findItem cX0_findItem 2 (some (.object "PurserLedgers$Item")), Cond.methodLink RX0 101 yX8_takeCash, Cond.instanceMethod yX8_takeCash]
def wsL_law_r11 : List Cond := [Cond.selects RX8 yX8_takeCash yX8_takeCash, Cond.code yX8_takeCash cX8_takeCash 3 none, Cond.methodLink RX8 36 yX8_missingFor, Cond.instanceMethod yX8_missingFor, Cond.selects RX8 yX8_missingFor yX8_missingFor, Cond.code yX8_missingFor cX8_missingFor 2 (some .int), Cond.methodLink RX0 105 yX0_setting, Cond.instanceMethod yX0_setting, Cond.selects RX0 yX0_setting yX0_setting, Cond.code yX0_setting cX0_setting 2 (some .int), Cond.methodLink RX0 109 yX3_takeIn, Cond.instanceMethod yX3_takeIn, Cond.selects RX3 yX3_takeIn yX3_takeIn, Cond.code yX3_takeIn cX3_takeIn 3 none, Cond.methodLink RL 22 yX10_stock, Cond.instanceMethod yX10_stock, Cond.selects RX10 yX10_stock yX10_stock, Cond.code yX10_stock cX10_stock 5 (some .int), Cond.methodLink RX10 89 yX10_noStock, Cond.instanceMethod yX10_noStock, Cond.selects RX10 yX10_noStock yX10_noStock, Cond.code yX10_noStock cX10_noStock 4 (some .int), Cond.methodLink RX10 83 yX10_isItem, Cond.static yX10_isItem]
def wsL_law_r12 : List Cond := [Cond.code yX10_isItem cX10_isItem 1 (some .boolean), Cond.methodLink RX10 86 yX10_ofItem, Cond.instanceMethod yX10_ofItem, Cond.selects RX10 yX10_ofItem yX10_ofItem, Cond.code yX10_ofItem cX10_ofItem 3 (some .int), Cond.methodLink RX10 92 yX10_doStock, Cond.instanceMethod yX10_doStock, Cond.selects RX10 yX10_doStock yX10_doStock, Cond.code yX10_doStock cX10_doStock 5 (some .int), Cond.methodLink RX10 60 yX10_spend, Cond.instanceMethod yX10_spend, Cond.selects RX10 yX10_spend yX10_spend, Cond.code yX10_spend cX10_spend 2 none, Cond.methodLink RL 23 yX9_sell, Cond.instanceMethod yX9_sell, Cond.selects RX9 yX9_sell yX9_sell, Cond.code yX9_sell cX9_sell 4 (some .int), Cond.methodLink RX9 56 yX0_sellFromChest, Cond.instanceMethod yX0_sellFromChest, Cond.selects RX0 yX0_sellFromChest yX0_sellFromChest, Cond.code yX0_sellFromChest cX0_sellFromChest 7 (some .int), Cond.fieldLink RX0 126 "PurserLedgers$Sailor" "bought" "I", Cond.fieldLink RX0 129 "PurserLedgers$Totals" "charged" "I", Cond.methodLink RX0 115 yX0_findSailor]
def wsL_law_r13 : List Cond := [Cond.instanceMethod yX0_findSailor, Cond.selects RX0 yX0_findSailor yX0_findSailor, Cond.code yX0_findSailor cX0_findSailor 2 (some (.object "PurserLedgers$Sailor")), Cond.methodLink RX0 119 yX0_reasonAgainst, Cond.instanceMethod yX0_reasonAgainst, Cond.selects RX0 yX0_reasonAgainst yX0_reasonAgainst, Cond.code yX0_reasonAgainst cX0_reasonAgainst 4 (some .int), Cond.fieldLink RX0 136 "PurserLedgers$Sailor" "whereabouts" "I", Cond.methodLink RX0 139 yX6_balance, Cond.instanceMethod yX6_balance, Cond.selects RX6 yX6_balance yX6_balance, Cond.code yX6_balance cX6_balance 1 (some .int), Cond.methodLink RX6 50 yX6_wages, Cond.instanceMethod yX6_wages, Cond.selects RX6 yX6_wages yX6_wages, Cond.code yX6_wages cX6_wages 3 (some .int), Cond.methodLink RX6 54 yX6_charged, Cond.instanceMethod yX6_charged, Cond.selects RX6 yX6_charged yX6_charged, Cond.code yX6_charged cX6_charged 1 (some .int), Cond.methodLink RX0 123 yX3_giveOut, Cond.instanceMethod yX3_giveOut, Cond.selects RX3 yX3_giveOut yX3_giveOut, Cond.code yX3_giveOut cX3_giveOut 3 none]
def wsL_law_r14 : List Cond := [Cond.methodLink RX0 132 yX1_enter, Cond.instanceMethod yX1_enter, Cond.selects RX1 yX1_enter yX1_enter, Cond.code yX1_enter cX1_enter 4 none, Cond.methodLink RX1 29 yX1_putAhead, Cond.static yX1_putAhead, Cond.code yX1_putAhead cX1_putAhead 3 none, Cond.methodLink RL 26 yX10_sell, Cond.instanceMethod yX10_sell, Cond.selects RX10 yX10_sell yX10_sell, Cond.code yX10_sell cX10_sell 5 (some .int), Cond.methodLink RX10 107 yX10_noSell, Cond.instanceMethod yX10_noSell, Cond.selects RX10 yX10_noSell yX10_noSell, Cond.code yX10_noSell cX10_noSell 4 (some .int), Cond.methodLink RX10 98 yX10_isSailor, Cond.instanceMethod yX10_isSailor, Cond.selects RX10 yX10_isSailor yX10_isSailor, Cond.code yX10_isSailor cX10_isSailor 2 (some .boolean), Cond.methodLink RX10 101 yX10_whyNot, Cond.instanceMethod yX10_whyNot, Cond.selects RX10 yX10_whyNot yX10_whyNot, Cond.code yX10_whyNot cX10_whyNot 4 (some .int), Cond.methodLink RX10 29 yX10_of]
def wsL_law_r15 : List Cond := [Cond.instanceMethod yX10_of, Cond.selects RX10 yX10_of yX10_of, Cond.code yX10_of cX10_of 3 (some .int), Cond.methodLink RX10 95 yX10_balance, Cond.instanceMethod yX10_balance, Cond.selects RX10 yX10_balance yX10_balance, Cond.code yX10_balance cX10_balance 2 (some .int), Cond.methodLink RX10 42 yX10_isGone, Cond.instanceMethod yX10_isGone, Cond.selects RX10 yX10_isGone yX10_isGone, Cond.code yX10_isGone cX10_isGone 2 (some .boolean), Cond.methodLink RX10 46 yX10_earned, Cond.instanceMethod yX10_earned, Cond.selects RX10 yX10_earned yX10_earned, Cond.code yX10_earned cX10_earned 2 (some .int), Cond.methodLink RX10 38 yX10_wages, Cond.static yX10_wages, Cond.code yX10_wages cX10_wages 4 (some .int), Cond.methodLink RX10 50 yX10_charged, Cond.instanceMethod yX10_charged, Cond.selects RX10 yX10_charged yX10_charged, Cond.code yX10_charged cX10_charged 2 (some .int), Cond.methodLink RX10 110 yX10_doSell, Cond.instanceMethod yX10_doSell]
def wsL_law_r16 : List Cond := [Cond.selects RX10 yX10_doSell yX10_doSell, Cond.code yX10_doSell cX10_doSell 6 (some .int), Cond.methodLink RX10 104 yX10_charge, Cond.instanceMethod yX10_charge, Cond.selects RX10 yX10_charge yX10_charge, Cond.code yX10_charge cX10_charge 4 none, Cond.methodLink RX10 57 yX10_write, Cond.instanceMethod yX10_write, Cond.selects RX10 yX10_write yX10_write, Cond.code yX10_write cX10_write 5 none, Cond.methodLink RL 27 yX9_advance, Cond.instanceMethod yX9_advance, Cond.selects RX9 yX9_advance yX9_advance, Cond.code yX9_advance cX9_advance 3 (some .int), Cond.methodLink RX9 59 yX0_advanceTo, Cond.instanceMethod yX0_advanceTo, Cond.selects RX0 yX0_advanceTo yX0_advanceTo, Cond.code yX0_advanceTo cX0_advanceTo 4 (some .int), Cond.fieldLink RX0 153 "PurserLedgers$Sailor" "advances" "I", Cond.fieldLink RX0 156 "PurserLedgers$Totals" "advanced" "I", Cond.fieldLink RX0 159 "PurserLedgers$Totals" "cash" "I", Cond.methodLink RX0 149 yX6_isGone, Cond.instanceMethod yX6_isGone, Cond.selects RX6 yX6_isGone yX6_isGone]
def wsL_law_r17 : List Cond := [Cond.code yX6_isGone cX6_isGone 1 (some .boolean), Cond.methodLink RL 30 yX10_advance, Cond.instanceMethod yX10_advance, Cond.selects RX10 yX10_advance yX10_advance, Cond.code yX10_advance cX10_advance 4 (some .int), Cond.methodLink RX10 113 yX10_noAdvance, Cond.instanceMethod yX10_noAdvance, Cond.selects RX10 yX10_noAdvance yX10_noAdvance, Cond.code yX10_noAdvance cX10_noAdvance 3 (some .int), Cond.methodLink RX10 116 yX10_doAdvance, Cond.instanceMethod yX10_doAdvance, Cond.selects RX10 yX10_doAdvance yX10_doAdvance, Cond.code yX10_doAdvance cX10_doAdvance 3 (some .int), Cond.methodLink RL 31 yX9_fine, Cond.instanceMethod yX9_fine, Cond.selects RX9 yX9_fine yX9_fine, Cond.code yX9_fine cX9_fine 3 (some .int), Cond.methodLink RX9 62 yX0_fineOne, Cond.instanceMethod yX0_fineOne, Cond.selects RX0 yX0_fineOne yX0_fineOne, Cond.code yX0_fineOne cX0_fineOne 4 (some .int), Cond.methodLink RX0 162 yX6_couldBeFined, Cond.instanceMethod yX6_couldBeFined, Cond.selects RX6 yX6_couldBeFined yX6_couldBeFined]
def wsL_law_r18 : List Cond := [Cond.code yX6_couldBeFined cX6_couldBeFined 2 (some .boolean), Cond.methodLink RX6 58 yX6_balance, Cond.methodLink RX0 166 yX0_chargeFine, Cond.instanceMethod yX0_chargeFine, Cond.selects RX0 yX0_chargeFine yX0_chargeFine, Cond.code yX0_chargeFine cX0_chargeFine 4 none, Cond.fieldLink RX0 170 "PurserLedgers$Sailor" "fines" "I", Cond.fieldLink RX0 173 "PurserLedgers$Totals" "fines" "I", Cond.methodLink RL 34 yX10_fine, Cond.instanceMethod yX10_fine, Cond.selects RX10 yX10_fine yX10_fine, Cond.code yX10_fine cX10_fine 4 (some .int), Cond.methodLink RX10 119 yX10_noFine, Cond.instanceMethod yX10_noFine, Cond.selects RX10 yX10_noFine yX10_noFine, Cond.code yX10_noFine cX10_noFine 3 (some .int), Cond.methodLink RX10 122 yX10_doFine, Cond.instanceMethod yX10_doFine, Cond.selects RX10 yX10_doFine yX10_doFine, Cond.code yX10_doFine cX10_doFine 3 (some .int), Cond.methodLink RL 35 yX9_fineWatch, Cond.instanceMethod yX9_fineWatch, Cond.selects RX9 yX9_fineWatch yX9_fineWatch, Cond.code yX9_fineWatch cX9_fineWatch 3 (some .int)]
def wsL_law_r19 : List Cond := [Cond.methodLink RX9 65 yX0_fineAll, Cond.instanceMethod yX0_fineAll, Cond.selects RX0 yX0_fineAll yX0_fineAll, Cond.code yX0_fineAll cX0_fineAll 7 (some .int), Cond.methodLink RX0 174 yX0_sizeOfWatch, Cond.instanceMethod yX0_sizeOfWatch, Cond.selects RX0 yX0_sizeOfWatch yX0_sizeOfWatch, Cond.code yX0_sizeOfWatch cX0_sizeOfWatch 4 (some .int), Cond.methodLink RX0 180 yX6_isOfWatch, Cond.instanceMethod yX6_isOfWatch, Cond.selects RX6 yX6_isOfWatch yX6_isOfWatch, Cond.code yX6_isOfWatch cX6_isOfWatch 2 (some .boolean), Cond.methodLink RX6 46 yX6_isGone, Cond.methodLink RX0 177 yX0_couldAllBeFined, Cond.instanceMethod yX0_couldAllBeFined, Cond.selects RX0 yX0_couldAllBeFined yX0_couldAllBeFined, Cond.code yX0_couldAllBeFined cX0_couldAllBeFined 6 (some .boolean), Cond.methodLink RL 38 yX10_fineWatch, Cond.instanceMethod yX10_fineWatch, Cond.selects RX10 yX10_fineWatch yX10_fineWatch, Cond.code yX10_fineWatch cX10_fineWatch 6 (some .int), Cond.methodLink RX10 125 yX10_ofWatch, Cond.instanceMethod yX10_ofWatch, Cond.selects RX10 yX10_ofWatch yX10_ofWatch]
def wsL_law_r20 : List Cond := [Cond.code yX10_ofWatch cX10_ofWatch 5 (some .int), Cond.methodLink RX10 128 yX10_isFined, Cond.instanceMethod yX10_isFined, Cond.selects RX10 yX10_isFined yX10_isFined, Cond.code yX10_isFined cX10_isFined 3 (some .boolean), Cond.methodLink RX10 132 yX10_partOf, Cond.instanceMethod yX10_partOf, Cond.selects RX10 yX10_partOf yX10_partOf, Cond.code yX10_partOf cX10_partOf 5 (some .int), Cond.methodLink RL 39 yX9_leave, Cond.instanceMethod yX9_leave, Cond.selects RX9 yX9_leave yX9_leave, Cond.code yX9_leave cX9_leave 2 (some .int), Cond.methodLink RX9 68 yX0_letAshore, Cond.instanceMethod yX0_letAshore, Cond.selects RX0 yX0_letAshore yX0_letAshore, Cond.code yX0_letAshore cX0_letAshore 4 (some .int), Cond.methodLink RX0 183 yX0_setOf, Cond.instanceMethod yX0_setOf, Cond.selects RX0 yX0_setOf yX0_setOf, Cond.code yX0_setOf cX0_setOf 4 (some .int), Cond.methodLink RL 43 yX10_leave, Cond.instanceMethod yX10_leave, Cond.selects RX10 yX10_leave yX10_leave]
def wsL_law_r21 : List Cond := [Cond.code yX10_leave cX10_leave 3 (some .int), Cond.methodLink RX10 141 yX10_noLeave, Cond.instanceMethod yX10_noLeave, Cond.selects RX10 yX10_noLeave yX10_noLeave, Cond.code yX10_noLeave cX10_noLeave 2 (some .int), Cond.methodLink RX10 135 yX10_inPlace, Cond.instanceMethod yX10_inPlace, Cond.selects RX10 yX10_inPlace yX10_inPlace, Cond.code yX10_inPlace cX10_inPlace 4 (some .int), Cond.methodLink RX10 138 yX10_aboardOf, Cond.instanceMethod yX10_aboardOf, Cond.selects RX10 yX10_aboardOf yX10_aboardOf, Cond.code yX10_aboardOf cX10_aboardOf 4 (some .int), Cond.methodLink RX10 144 yX10_doLeave, Cond.instanceMethod yX10_doLeave, Cond.selects RX10 yX10_doLeave yX10_doLeave, Cond.code yX10_doLeave cX10_doLeave 4 (some .int), Cond.methodLink RL 44 yX9_back, Cond.instanceMethod yX9_back, Cond.selects RX9 yX9_back yX9_back, Cond.code yX9_back cX9_back 3 (some .int), Cond.methodLink RX9 71 yX0_comeBack, Cond.instanceMethod yX0_comeBack, Cond.selects RX0 yX0_comeBack yX0_comeBack]
def wsL_law_r22 : List Cond := [Cond.code yX0_comeBack cX0_comeBack 5 (some .int), Cond.methodLink RL 47 yX10_back, Cond.instanceMethod yX10_back, Cond.selects RX10 yX10_back yX10_back, Cond.code yX10_back cX10_back 4 (some .int), Cond.methodLink RX10 147 yX10_noBack, Cond.instanceMethod yX10_noBack, Cond.selects RX10 yX10_noBack yX10_noBack, Cond.code yX10_noBack cX10_noBack 3 (some .int), Cond.methodLink RX10 150 yX10_doBack, Cond.instanceMethod yX10_doBack, Cond.selects RX10 yX10_doBack yX10_doBack, Cond.code yX10_doBack cX10_doBack 3 (some .int), Cond.methodLink RL 48 yX9_sail, Cond.instanceMethod yX9_sail, Cond.selects RX9 yX9_sail yX9_sail, Cond.code yX9_sail cX9_sail 1 (some .int), Cond.methodLink RX9 74 yX0_putToSea, Cond.instanceMethod yX0_putToSea, Cond.selects RX0 yX0_putToSea yX0_putToSea, Cond.code yX0_putToSea cX0_putToSea 3 (some .int), Cond.fieldLink RX0 186 "PurserLedgers$Totals" "forfeit" "I", Cond.methodLink RX0 189 yX6_goAway, Cond.instanceMethod yX6_goAway]
def wsL_law_r23 : List Cond := [Cond.selects RX6 yX6_goAway yX6_goAway, Cond.code yX6_goAway cX6_goAway 1 none, Cond.methodLink RL 52 yX10_sail, Cond.instanceMethod yX10_sail, Cond.selects RX10 yX10_sail yX10_sail, Cond.code yX10_sail cX10_sail 2 (some .int), Cond.methodLink RX10 153 yX10_noSail, Cond.instanceMethod yX10_noSail, Cond.selects RX10 yX10_noSail yX10_noSail, Cond.code yX10_noSail cX10_noSail 1 (some .int), Cond.methodLink RX10 157 yX10_doSail, Cond.instanceMethod yX10_doSail, Cond.selects RX10 yX10_doSail yX10_doSail, Cond.code yX10_doSail cX10_doSail 3 (some .int), Cond.methodLink RL 53 yX9_port, Cond.instanceMethod yX9_port, Cond.selects RX9 yX9_port yX9_port, Cond.code yX9_port cX9_port 1 (some .int), Cond.methodLink RX9 78 yX0_comeIntoPort, Cond.instanceMethod yX0_comeIntoPort, Cond.selects RX0 yX0_comeIntoPort yX0_comeIntoPort, Cond.code yX0_comeIntoPort cX0_comeIntoPort 1 (some .int), Cond.methodLink RL 56 yX10_port, Cond.instanceMethod yX10_port]
def wsL_law_r24 : List Cond := [Cond.selects RX10 yX10_port yX10_port, Cond.code yX10_port cX10_port 2 (some .int), Cond.methodLink RX10 160 yX10_noPort, Cond.instanceMethod yX10_noPort, Cond.selects RX10 yX10_noPort yX10_noPort, Cond.code yX10_noPort cX10_noPort 1 (some .int), Cond.methodLink RX10 163 yX10_doPort, Cond.instanceMethod yX10_doPort, Cond.selects RX10 yX10_doPort yX10_doPort, Cond.code yX10_doPort cX10_doPort 1 (some .int), Cond.methodLink RL 57 yX9_days, Cond.instanceMethod yX9_days, Cond.selects RX9 yX9_days yX9_days, Cond.code yX9_days cX9_days 2 (some .int), Cond.methodLink RX9 81 yX0_passDays, Cond.instanceMethod yX0_passDays, Cond.selects RX0 yX0_passDays yX0_passDays, Cond.code yX0_passDays cX0_passDays 3 (some .int), Cond.methodLink RX0 192 yX6_passDays, Cond.instanceMethod yX6_passDays, Cond.selects RX6 yX6_passDays yX6_passDays, Cond.code yX6_passDays cX6_passDays 3 none, Cond.methodLink RL 60 yX10_days, Cond.instanceMethod yX10_days]
def wsL_law_r25 : List Cond := [Cond.selects RX10 yX10_days yX10_days, Cond.code yX10_days cX10_days 3 (some .int), Cond.methodLink RX10 166 yX10_noDays, Cond.instanceMethod yX10_noDays, Cond.selects RX10 yX10_noDays yX10_noDays, Cond.code yX10_noDays cX10_noDays 2 (some .int), Cond.methodLink RX10 169 yX10_doDays, Cond.instanceMethod yX10_doDays, Cond.selects RX10 yX10_doDays yX10_doDays, Cond.code yX10_doDays cX10_doDays 4 (some .int), Cond.methodLink RL 61 yX9_dismiss, Cond.instanceMethod yX9_dismiss, Cond.selects RX9 yX9_dismiss yX9_dismiss, Cond.code yX9_dismiss cX9_dismiss 2 (some .int), Cond.methodLink RX9 84 yX0_sendAway, Cond.instanceMethod yX0_sendAway, Cond.selects RX0 yX0_sendAway yX0_sendAway, Cond.code yX0_sendAway cX0_sendAway 4 (some .int), Cond.methodLink RX0 196 yX0_payTo, Cond.instanceMethod yX0_payTo, Cond.selects RX0 yX0_payTo yX0_payTo, Cond.code yX0_payTo cX0_payTo 4 none, Cond.fieldLink RX0 199 "PurserLedgers$Sailor" "paid" "I", Cond.fieldLink RX0 202 "PurserLedgers$Totals" "paid" "I"]
def wsL_law_r26 : List Cond := [Cond.methodLink RL 64 yX10_dismiss, Cond.instanceMethod yX10_dismiss, Cond.selects RX10 yX10_dismiss yX10_dismiss, Cond.code yX10_dismiss cX10_dismiss 3 (some .int), Cond.methodLink RX10 172 yX10_pay, Cond.instanceMethod yX10_pay, Cond.selects RX10 yX10_pay yX10_pay, Cond.code yX10_pay cX10_pay 3 none, Cond.methodLink RL 65 yX9_payOff, Cond.instanceMethod yX9_payOff, Cond.selects RX9 yX9_payOff yX9_payOff, Cond.code yX9_payOff cX9_payOff 1 (some .int), Cond.methodLink RX9 87 yX0_endVoyage, Cond.instanceMethod yX0_endVoyage, Cond.selects RX0 yX0_endVoyage yX0_endVoyage, Cond.code yX0_endVoyage cX0_endVoyage 4 (some .int), Cond.methodLink RX0 203 yX6_beginVoyage, Cond.methodLink RL 68 yX10_payOff, Cond.instanceMethod yX10_payOff, Cond.selects RX10 yX10_payOff yX10_payOff, Cond.code yX10_payOff cX10_payOff 2 (some .int), Cond.methodLink RX10 176 yX10_noPayOff, Cond.instanceMethod yX10_noPayOff, Cond.selects RX10 yX10_noPayOff yX10_noPayOff]
def wsL_law_r27 : List Cond := [Cond.code yX10_noPayOff cX10_noPayOff 1 (some .int), Cond.methodLink RX10 179 yX10_doPayOff, Cond.instanceMethod yX10_doPayOff, Cond.selects RX10 yX10_doPayOff yX10_doPayOff, Cond.code yX10_doPayOff cX10_doPayOff 4 (some .int), Cond.methodLink RL 69 yX9_set, Cond.instanceMethod yX9_set, Cond.selects RX9 yX9_set yX9_set, Cond.code yX9_set cX9_set 3 (some .int), Cond.methodLink RX9 90 yX0_changeSetting, Cond.instanceMethod yX0_changeSetting, Cond.selects RX0 yX0_changeSetting yX0_changeSetting, Cond.code yX0_changeSetting cX0_changeSetting 4 (some .int), Cond.methodLink RL 72 yX10_set, Cond.instanceMethod yX10_set, Cond.selects RX10 yX10_set yX10_set, Cond.code yX10_set cX10_set 4 (some .int), Cond.methodLink RL 73 yX9_sailor, Cond.instanceMethod yX9_sailor, Cond.selects RX9 yX9_sailor yX9_sailor, Cond.code yX9_sailor cX9_sailor 4 (some .int), Cond.constant RX9 97 (-1000001), Cond.methodLink RX9 93 yX0_findSailor, Cond.methodLink RX9 98 yX6_tell]
def wsL_law_r28 : List Cond := [Cond.instanceMethod yX6_tell, Cond.selects RX6 yX6_tell yX6_tell, Cond.code yX6_tell cX6_tell 2 (some .int), Cond.constant RX6 64 (-1000001), Cond.methodLink RX6 61 yX6_earned, Cond.instanceMethod yX6_earned, Cond.selects RX6 yX6_earned yX6_earned, Cond.code yX6_earned cX6_earned 1 (some .int), Cond.methodLink RL 76 yX10_sailor, Cond.instanceMethod yX10_sailor, Cond.selects RX10 yX10_sailor yX10_sailor, Cond.code yX10_sailor cX10_sailor 3 (some .int), Cond.methodLink RL 77 yX9_item, Cond.instanceMethod yX9_item, Cond.selects RX9 yX9_item yX9_item, Cond.code yX9_item cX9_item 4 (some .int), Cond.methodLink RX9 103 yX0_findItem, Cond.methodLink RX9 107 yX3_tell, Cond.instanceMethod yX3_tell, Cond.selects RX3 yX3_tell yX3_tell, Cond.code yX3_tell cX3_tell 2 (some .int), Cond.constant RX3 27 (-1000001), Cond.methodLink RL 80 yX10_item, Cond.instanceMethod yX10_item]
def wsL_law_r29 : List Cond := [Cond.selects RX10 yX10_item yX10_item, Cond.code yX10_item cX10_item 3 (some .int), Cond.methodLink RL 81 yX9_book, Cond.instanceMethod yX9_book, Cond.selects RX9 yX9_book yX9_book, Cond.code yX9_book cX9_book 3 (some .int), Cond.fieldLink RX9 110 "PurserLedgers$Books" "entries" "LPurserLedgers$Entries;", Cond.methodLink RX9 114 yX1_tell, Cond.instanceMethod yX1_tell, Cond.selects RX1 yX1_tell yX1_tell, Cond.code yX1_tell cX1_tell 3 (some .int), Cond.constant RX1 37 (-1000001), Cond.constant RX1 38 (-1000004), Cond.methodLink RX1 39 yX1_numberAt, Cond.static yX1_numberAt, Cond.code yX1_numberAt cX1_numberAt 2 (some .int), Cond.methodLink RL 84 yX10_book, Cond.instanceMethod yX10_book, Cond.selects RX10 yX10_book yX10_book, Cond.code yX10_book cX10_book 3 (some .int), Cond.constant RX10 182 (-1000004), Cond.methodLink RL 85 yX9_why, Cond.instanceMethod yX9_why, Cond.selects RX9 yX9_why yX9_why]
def wsL_law_r30 : List Cond := [Cond.code yX9_why cX9_why 4 (some .int), Cond.methodLink RX9 118 yX0_reasonNotToSell, Cond.instanceMethod yX0_reasonNotToSell, Cond.selects RX0 yX0_reasonNotToSell yX0_reasonNotToSell, Cond.code yX0_reasonNotToSell cX0_reasonNotToSell 6 (some .int), Cond.methodLink RL 88 yX10_why, Cond.instanceMethod yX10_why, Cond.selects RX10 yX10_why yX10_why, Cond.code yX10_why cX10_why 4 (some .int), Cond.methodLink RL 89 yX9_most, Cond.instanceMethod yX9_most, Cond.selects RX9 yX9_most yX9_most, Cond.code yX9_most cX9_most 3 (some .int), Cond.methodLink RX9 121 yX0_couldBuy, Cond.instanceMethod yX0_couldBuy, Cond.selects RX0 yX0_couldBuy yX0_couldBuy, Cond.code yX0_couldBuy cX0_couldBuy 6 (some .int), Cond.methodLink RX0 143 Lib.Math.min.name, Cond.static Lib.Math.min.name, Cond.initialized "java/lang/Math", Cond.code Lib.Math.min.name Lib.Math.min.code 2 (some .int), Cond.methodLink RL 92 yX10_most, Cond.instanceMethod yX10_most, Cond.selects RX10 yX10_most yX10_most]
def wsL_law_r31 : List Cond := [Cond.code yX10_most cX10_most 4 (some .int), Cond.methodLink RL 93 yX9_clearIn, Cond.instanceMethod yX9_clearIn, Cond.selects RX9 yX9_clearIn yX9_clearIn, Cond.code yX9_clearIn cX9_clearIn 2 (some .int), Cond.methodLink RX9 124 yX0_daysUntilClear, Cond.instanceMethod yX0_daysUntilClear, Cond.selects RX0 yX0_daysUntilClear yX0_daysUntilClear, Cond.code yX0_daysUntilClear cX0_daysUntilClear 5 (some .int), Cond.fieldLink RX0 209 "PurserLedgers$Sailor" "debt" "I", Cond.constant RX0 218 (-1000004), Cond.methodLink RX0 212 yX6_charged, Cond.methodLink RX0 214 yX6_earnedAfter, Cond.instanceMethod yX6_earnedAfter, Cond.selects RX6 yX6_earnedAfter yX6_earnedAfter, Cond.code yX6_earnedAfter cX6_earnedAfter 3 (some .int), Cond.methodLink RL 96 yX10_clearIn, Cond.instanceMethod yX10_clearIn, Cond.selects RX10 yX10_clearIn yX10_clearIn, Cond.code yX10_clearIn cX10_clearIn 7 (some .int), Cond.methodLink RL 97 yX9_ifPaidOff, Cond.instanceMethod yX9_ifPaidOff, Cond.selects RX9 yX9_ifPaidOff yX9_ifPaidOff, Cond.code yX9_ifPaidOff cX9_ifPaidOff 2 (some .int)]
def wsL_law_r32 : List Cond := [Cond.methodLink RX9 127 yX0_tellPayingOff, Cond.instanceMethod yX0_tellPayingOff, Cond.selects RX0 yX0_tellPayingOff yX0_tellPayingOff, Cond.code yX0_tellPayingOff cX0_tellPayingOff 2 (some .int), Cond.methodLink RX0 219 yX0_wouldBePaid, Cond.instanceMethod yX0_wouldBePaid, Cond.selects RX0 yX0_wouldBePaid yX0_wouldBePaid, Cond.code yX0_wouldBePaid cX0_wouldBePaid 3 (some .int), Cond.methodLink RX0 231 Lib.Math.max.name, Cond.static Lib.Math.max.name, Cond.code Lib.Math.max.name Lib.Math.max.code 2 (some .int), Cond.methodLink RX0 222 yX8_missingFor, Cond.methodLink RX0 225 yX0_debtsTogether, Cond.instanceMethod yX0_debtsTogether, Cond.selects RX0 yX0_debtsTogether yX0_debtsTogether, Cond.code yX0_debtsTogether cX0_debtsTogether 3 (some .int), Cond.methodLink RX0 228 yX0_setOfDebtors, Cond.instanceMethod yX0_setOfDebtors, Cond.selects RX0 yX0_setOfDebtors yX0_setOfDebtors, Cond.code yX0_setOfDebtors cX0_setOfDebtors 3 (some .int), Cond.methodLink RL 100 yX10_ifPaidOff, Cond.instanceMethod yX10_ifPaidOff, Cond.selects RX10 yX10_ifPaidOff yX10_ifPaidOff, Cond.code yX10_ifPaidOff cX10_ifPaidOff 7 (some .int)]
def wsL_law_r33 : List Cond := [Cond.methodLink RL 101 yX9_poorest, Cond.instanceMethod yX9_poorest, Cond.selects RX9 yX9_poorest yX9_poorest, Cond.code yX9_poorest cX9_poorest 2 (some .int), Cond.methodLink RX9 130 yX0_sailorByBalance, Cond.instanceMethod yX0_sailorByBalance, Cond.selects RX0 yX0_sailorByBalance yX0_sailorByBalance, Cond.code yX0_sailorByBalance cX0_sailorByBalance 3 (some .int), Cond.methodLink RX0 234 yX0_poorerThan, Cond.instanceMethod yX0_poorerThan, Cond.selects RX0 yX0_poorerThan yX0_poorerThan, Cond.code yX0_poorerThan cX0_poorerThan 6 (some .int), Cond.methodLink RL 104 yX10_poorest, Cond.instanceMethod yX10_poorest, Cond.selects RX10 yX10_poorest yX10_poorest, Cond.code yX10_poorest cX10_poorest 7 (some .int), Cond.methodLink RL 105 yX9_share, Cond.instanceMethod yX9_share, Cond.selects RX9 yX9_share yX9_share, Cond.code yX9_share cX9_share 1 (some .int), Cond.methodLink RX9 133 yX0_chargedShare, Cond.instanceMethod yX0_chargedShare, Cond.selects RX0 yX0_chargedShare yX0_chargedShare, Cond.code yX0_chargedShare cX0_chargedShare 4 (some .int)]
def wsL_law_r34 : List Cond := [Cond.methodLink RX0 237 yX6_earned, Cond.static yX9_bitsOf, Cond.code yX9_bitsOf cX9_bitsOf 4 (some .int), Cond.constantFloat RX9 180 (1258291200), Cond.methodLink RL 108 yX10_share, Cond.instanceMethod yX10_share, Cond.selects RX10 yX10_share yX10_share, Cond.code yX10_share cX10_share 4 (some .int), Cond.methodLink RX10 183 yJxf58ca_floatToIntBits_5c35a, Cond.static yJxf58ca_floatToIntBits_5c35a, Cond.initialized RJxf58ca, Cond.code yJxf58ca_floatToIntBits_5c35a cJxf58ca_floatToIntBits_5c35a 1 (some .int), Cond.methodLink RJxf58ca 74 ⟨"java/lang/Float", "floatToRawIntBits", "(F)I"⟩, Cond.native ⟨"java/lang/Float", "floatToRawIntBits", "(F)I"⟩, Cond.static ⟨"java/lang/Float", "floatToRawIntBits", "(F)I"⟩, Cond.initialized "java/lang/Float", Cond.constant RJxf58ca 77 (2143289344), Cond.methodLink RJxf58ca 59 yJxf58ca_isNaN_12338, Cond.static yJxf58ca_isNaN_12338, Cond.code yJxf58ca_isNaN_12338 cJxf58ca_isNaN_12338 1 (some .boolean), Cond.methodLink RL 109 yX9_count, Cond.instanceMethod yX9_count, Cond.selects RX9 yX9_count yX9_count, Cond.code yX9_count cX9_count 2 (some .int)]
def wsL_law_r35 : List Cond := [Cond.fieldLink RX9 136 "PurserLedgers$History" "kept" "I", Cond.fieldLink RX9 140 "PurserLedgers$Text" "length" "I", Cond.methodLink RX9 143 yX0_tell, Cond.instanceMethod yX0_tell, Cond.selects RX0 yX0_tell yX0_tell, Cond.code yX0_tell cX0_tell 2 (some .int), Cond.fieldLink RX0 244 "PurserLedgers$Entries" "kept" "I", Cond.methodLink RX0 247 yX0_tellCoins, Cond.instanceMethod yX0_tellCoins, Cond.selects RX0 yX0_tellCoins yX0_tellCoins, Cond.code yX0_tellCoins cX0_tellCoins 2 (some .int), Cond.fieldLink RX0 250 "PurserLedgers$Totals" "drawn" "I", Cond.constant RX0 253 (100000), Cond.methodLink RL 112 yX10_count, Cond.instanceMethod yX10_count, Cond.selects RX10 yX10_count yX10_count, Cond.code yX10_count cX10_count 2 (some .int), Cond.constant RX10 189 (100000), Cond.fieldLink RX10 190 "PurserLedgersModel" "length" "I", Cond.methodLink RL 113 yX9_undo, Cond.instanceMethod yX9_undo, Cond.selects RX9 yX9_undo yX9_undo, Cond.code yX9_undo cX9_undo 1 (some .int), Cond.methodLink RX9 144 yX2_restoreInto]
def wsL_law_r36 : List Cond := [Cond.instanceMethod yX2_restoreInto, Cond.selects RX2 yX2_restoreInto yX2_restoreInto, Cond.code yX2_restoreInto cX2_restoreInto 5 (some .int), Cond.constant RX2 26 (-1000002), Cond.methodLink RL 116 yX10_undo, Cond.instanceMethod yX10_undo, Cond.selects RX10 yX10_undo yX10_undo, Cond.code yX10_undo cX10_undo 2 (some .int), Cond.methodLink RL 117 yX9_type, Cond.instanceMethod yX9_type, Cond.selects RX9 yX9_type yX9_type, Cond.code yX9_type cX9_type 2 (some .int), Cond.methodLink RX9 148 yX7_append, Cond.instanceMethod yX7_append, Cond.selects RX7 yX7_append yX7_append, Cond.code yX7_append cX7_append 2 (some .int), Cond.constant RX7 19 (-1000001), Cond.fieldLink RX7 20 "PurserLedgers$Text" "length" "I", Cond.constant RX7 24 (-1000003), Cond.methodLink RL 120 yX10_type, Cond.instanceMethod yX10_type, Cond.selects RX10 yX10_type yX10_type, Cond.code yX10_type cX10_type 2 (some .int), Cond.methodLink RL 121 yX9_clearText]
def wsL_law_r37 : List Cond := [Cond.instanceMethod yX9_clearText, Cond.selects RX9 yX9_clearText yX9_clearText, Cond.code yX9_clearText cX9_clearText 1 (some .int), Cond.methodLink RX9 151 yX7_empty, Cond.instanceMethod yX7_empty, Cond.selects RX7 yX7_empty yX7_empty, Cond.code yX7_empty cX7_empty 2 (some .int), Cond.methodLink RL 124 yX10_clearText, Cond.instanceMethod yX10_clearText, Cond.selects RX10 yX10_clearText yX10_clearText, Cond.code yX10_clearText cX10_clearText 2 (some .int), Cond.methodLink RL 125 yX9_fault, Cond.instanceMethod yX9_fault, Cond.selects RX9 yX9_fault yX9_fault, Cond.code yX9_fault cX9_fault 2 (some .int), Cond.methodLink RX9 154 yX9_within, Cond.methodLink RX9 158 yX5_runThrough, Cond.instanceMethod yX5_runThrough, Cond.selects RX5 yX5_runThrough yX5_runThrough, Cond.code yX5_runThrough cX5_runThrough 5 none, Cond.fieldLink RX5 18 "PurserLedgers$Rehearsal" "done" "I", Cond.fieldLink RX5 22 "PurserLedgers$Rehearsal" "position" "I", Cond.fieldLink RX5 25 "PurserLedgers$Rehearsal" "reason" "I", Cond.fieldLink RX5 28 "PurserLedgers$Rehearsal" "cause" "I"]
def wsL_law_r38 : List Cond := [Cond.fieldLink RX5 31 "PurserLedgers$Text" "length" "I", Cond.fieldLink RX5 40 "PurserLedgers$Order" "place" "I", Cond.methodLink RX5 36 yX4_readFrom, Cond.instanceMethod yX4_readFrom, Cond.selects RX4 yX4_readFrom yX4_readFrom, Cond.code yX4_readFrom cX4_readFrom 6 (some .boolean), Cond.fieldLink RX4 15 "PurserLedgers$Order" "place" "I", Cond.fieldLink RX4 25 "PurserLedgers$Order" "letter" "I", Cond.methodLink RX4 19 yX7_at, Cond.instanceMethod yX7_at, Cond.selects RX7 yX7_at yX7_at, Cond.code yX7_at cX7_at 2 (some .int), Cond.methodLink RX4 28 yX4_numbersOf, Cond.static yX4_numbersOf, Cond.code yX4_numbersOf cX4_numbersOf 1 (some .int), Cond.methodLink RX4 31 yX4_readSign, Cond.instanceMethod yX4_readSign, Cond.selects RX4 yX4_readSign yX4_readSign, Cond.code yX4_readSign cX4_readSign 3 (some .boolean), Cond.methodLink RX4 35 yX4_readNumber, Cond.instanceMethod yX4_readNumber, Cond.selects RX4 yX4_readNumber yX4_readNumber, Cond.code yX4_readNumber cX4_readNumber 4 (some .int), Cond.methodLink RX4 43 Lib.Math.max.name]
def wsL_law_r39 : List Cond := [Cond.methodLink RX5 43 yX4_carryOut, Cond.instanceMethod yX4_carryOut, Cond.selects RX4 yX4_carryOut yX4_carryOut, Cond.code yX4_carryOut cX4_carryOut 2 (some .int), Cond.methodLink RX4 49 yX4_number, Cond.instanceMethod yX4_number, Cond.selects RX4 yX4_number yX4_number, Cond.code yX4_number cX4_number 2 (some .int), Cond.methodLink RX4 52 yX0_signOn, Cond.methodLink RX4 57 yX0_buyForChest, Cond.methodLink RX4 61 yX0_sellFromChest, Cond.methodLink RX4 64 yX0_advanceTo, Cond.methodLink RX4 67 yX0_fineOne, Cond.methodLink RX4 70 yX0_passDays, Cond.methodLink RX4 73 yX0_letAshore, Cond.methodLink RX4 76 yX0_comeBack, Cond.methodLink RX4 79 yX0_putToSea, Cond.methodLink RX4 83 yX0_comeIntoPort, Cond.methodLink RX4 86 yX0_endVoyage, Cond.methodLink RX9 162 yX5_tellFault, Cond.instanceMethod yX5_tellFault, Cond.selects RX5 yX5_tellFault yX5_tellFault, Cond.code yX5_tellFault cX5_tellFault 2 (some .int), Cond.constant RX5 51 (-1000004)]
def wsL_law_r40 : List Cond := [Cond.methodLink RX5 47 yX5_isFaulty, Cond.instanceMethod yX5_isFaulty, Cond.selects RX5 yX5_isFaulty yX5_isFaulty, Cond.code yX5_isFaulty cX5_isFaulty 1 (some .boolean), Cond.methodLink RL 128 yX10_fault, Cond.instanceMethod yX10_fault, Cond.selects RX10 yX10_fault yX10_fault, Cond.code yX10_fault cX10_fault 3 (some .int), Cond.fieldLink RX10 217 "PurserLedgersModel" "position" "I", Cond.fieldLink RX10 220 "PurserLedgersModel" "reason" "I", Cond.fieldLink RX10 214 "PurserLedgersModel" "cause" "I", Cond.methodLink RX10 226 yX10_putAside, Cond.instanceMethod yX10_putAside, Cond.selects RX10 yX10_putAside yX10_putAside, Cond.code yX10_putAside cX10_putAside 2 none, Cond.methodLink RX10 229 yX10_doText, Cond.instanceMethod yX10_doText, Cond.selects RX10 yX10_doText yX10_doText, Cond.code yX10_doText cX10_doText 3 (some .boolean), Cond.fieldLink RX10 205 "PurserLedgersModel" "orders" "I", Cond.fieldLink RX10 202 "PurserLedgersModel" "broken" "I", Cond.methodLink RX10 208 yX10_readOrder, Cond.instanceMethod yX10_readOrder, Cond.selects RX10 yX10_readOrder yX10_readOrder]
def wsL_law_r41 : List Cond := [Cond.code yX10_readOrder cX10_readOrder 6 (some .int), Cond.fieldLink RX10 196 "PurserLedgersModel" "letter" "I", Cond.methodLink RX10 193 yX10_at, Cond.instanceMethod yX10_at, Cond.selects RX10 yX10_at yX10_at, Cond.code yX10_at cX10_at 2 (some .int), Cond.methodLink RX10 199 yX10_numbers, Cond.static yX10_numbers, Cond.code yX10_numbers cX10_numbers 1 (some .int), Cond.methodLink RX10 211 yX10_noOrder, Cond.instanceMethod yX10_noOrder, Cond.selects RX10 yX10_noOrder yX10_noOrder, Cond.code yX10_noOrder cX10_noOrder 1 (some .int), Cond.methodLink RX10 223 yX10_doOrder, Cond.instanceMethod yX10_doOrder, Cond.selects RX10 yX10_doOrder yX10_doOrder, Cond.code yX10_doOrder cX10_doOrder 1 (some .int), Cond.methodLink RX10 232 yX10_putBack, Cond.instanceMethod yX10_putBack, Cond.selects RX10 yX10_putBack yX10_putBack, Cond.code yX10_putBack cX10_putBack 2 none, Cond.methodLink RL 129 yX9_play, Cond.instanceMethod yX9_play, Cond.selects RX9 yX9_play yX9_play]
def wsL_law_r42 : List Cond := [Cond.code yX9_play cX9_play 1 (some .int), Cond.constant RX9 169 (-1000002), Cond.fieldLink RX9 170 "PurserLedgers$Rehearsal" "done" "I", Cond.methodLink RX9 165 yX5_isFaulty, Cond.methodLink RL 132 yX10_play, Cond.instanceMethod yX10_play, Cond.selects RX10 yX10_play yX10_play, Cond.code yX10_play cX10_play 1 (some .int)]
def wsL_law : List Cond := (wsL_law_r1 ++ (wsL_law_r2 ++ (wsL_law_r3 ++ (wsL_law_r4 ++ (wsL_law_r5 ++ (wsL_law_r6 ++ (wsL_law_r7 ++ (wsL_law_r8 ++ (wsL_law_r9 ++ (wsL_law_r10 ++ (wsL_law_r11 ++ (wsL_law_r12 ++ (wsL_law_r13 ++ (wsL_law_r14 ++ (wsL_law_r15 ++ (wsL_law_r16 ++ (wsL_law_r17 ++ (wsL_law_r18 ++ (wsL_law_r19 ++ (wsL_law_r20 ++ (wsL_law_r21 ++ (wsL_law_r22 ++ (wsL_law_r23 ++ (wsL_law_r24 ++ (wsL_law_r25 ++ (wsL_law_r26 ++ (wsL_law_r27 ++ (wsL_law_r28 ++ (wsL_law_r29 ++ (wsL_law_r30 ++ (wsL_law_r31 ++ (wsL_law_r32 ++ (wsL_law_r33 ++ (wsL_law_r34 ++ (wsL_law_r35 ++ (wsL_law_r36 ++ (wsL_law_r37 ++ (wsL_law_r38 ++ (wsL_law_r39 ++ (wsL_law_r40 ++ (wsL_law_r41 ++ wsL_law_r42))))))))))))))))))))))))))))))))))))))))) ++ wsX90 ++ wsX100 ++ wsX00 ++ wsX20 ++ wsX70 ++ wsX50 ++ wsX60 ++ wsX30 ++ wsX10 ++ wsX80 ++ wsX40 ++ ([] : List Cond)
theorem inlX0 : ∀ w ∈ wsX00, w ∈ wsL_law := fun _ h => List.mem_append_left _ (List.mem_append_left _ (List.mem_append_left _ (List.mem_append_left _ (List.mem_append_left _ (List.mem_append_left _ (List.mem_append_left _ (List.mem_append_left _ (List.mem_append_left _ (List.mem_append_right _ h)))))))))
theorem inlX1 : ∀ w ∈ wsX10, w ∈ wsL_law := fun _ h => List.mem_append_left _ (List.mem_append_left _ (List.mem_append_left _ (List.mem_append_right _ h)))
theorem inlX2 : ∀ w ∈ wsX20, w ∈ wsL_law := fun _ h => List.mem_append_left _ (List.mem_append_left _ (List.mem_append_left _ (List.mem_append_left _ (List.mem_append_left _ (List.mem_append_left _ (List.mem_append_left _ (List.mem_append_left _ (List.mem_append_right _ h))))))))
theorem inlX3 : ∀ w ∈ wsX30, w ∈ wsL_law := fun _ h => List.mem_append_left _ (List.mem_append_left _ (List.mem_append_left _ (List.mem_append_left _ (List.mem_append_right _ h))))
theorem inlX4 : ∀ w ∈ wsX40, w ∈ wsL_law := fun _ h => List.mem_append_left _ (List.mem_append_right _ h)
theorem inlX5 : ∀ w ∈ wsX50, w ∈ wsL_law := fun _ h => List.mem_append_left _ (List.mem_append_left _ (List.mem_append_left _ (List.mem_append_left _ (List.mem_append_left _ (List.mem_append_left _ (List.mem_append_right _ h))))))
theorem inlX6 : ∀ w ∈ wsX60, w ∈ wsL_law := fun _ h => List.mem_append_left _ (List.mem_append_left _ (List.mem_append_left _ (List.mem_append_left _ (List.mem_append_left _ (List.mem_append_right _ h)))))
theorem inlX7 : ∀ w ∈ wsX70, w ∈ wsL_law := fun _ h => List.mem_append_left _ (List.mem_append_left _ (List.mem_append_left _ (List.mem_append_left _ (List.mem_append_left _ (List.mem_append_left _ (List.mem_append_left _ (List.mem_append_right _ h)))))))
theorem inlX8 : ∀ w ∈ wsX80, w ∈ wsL_law := fun _ h => List.mem_append_left _ (List.mem_append_left _ (List.mem_append_right _ h))
theorem inlX9 : ∀ w ∈ wsX90, w ∈ wsL_law := fun _ h => List.mem_append_left _ (List.mem_append_left _ (List.mem_append_left _ (List.mem_append_left _ (List.mem_append_left _ (List.mem_append_left _ (List.mem_append_left _ (List.mem_append_left _ (List.mem_append_left _ (List.mem_append_left _ (List.mem_append_left _ (List.mem_append_right _ h)))))))))))
theorem inlX10 : ∀ w ∈ wsX100, w ∈ wsL_law := fun _ h => List.mem_append_left _ (List.mem_append_left _ (List.mem_append_left _ (List.mem_append_left _ (List.mem_append_left _ (List.mem_append_left _ (List.mem_append_left _ (List.mem_append_left _ (List.mem_append_left _ (List.mem_append_left _ (List.mem_append_right _ h))))))))))
theorem in_r1 : ∀ w ∈ wsL_law_r1, w ∈ wsL_law := fun _ h => (List.mem_append_left _ (List.mem_append_left _ (List.mem_append_left _ (List.mem_append_left _ (List.mem_append_left _ (List.mem_append_left _ (List.mem_append_left _ (List.mem_append_left _ (List.mem_append_left _ (List.mem_append_left _ (List.mem_append_left _ (List.mem_append_left _ (List.mem_append_left _ h)))))))))))))
theorem in_r2 : ∀ w ∈ wsL_law_r2, w ∈ wsL_law := fun _ h => (List.mem_append_left _ (List.mem_append_left _ (List.mem_append_left _ (List.mem_append_left _ (List.mem_append_left _ (List.mem_append_left _ (List.mem_append_left _ (List.mem_append_left _ (List.mem_append_left _ (List.mem_append_left _ (List.mem_append_left _ (List.mem_append_left _ (List.mem_append_right _ (List.mem_append_left _ h))))))))))))))
theorem in_r3 : ∀ w ∈ wsL_law_r3, w ∈ wsL_law := fun _ h => (List.mem_append_left _ (List.mem_append_left _ (List.mem_append_left _ (List.mem_append_left _ (List.mem_append_left _ (List.mem_append_left _ (List.mem_append_left _ (List.mem_append_left _ (List.mem_append_left _ (List.mem_append_left _ (List.mem_append_left _ (List.mem_append_left _ (List.mem_append_right _ (List.mem_append_right _ (List.mem_append_left _ h)))))))))))))))
theorem in_r4 : ∀ w ∈ wsL_law_r4, w ∈ wsL_law := fun _ h => (List.mem_append_left _ (List.mem_append_left _ (List.mem_append_left _ (List.mem_append_left _ (List.mem_append_left _ (List.mem_append_left _ (List.mem_append_left _ (List.mem_append_left _ (List.mem_append_left _ (List.mem_append_left _ (List.mem_append_left _ (List.mem_append_left _ (List.mem_append_right _ (List.mem_append_right _ (List.mem_append_right _ (List.mem_append_left _ h))))))))))))))))
theorem in_r5 : ∀ w ∈ wsL_law_r5, w ∈ wsL_law := fun _ h => (List.mem_append_left _ (List.mem_append_left _ (List.mem_append_left _ (List.mem_append_left _ (List.mem_append_left _ (List.mem_append_left _ (List.mem_append_left _ (List.mem_append_left _ (List.mem_append_left _ (List.mem_append_left _ (List.mem_append_left _ (List.mem_append_left _ (List.mem_append_right _ (List.mem_append_right _ (List.mem_append_right _ (List.mem_append_right _ (List.mem_append_left _ h)))))))))))))))))
theorem in_r6 : ∀ w ∈ wsL_law_r6, w ∈ wsL_law := fun _ h => (List.mem_append_left _ (List.mem_append_left _ (List.mem_append_left _ (List.mem_append_left _ (List.mem_append_left _ (List.mem_append_left _ (List.mem_append_left _ (List.mem_append_left _ (List.mem_append_left _ (List.mem_append_left _ (List.mem_append_left _ (List.mem_append_left _ (List.mem_append_right _ (List.mem_append_right _ (List.mem_append_right _ (List.mem_append_right _ (List.mem_append_right _ (List.mem_append_left _ h))))))))))))))))))
theorem in_r7 : ∀ w ∈ wsL_law_r7, w ∈ wsL_law := fun _ h => (List.mem_append_left _ (List.mem_append_left _ (List.mem_append_left _ (List.mem_append_left _ (List.mem_append_left _ (List.mem_append_left _ (List.mem_append_left _ (List.mem_append_left _ (List.mem_append_left _ (List.mem_append_left _ (List.mem_append_left _ (List.mem_append_left _ (List.mem_append_right _ (List.mem_append_right _ (List.mem_append_right _ (List.mem_append_right _ (List.mem_append_right _ (List.mem_append_right _ (List.mem_append_left _ h)))))))))))))))))))
theorem in_r8 : ∀ w ∈ wsL_law_r8, w ∈ wsL_law := fun _ h => (List.mem_append_left _ (List.mem_append_left _ (List.mem_append_left _ (List.mem_append_left _ (List.mem_append_left _ (List.mem_append_left _ (List.mem_append_left _ (List.mem_append_left _ (List.mem_append_left _ (List.mem_append_left _ (List.mem_append_left _ (List.mem_append_left _ (List.mem_append_right _ (List.mem_append_right _ (List.mem_append_right _ (List.mem_append_right _ (List.mem_append_right _ (List.mem_append_right _ (List.mem_append_right _ (List.mem_append_left _ h))))))))))))))))))))
theorem in_r9 : ∀ w ∈ wsL_law_r9, w ∈ wsL_law := fun _ h => (List.mem_append_left _ (List.mem_append_left _ (List.mem_append_left _ (List.mem_append_left _ (List.mem_append_left _ (List.mem_append_left _ (List.mem_append_left _ (List.mem_append_left _ (List.mem_append_left _ (List.mem_append_left _ (List.mem_append_left _ (List.mem_append_left _ (List.mem_append_right _ (List.mem_append_right _ (List.mem_append_right _ (List.mem_append_right _ (List.mem_append_right _ (List.mem_append_right _ (List.mem_append_right _ (List.mem_append_right _ (List.mem_append_left _ h)))))))))))))))))))))
theorem in_r10 : ∀ w ∈ wsL_law_r10, w ∈ wsL_law := fun _ h => (List.mem_append_left _ (List.mem_append_left _ (List.mem_append_left _ (List.mem_append_left _ (List.mem_append_left _ (List.mem_append_left _ (List.mem_append_left _ (List.mem_append_left _ (List.mem_append_left _ (List.mem_append_left _ (List.mem_append_left _ (List.mem_append_left _ (List.mem_append_right _ (List.mem_append_right _ (List.mem_append_right _ (List.mem_append_right _ (List.mem_append_right _ (List.mem_append_right _ (List.mem_append_right _ (List.mem_append_right _ (List.mem_append_right _ (List.mem_append_left _ h))))))))))))))))))))))
theorem in_r11 : ∀ w ∈ wsL_law_r11, w ∈ wsL_law := fun _ h => (List.mem_append_left _ (List.mem_append_left _ (List.mem_append_left _ (List.mem_append_left _ (List.mem_append_left _ (List.mem_append_left _ (List.mem_append_left _ (List.mem_append_left _ (List.mem_append_left _ (List.mem_append_left _ (List.mem_append_left _ (List.mem_append_left _ (List.mem_append_right _ (List.mem_append_right _ (List.mem_append_right _ (List.mem_append_right _ (List.mem_append_right _ (List.mem_append_right _ (List.mem_append_right _ (List.mem_append_right _ (List.mem_append_right _ (List.mem_append_right _ (List.mem_append_left _ h)))))))))))))))))))))))
theorem in_r12 : ∀ w ∈ wsL_law_r12, w ∈ wsL_law := fun _ h => (List.mem_append_left _ (List.mem_append_left _ (List.mem_append_left _ (List.mem_append_left _ (List.mem_append_left _ (List.mem_append_left _ (List.mem_append_left _ (List.mem_append_left _ (List.mem_append_left _ (List.mem_append_left _ (List.mem_append_left _ (List.mem_append_left _ (List.mem_append_right _ (List.mem_append_right _ (List.mem_append_right _ (List.mem_append_right _ (List.mem_append_right _ (List.mem_append_right _ (List.mem_append_right _ (List.mem_append_right _ (List.mem_append_right _ (List.mem_append_right _ (List.mem_append_right _ (List.mem_append_left _ h))))))))))))))))))))))))
theorem in_r13 : ∀ w ∈ wsL_law_r13, w ∈ wsL_law := fun _ h => (List.mem_append_left _ (List.mem_append_left _ (List.mem_append_left _ (List.mem_append_left _ (List.mem_append_left _ (List.mem_append_left _ (List.mem_append_left _ (List.mem_append_left _ (List.mem_append_left _ (List.mem_append_left _ (List.mem_append_left _ (List.mem_append_left _ (List.mem_append_right _ (List.mem_append_right _ (List.mem_append_right _ (List.mem_append_right _ (List.mem_append_right _ (List.mem_append_right _ (List.mem_append_right _ (List.mem_append_right _ (List.mem_append_right _ (List.mem_append_right _ (List.mem_append_right _ (List.mem_append_right _ (List.mem_append_left _ h)))))))))))))))))))))))))
theorem in_r14 : ∀ w ∈ wsL_law_r14, w ∈ wsL_law := fun _ h => (List.mem_append_left _ (List.mem_append_left _ (List.mem_append_left _ (List.mem_append_left _ (List.mem_append_left _ (List.mem_append_left _ (List.mem_append_left _ (List.mem_append_left _ (List.mem_append_left _ (List.mem_append_left _ (List.mem_append_left _ (List.mem_append_left _ (List.mem_append_right _ (List.mem_append_right _ (List.mem_append_right _ (List.mem_append_right _ (List.mem_append_right _ (List.mem_append_right _ (List.mem_append_right _ (List.mem_append_right _ (List.mem_append_right _ (List.mem_append_right _ (List.mem_append_right _ (List.mem_append_right _ (List.mem_append_right _ (List.mem_append_left _ h))))))))))))))))))))))))))
theorem in_r15 : ∀ w ∈ wsL_law_r15, w ∈ wsL_law := fun _ h => (List.mem_append_left _ (List.mem_append_left _ (List.mem_append_left _ (List.mem_append_left _ (List.mem_append_left _ (List.mem_append_left _ (List.mem_append_left _ (List.mem_append_left _ (List.mem_append_left _ (List.mem_append_left _ (List.mem_append_left _ (List.mem_append_left _ (List.mem_append_right _ (List.mem_append_right _ (List.mem_append_right _ (List.mem_append_right _ (List.mem_append_right _ (List.mem_append_right _ (List.mem_append_right _ (List.mem_append_right _ (List.mem_append_right _ (List.mem_append_right _ (List.mem_append_right _ (List.mem_append_right _ (List.mem_append_right _ (List.mem_append_right _ (List.mem_append_left _ h)))))))))))))))))))))))))))
theorem in_r16 : ∀ w ∈ wsL_law_r16, w ∈ wsL_law := fun _ h => (List.mem_append_left _ (List.mem_append_left _ (List.mem_append_left _ (List.mem_append_left _ (List.mem_append_left _ (List.mem_append_left _ (List.mem_append_left _ (List.mem_append_left _ (List.mem_append_left _ (List.mem_append_left _ (List.mem_append_left _ (List.mem_append_left _ (List.mem_append_right _ (List.mem_append_right _ (List.mem_append_right _ (List.mem_append_right _ (List.mem_append_right _ (List.mem_append_right _ (List.mem_append_right _ (List.mem_append_right _ (List.mem_append_right _ (List.mem_append_right _ (List.mem_append_right _ (List.mem_append_right _ (List.mem_append_right _ (List.mem_append_right _ (List.mem_append_right _ (List.mem_append_left _ h))))))))))))))))))))))))))))
theorem in_r17 : ∀ w ∈ wsL_law_r17, w ∈ wsL_law := fun _ h => (List.mem_append_left _ (List.mem_append_left _ (List.mem_append_left _ (List.mem_append_left _ (List.mem_append_left _ (List.mem_append_left _ (List.mem_append_left _ (List.mem_append_left _ (List.mem_append_left _ (List.mem_append_left _ (List.mem_append_left _ (List.mem_append_left _ (List.mem_append_right _ (List.mem_append_right _ (List.mem_append_right _ (List.mem_append_right _ (List.mem_append_right _ (List.mem_append_right _ (List.mem_append_right _ (List.mem_append_right _ (List.mem_append_right _ (List.mem_append_right _ (List.mem_append_right _ (List.mem_append_right _ (List.mem_append_right _ (List.mem_append_right _ (List.mem_append_right _ (List.mem_append_right _ (List.mem_append_left _ h)))))))))))))))))))))))))))))
theorem in_r18 : ∀ w ∈ wsL_law_r18, w ∈ wsL_law := fun _ h => (List.mem_append_left _ (List.mem_append_left _ (List.mem_append_left _ (List.mem_append_left _ (List.mem_append_left _ (List.mem_append_left _ (List.mem_append_left _ (List.mem_append_left _ (List.mem_append_left _ (List.mem_append_left _ (List.mem_append_left _ (List.mem_append_left _ (List.mem_append_right _ (List.mem_append_right _ (List.mem_append_right _ (List.mem_append_right _ (List.mem_append_right _ (List.mem_append_right _ (List.mem_append_right _ (List.mem_append_right _ (List.mem_append_right _ (List.mem_append_right _ (List.mem_append_right _ (List.mem_append_right _ (List.mem_append_right _ (List.mem_append_right _ (List.mem_append_right _ (List.mem_append_right _ (List.mem_append_right _ (List.mem_append_left _ h))))))))))))))))))))))))))))))
theorem in_r19 : ∀ w ∈ wsL_law_r19, w ∈ wsL_law := fun _ h => (List.mem_append_left _ (List.mem_append_left _ (List.mem_append_left _ (List.mem_append_left _ (List.mem_append_left _ (List.mem_append_left _ (List.mem_append_left _ (List.mem_append_left _ (List.mem_append_left _ (List.mem_append_left _ (List.mem_append_left _ (List.mem_append_left _ (List.mem_append_right _ (List.mem_append_right _ (List.mem_append_right _ (List.mem_append_right _ (List.mem_append_right _ (List.mem_append_right _ (List.mem_append_right _ (List.mem_append_right _ (List.mem_append_right _ (List.mem_append_right _ (List.mem_append_right _ (List.mem_append_right _ (List.mem_append_right _ (List.mem_append_right _ (List.mem_append_right _ (List.mem_append_right _ (List.mem_append_right _ (List.mem_append_right _ (List.mem_append_left _ h)))))))))))))))))))))))))))))))
theorem in_r20 : ∀ w ∈ wsL_law_r20, w ∈ wsL_law := fun _ h => (List.mem_append_left _ (List.mem_append_left _ (List.mem_append_left _ (List.mem_append_left _ (List.mem_append_left _ (List.mem_append_left _ (List.mem_append_left _ (List.mem_append_left _ (List.mem_append_left _ (List.mem_append_left _ (List.mem_append_left _ (List.mem_append_left _ (List.mem_append_right _ (List.mem_append_right _ (List.mem_append_right _ (List.mem_append_right _ (List.mem_append_right _ (List.mem_append_right _ (List.mem_append_right _ (List.mem_append_right _ (List.mem_append_right _ (List.mem_append_right _ (List.mem_append_right _ (List.mem_append_right _ (List.mem_append_right _ (List.mem_append_right _ (List.mem_append_right _ (List.mem_append_right _ (List.mem_append_right _ (List.mem_append_right _ (List.mem_append_right _ (List.mem_append_left _ h))))))))))))))))))))))))))))))))
theorem in_r21 : ∀ w ∈ wsL_law_r21, w ∈ wsL_law := fun _ h => (List.mem_append_left _ (List.mem_append_left _ (List.mem_append_left _ (List.mem_append_left _ (List.mem_append_left _ (List.mem_append_left _ (List.mem_append_left _ (List.mem_append_left _ (List.mem_append_left _ (List.mem_append_left _ (List.mem_append_left _ (List.mem_append_left _ (List.mem_append_right _ (List.mem_append_right _ (List.mem_append_right _ (List.mem_append_right _ (List.mem_append_right _ (List.mem_append_right _ (List.mem_append_right _ (List.mem_append_right _ (List.mem_append_right _ (List.mem_append_right _ (List.mem_append_right _ (List.mem_append_right _ (List.mem_append_right _ (List.mem_append_right _ (List.mem_append_right _ (List.mem_append_right _ (List.mem_append_right _ (List.mem_append_right _ (List.mem_append_right _ (List.mem_append_right _ (List.mem_append_left _ h)))))))))))))))))))))))))))))))))
theorem in_r22 : ∀ w ∈ wsL_law_r22, w ∈ wsL_law := fun _ h => (List.mem_append_left _ (List.mem_append_left _ (List.mem_append_left _ (List.mem_append_left _ (List.mem_append_left _ (List.mem_append_left _ (List.mem_append_left _ (List.mem_append_left _ (List.mem_append_left _ (List.mem_append_left _ (List.mem_append_left _ (List.mem_append_left _ (List.mem_append_right _ (List.mem_append_right _ (List.mem_append_right _ (List.mem_append_right _ (List.mem_append_right _ (List.mem_append_right _ (List.mem_append_right _ (List.mem_append_right _ (List.mem_append_right _ (List.mem_append_right _ (List.mem_append_right _ (List.mem_append_right _ (List.mem_append_right _ (List.mem_append_right _ (List.mem_append_right _ (List.mem_append_right _ (List.mem_append_right _ (List.mem_append_right _ (List.mem_append_right _ (List.mem_append_right _ (List.mem_append_right _ (List.mem_append_left _ h))))))))))))))))))))))))))))))))))
theorem in_r23 : ∀ w ∈ wsL_law_r23, w ∈ wsL_law := fun _ h => (List.mem_append_left _ (List.mem_append_left _ (List.mem_append_left _ (List.mem_append_left _ (List.mem_append_left _ (List.mem_append_left _ (List.mem_append_left _ (List.mem_append_left _ (List.mem_append_left _ (List.mem_append_left _ (List.mem_append_left _ (List.mem_append_left _ (List.mem_append_right _ (List.mem_append_right _ (List.mem_append_right _ (List.mem_append_right _ (List.mem_append_right _ (List.mem_append_right _ (List.mem_append_right _ (List.mem_append_right _ (List.mem_append_right _ (List.mem_append_right _ (List.mem_append_right _ (List.mem_append_right _ (List.mem_append_right _ (List.mem_append_right _ (List.mem_append_right _ (List.mem_append_right _ (List.mem_append_right _ (List.mem_append_right _ (List.mem_append_right _ (List.mem_append_right _ (List.mem_append_right _ (List.mem_append_right _ (List.mem_append_left _ h)))))))))))))))))))))))))))))))))))
theorem in_r24 : ∀ w ∈ wsL_law_r24, w ∈ wsL_law := fun _ h => (List.mem_append_left _ (List.mem_append_left _ (List.mem_append_left _ (List.mem_append_left _ (List.mem_append_left _ (List.mem_append_left _ (List.mem_append_left _ (List.mem_append_left _ (List.mem_append_left _ (List.mem_append_left _ (List.mem_append_left _ (List.mem_append_left _ (List.mem_append_right _ (List.mem_append_right _ (List.mem_append_right _ (List.mem_append_right _ (List.mem_append_right _ (List.mem_append_right _ (List.mem_append_right _ (List.mem_append_right _ (List.mem_append_right _ (List.mem_append_right _ (List.mem_append_right _ (List.mem_append_right _ (List.mem_append_right _ (List.mem_append_right _ (List.mem_append_right _ (List.mem_append_right _ (List.mem_append_right _ (List.mem_append_right _ (List.mem_append_right _ (List.mem_append_right _ (List.mem_append_right _ (List.mem_append_right _ (List.mem_append_right _ (List.mem_append_left _ h))))))))))))))))))))))))))))))))))))
theorem in_r25 : ∀ w ∈ wsL_law_r25, w ∈ wsL_law := fun _ h => (List.mem_append_left _ (List.mem_append_left _ (List.mem_append_left _ (List.mem_append_left _ (List.mem_append_left _ (List.mem_append_left _ (List.mem_append_left _ (List.mem_append_left _ (List.mem_append_left _ (List.mem_append_left _ (List.mem_append_left _ (List.mem_append_left _ (List.mem_append_right _ (List.mem_append_right _ (List.mem_append_right _ (List.mem_append_right _ (List.mem_append_right _ (List.mem_append_right _ (List.mem_append_right _ (List.mem_append_right _ (List.mem_append_right _ (List.mem_append_right _ (List.mem_append_right _ (List.mem_append_right _ (List.mem_append_right _ (List.mem_append_right _ (List.mem_append_right _ (List.mem_append_right _ (List.mem_append_right _ (List.mem_append_right _ (List.mem_append_right _ (List.mem_append_right _ (List.mem_append_right _ (List.mem_append_right _ (List.mem_append_right _ (List.mem_append_right _ (List.mem_append_left _ h)))))))))))))))))))))))))))))))))))))
theorem in_r26 : ∀ w ∈ wsL_law_r26, w ∈ wsL_law := fun _ h => (List.mem_append_left _ (List.mem_append_left _ (List.mem_append_left _ (List.mem_append_left _ (List.mem_append_left _ (List.mem_append_left _ (List.mem_append_left _ (List.mem_append_left _ (List.mem_append_left _ (List.mem_append_left _ (List.mem_append_left _ (List.mem_append_left _ (List.mem_append_right _ (List.mem_append_right _ (List.mem_append_right _ (List.mem_append_right _ (List.mem_append_right _ (List.mem_append_right _ (List.mem_append_right _ (List.mem_append_right _ (List.mem_append_right _ (List.mem_append_right _ (List.mem_append_right _ (List.mem_append_right _ (List.mem_append_right _ (List.mem_append_right _ (List.mem_append_right _ (List.mem_append_right _ (List.mem_append_right _ (List.mem_append_right _ (List.mem_append_right _ (List.mem_append_right _ (List.mem_append_right _ (List.mem_append_right _ (List.mem_append_right _ (List.mem_append_right _ (List.mem_append_right _ (List.mem_append_left _ h))))))))))))))))))))))))))))))))))))))
theorem in_r27 : ∀ w ∈ wsL_law_r27, w ∈ wsL_law := fun _ h => (List.mem_append_left _ (List.mem_append_left _ (List.mem_append_left _ (List.mem_append_left _ (List.mem_append_left _ (List.mem_append_left _ (List.mem_append_left _ (List.mem_append_left _ (List.mem_append_left _ (List.mem_append_left _ (List.mem_append_left _ (List.mem_append_left _ (List.mem_append_right _ (List.mem_append_right _ (List.mem_append_right _ (List.mem_append_right _ (List.mem_append_right _ (List.mem_append_right _ (List.mem_append_right _ (List.mem_append_right _ (List.mem_append_right _ (List.mem_append_right _ (List.mem_append_right _ (List.mem_append_right _ (List.mem_append_right _ (List.mem_append_right _ (List.mem_append_right _ (List.mem_append_right _ (List.mem_append_right _ (List.mem_append_right _ (List.mem_append_right _ (List.mem_append_right _ (List.mem_append_right _ (List.mem_append_right _ (List.mem_append_right _ (List.mem_append_right _ (List.mem_append_right _ (List.mem_append_right _ (List.mem_append_left _ h)))))))))))))))))))))))))))))))))))))))
theorem in_r28 : ∀ w ∈ wsL_law_r28, w ∈ wsL_law := fun _ h => (List.mem_append_left _ (List.mem_append_left _ (List.mem_append_left _ (List.mem_append_left _ (List.mem_append_left _ (List.mem_append_left _ (List.mem_append_left _ (List.mem_append_left _ (List.mem_append_left _ (List.mem_append_left _ (List.mem_append_left _ (List.mem_append_left _ (List.mem_append_right _ (List.mem_append_right _ (List.mem_append_right _ (List.mem_append_right _ (List.mem_append_right _ (List.mem_append_right _ (List.mem_append_right _ (List.mem_append_right _ (List.mem_append_right _ (List.mem_append_right _ (List.mem_append_right _ (List.mem_append_right _ (List.mem_append_right _ (List.mem_append_right _ (List.mem_append_right _ (List.mem_append_right _ (List.mem_append_right _ (List.mem_append_right _ (List.mem_append_right _ (List.mem_append_right _ (List.mem_append_right _ (List.mem_append_right _ (List.mem_append_right _ (List.mem_append_right _ (List.mem_append_right _ (List.mem_append_right _ (List.mem_append_right _ (List.mem_append_left _ h))))))))))))))))))))))))))))))))))))))))
theorem in_r29 : ∀ w ∈ wsL_law_r29, w ∈ wsL_law := fun _ h => (List.mem_append_left _ (List.mem_append_left _ (List.mem_append_left _ (List.mem_append_left _ (List.mem_append_left _ (List.mem_append_left _ (List.mem_append_left _ (List.mem_append_left _ (List.mem_append_left _ (List.mem_append_left _ (List.mem_append_left _ (List.mem_append_left _ (List.mem_append_right _ (List.mem_append_right _ (List.mem_append_right _ (List.mem_append_right _ (List.mem_append_right _ (List.mem_append_right _ (List.mem_append_right _ (List.mem_append_right _ (List.mem_append_right _ (List.mem_append_right _ (List.mem_append_right _ (List.mem_append_right _ (List.mem_append_right _ (List.mem_append_right _ (List.mem_append_right _ (List.mem_append_right _ (List.mem_append_right _ (List.mem_append_right _ (List.mem_append_right _ (List.mem_append_right _ (List.mem_append_right _ (List.mem_append_right _ (List.mem_append_right _ (List.mem_append_right _ (List.mem_append_right _ (List.mem_append_right _ (List.mem_append_right _ (List.mem_append_right _ (List.mem_append_left _ h)))))))))))))))))))))))))))))))))))))))))
theorem in_r30 : ∀ w ∈ wsL_law_r30, w ∈ wsL_law := fun _ h => (List.mem_append_left _ (List.mem_append_left _ (List.mem_append_left _ (List.mem_append_left _ (List.mem_append_left _ (List.mem_append_left _ (List.mem_append_left _ (List.mem_append_left _ (List.mem_append_left _ (List.mem_append_left _ (List.mem_append_left _ (List.mem_append_left _ (List.mem_append_right _ (List.mem_append_right _ (List.mem_append_right _ (List.mem_append_right _ (List.mem_append_right _ (List.mem_append_right _ (List.mem_append_right _ (List.mem_append_right _ (List.mem_append_right _ (List.mem_append_right _ (List.mem_append_right _ (List.mem_append_right _ (List.mem_append_right _ (List.mem_append_right _ (List.mem_append_right _ (List.mem_append_right _ (List.mem_append_right _ (List.mem_append_right _ (List.mem_append_right _ (List.mem_append_right _ (List.mem_append_right _ (List.mem_append_right _ (List.mem_append_right _ (List.mem_append_right _ (List.mem_append_right _ (List.mem_append_right _ (List.mem_append_right _ (List.mem_append_right _ (List.mem_append_right _ (List.mem_append_left _ h))))))))))))))))))))))))))))))))))))))))))
theorem in_r31 : ∀ w ∈ wsL_law_r31, w ∈ wsL_law := fun _ h => (List.mem_append_left _ (List.mem_append_left _ (List.mem_append_left _ (List.mem_append_left _ (List.mem_append_left _ (List.mem_append_left _ (List.mem_append_left _ (List.mem_append_left _ (List.mem_append_left _ (List.mem_append_left _ (List.mem_append_left _ (List.mem_append_left _ (List.mem_append_right _ (List.mem_append_right _ (List.mem_append_right _ (List.mem_append_right _ (List.mem_append_right _ (List.mem_append_right _ (List.mem_append_right _ (List.mem_append_right _ (List.mem_append_right _ (List.mem_append_right _ (List.mem_append_right _ (List.mem_append_right _ (List.mem_append_right _ (List.mem_append_right _ (List.mem_append_right _ (List.mem_append_right _ (List.mem_append_right _ (List.mem_append_right _ (List.mem_append_right _ (List.mem_append_right _ (List.mem_append_right _ (List.mem_append_right _ (List.mem_append_right _ (List.mem_append_right _ (List.mem_append_right _ (List.mem_append_right _ (List.mem_append_right _ (List.mem_append_right _ (List.mem_append_right _ (List.mem_append_right _ (List.mem_append_left _ h)))))))))))))))))))))))))))))))))))))))))))
theorem in_r32 : ∀ w ∈ wsL_law_r32, w ∈ wsL_law := fun _ h => (List.mem_append_left _ (List.mem_append_left _ (List.mem_append_left _ (List.mem_append_left _ (List.mem_append_left _ (List.mem_append_left _ (List.mem_append_left _ (List.mem_append_left _ (List.mem_append_left _ (List.mem_append_left _ (List.mem_append_left _ (List.mem_append_left _ (List.mem_append_right _ (List.mem_append_right _ (List.mem_append_right _ (List.mem_append_right _ (List.mem_append_right _ (List.mem_append_right _ (List.mem_append_right _ (List.mem_append_right _ (List.mem_append_right _ (List.mem_append_right _ (List.mem_append_right _ (List.mem_append_right _ (List.mem_append_right _ (List.mem_append_right _ (List.mem_append_right _ (List.mem_append_right _ (List.mem_append_right _ (List.mem_append_right _ (List.mem_append_right _ (List.mem_append_right _ (List.mem_append_right _ (List.mem_append_right _ (List.mem_append_right _ (List.mem_append_right _ (List.mem_append_right _ (List.mem_append_right _ (List.mem_append_right _ (List.mem_append_right _ (List.mem_append_right _ (List.mem_append_right _ (List.mem_append_right _ (List.mem_append_left _ h))))))))))))))))))))))))))))))))))))))))))))
theorem in_r33 : ∀ w ∈ wsL_law_r33, w ∈ wsL_law := fun _ h => (List.mem_append_left _ (List.mem_append_left _ (List.mem_append_left _ (List.mem_append_left _ (List.mem_append_left _ (List.mem_append_left _ (List.mem_append_left _ (List.mem_append_left _ (List.mem_append_left _ (List.mem_append_left _ (List.mem_append_left _ (List.mem_append_left _ (List.mem_append_right _ (List.mem_append_right _ (List.mem_append_right _ (List.mem_append_right _ (List.mem_append_right _ (List.mem_append_right _ (List.mem_append_right _ (List.mem_append_right _ (List.mem_append_right _ (List.mem_append_right _ (List.mem_append_right _ (List.mem_append_right _ (List.mem_append_right _ (List.mem_append_right _ (List.mem_append_right _ (List.mem_append_right _ (List.mem_append_right _ (List.mem_append_right _ (List.mem_append_right _ (List.mem_append_right _ (List.mem_append_right _ (List.mem_append_right _ (List.mem_append_right _ (List.mem_append_right _ (List.mem_append_right _ (List.mem_append_right _ (List.mem_append_right _ (List.mem_append_right _ (List.mem_append_right _ (List.mem_append_right _ (List.mem_append_right _ (List.mem_append_right _ (List.mem_append_left _ h)))))))))))))))))))))))))))))))))))))))))))))
theorem in_r34 : ∀ w ∈ wsL_law_r34, w ∈ wsL_law := fun _ h => (List.mem_append_left _ (List.mem_append_left _ (List.mem_append_left _ (List.mem_append_left _ (List.mem_append_left _ (List.mem_append_left _ (List.mem_append_left _ (List.mem_append_left _ (List.mem_append_left _ (List.mem_append_left _ (List.mem_append_left _ (List.mem_append_left _ (List.mem_append_right _ (List.mem_append_right _ (List.mem_append_right _ (List.mem_append_right _ (List.mem_append_right _ (List.mem_append_right _ (List.mem_append_right _ (List.mem_append_right _ (List.mem_append_right _ (List.mem_append_right _ (List.mem_append_right _ (List.mem_append_right _ (List.mem_append_right _ (List.mem_append_right _ (List.mem_append_right _ (List.mem_append_right _ (List.mem_append_right _ (List.mem_append_right _ (List.mem_append_right _ (List.mem_append_right _ (List.mem_append_right _ (List.mem_append_right _ (List.mem_append_right _ (List.mem_append_right _ (List.mem_append_right _ (List.mem_append_right _ (List.mem_append_right _ (List.mem_append_right _ (List.mem_append_right _ (List.mem_append_right _ (List.mem_append_right _ (List.mem_append_right _ (List.mem_append_right _ (List.mem_append_left _ h))))))))))))))))))))))))))))))))))))))))))))))
theorem in_r35 : ∀ w ∈ wsL_law_r35, w ∈ wsL_law := fun _ h => (List.mem_append_left _ (List.mem_append_left _ (List.mem_append_left _ (List.mem_append_left _ (List.mem_append_left _ (List.mem_append_left _ (List.mem_append_left _ (List.mem_append_left _ (List.mem_append_left _ (List.mem_append_left _ (List.mem_append_left _ (List.mem_append_left _ (List.mem_append_right _ (List.mem_append_right _ (List.mem_append_right _ (List.mem_append_right _ (List.mem_append_right _ (List.mem_append_right _ (List.mem_append_right _ (List.mem_append_right _ (List.mem_append_right _ (List.mem_append_right _ (List.mem_append_right _ (List.mem_append_right _ (List.mem_append_right _ (List.mem_append_right _ (List.mem_append_right _ (List.mem_append_right _ (List.mem_append_right _ (List.mem_append_right _ (List.mem_append_right _ (List.mem_append_right _ (List.mem_append_right _ (List.mem_append_right _ (List.mem_append_right _ (List.mem_append_right _ (List.mem_append_right _ (List.mem_append_right _ (List.mem_append_right _ (List.mem_append_right _ (List.mem_append_right _ (List.mem_append_right _ (List.mem_append_right _ (List.mem_append_right _ (List.mem_append_right _ (List.mem_append_right _ (List.mem_append_left _ h)))))))))))))))))))))))))))))))))))))))))))))))
theorem in_r36 : ∀ w ∈ wsL_law_r36, w ∈ wsL_law := fun _ h => (List.mem_append_left _ (List.mem_append_left _ (List.mem_append_left _ (List.mem_append_left _ (List.mem_append_left _ (List.mem_append_left _ (List.mem_append_left _ (List.mem_append_left _ (List.mem_append_left _ (List.mem_append_left _ (List.mem_append_left _ (List.mem_append_left _ (List.mem_append_right _ (List.mem_append_right _ (List.mem_append_right _ (List.mem_append_right _ (List.mem_append_right _ (List.mem_append_right _ (List.mem_append_right _ (List.mem_append_right _ (List.mem_append_right _ (List.mem_append_right _ (List.mem_append_right _ (List.mem_append_right _ (List.mem_append_right _ (List.mem_append_right _ (List.mem_append_right _ (List.mem_append_right _ (List.mem_append_right _ (List.mem_append_right _ (List.mem_append_right _ (List.mem_append_right _ (List.mem_append_right _ (List.mem_append_right _ (List.mem_append_right _ (List.mem_append_right _ (List.mem_append_right _ (List.mem_append_right _ (List.mem_append_right _ (List.mem_append_right _ (List.mem_append_right _ (List.mem_append_right _ (List.mem_append_right _ (List.mem_append_right _ (List.mem_append_right _ (List.mem_append_right _ (List.mem_append_right _ (List.mem_append_left _ h))))))))))))))))))))))))))))))))))))))))))))))))
theorem in_r37 : ∀ w ∈ wsL_law_r37, w ∈ wsL_law := fun _ h => (List.mem_append_left _ (List.mem_append_left _ (List.mem_append_left _ (List.mem_append_left _ (List.mem_append_left _ (List.mem_append_left _ (List.mem_append_left _ (List.mem_append_left _ (List.mem_append_left _ (List.mem_append_left _ (List.mem_append_left _ (List.mem_append_left _ (List.mem_append_right _ (List.mem_append_right _ (List.mem_append_right _ (List.mem_append_right _ (List.mem_append_right _ (List.mem_append_right _ (List.mem_append_right _ (List.mem_append_right _ (List.mem_append_right _ (List.mem_append_right _ (List.mem_append_right _ (List.mem_append_right _ (List.mem_append_right _ (List.mem_append_right _ (List.mem_append_right _ (List.mem_append_right _ (List.mem_append_right _ (List.mem_append_right _ (List.mem_append_right _ (List.mem_append_right _ (List.mem_append_right _ (List.mem_append_right _ (List.mem_append_right _ (List.mem_append_right _ (List.mem_append_right _ (List.mem_append_right _ (List.mem_append_right _ (List.mem_append_right _ (List.mem_append_right _ (List.mem_append_right _ (List.mem_append_right _ (List.mem_append_right _ (List.mem_append_right _ (List.mem_append_right _ (List.mem_append_right _ (List.mem_append_right _ (List.mem_append_left _ h)))))))))))))))))))))))))))))))))))))))))))))))))
theorem in_r38 : ∀ w ∈ wsL_law_r38, w ∈ wsL_law := fun _ h => (List.mem_append_left _ (List.mem_append_left _ (List.mem_append_left _ (List.mem_append_left _ (List.mem_append_left _ (List.mem_append_left _ (List.mem_append_left _ (List.mem_append_left _ (List.mem_append_left _ (List.mem_append_left _ (List.mem_append_left _ (List.mem_append_left _ (List.mem_append_right _ (List.mem_append_right _ (List.mem_append_right _ (List.mem_append_right _ (List.mem_append_right _ (List.mem_append_right _ (List.mem_append_right _ (List.mem_append_right _ (List.mem_append_right _ (List.mem_append_right _ (List.mem_append_right _ (List.mem_append_right _ (List.mem_append_right _ (List.mem_append_right _ (List.mem_append_right _ (List.mem_append_right _ (List.mem_append_right _ (List.mem_append_right _ (List.mem_append_right _ (List.mem_append_right _ (List.mem_append_right _ (List.mem_append_right _ (List.mem_append_right _ (List.mem_append_right _ (List.mem_append_right _ (List.mem_append_right _ (List.mem_append_right _ (List.mem_append_right _ (List.mem_append_right _ (List.mem_append_right _ (List.mem_append_right _ (List.mem_append_right _ (List.mem_append_right _ (List.mem_append_right _ (List.mem_append_right _ (List.mem_append_right _ (List.mem_append_right _ (List.mem_append_left _ h))))))))))))))))))))))))))))))))))))))))))))))))))
theorem in_r39 : ∀ w ∈ wsL_law_r39, w ∈ wsL_law := fun _ h => (List.mem_append_left _ (List.mem_append_left _ (List.mem_append_left _ (List.mem_append_left _ (List.mem_append_left _ (List.mem_append_left _ (List.mem_append_left _ (List.mem_append_left _ (List.mem_append_left _ (List.mem_append_left _ (List.mem_append_left _ (List.mem_append_left _ (List.mem_append_right _ (List.mem_append_right _ (List.mem_append_right _ (List.mem_append_right _ (List.mem_append_right _ (List.mem_append_right _ (List.mem_append_right _ (List.mem_append_right _ (List.mem_append_right _ (List.mem_append_right _ (List.mem_append_right _ (List.mem_append_right _ (List.mem_append_right _ (List.mem_append_right _ (List.mem_append_right _ (List.mem_append_right _ (List.mem_append_right _ (List.mem_append_right _ (List.mem_append_right _ (List.mem_append_right _ (List.mem_append_right _ (List.mem_append_right _ (List.mem_append_right _ (List.mem_append_right _ (List.mem_append_right _ (List.mem_append_right _ (List.mem_append_right _ (List.mem_append_right _ (List.mem_append_right _ (List.mem_append_right _ (List.mem_append_right _ (List.mem_append_right _ (List.mem_append_right _ (List.mem_append_right _ (List.mem_append_right _ (List.mem_append_right _ (List.mem_append_right _ (List.mem_append_right _ (List.mem_append_left _ h)))))))))))))))))))))))))))))))))))))))))))))))))))
theorem in_r40 : ∀ w ∈ wsL_law_r40, w ∈ wsL_law := fun _ h => (List.mem_append_left _ (List.mem_append_left _ (List.mem_append_left _ (List.mem_append_left _ (List.mem_append_left _ (List.mem_append_left _ (List.mem_append_left _ (List.mem_append_left _ (List.mem_append_left _ (List.mem_append_left _ (List.mem_append_left _ (List.mem_append_left _ (List.mem_append_right _ (List.mem_append_right _ (List.mem_append_right _ (List.mem_append_right _ (List.mem_append_right _ (List.mem_append_right _ (List.mem_append_right _ (List.mem_append_right _ (List.mem_append_right _ (List.mem_append_right _ (List.mem_append_right _ (List.mem_append_right _ (List.mem_append_right _ (List.mem_append_right _ (List.mem_append_right _ (List.mem_append_right _ (List.mem_append_right _ (List.mem_append_right _ (List.mem_append_right _ (List.mem_append_right _ (List.mem_append_right _ (List.mem_append_right _ (List.mem_append_right _ (List.mem_append_right _ (List.mem_append_right _ (List.mem_append_right _ (List.mem_append_right _ (List.mem_append_right _ (List.mem_append_right _ (List.mem_append_right _ (List.mem_append_right _ (List.mem_append_right _ (List.mem_append_right _ (List.mem_append_right _ (List.mem_append_right _ (List.mem_append_right _ (List.mem_append_right _ (List.mem_append_right _ (List.mem_append_right _ (List.mem_append_left _ h))))))))))))))))))))))))))))))))))))))))))))))))))))
theorem in_r41 : ∀ w ∈ wsL_law_r41, w ∈ wsL_law := fun _ h => (List.mem_append_left _ (List.mem_append_left _ (List.mem_append_left _ (List.mem_append_left _ (List.mem_append_left _ (List.mem_append_left _ (List.mem_append_left _ (List.mem_append_left _ (List.mem_append_left _ (List.mem_append_left _ (List.mem_append_left _ (List.mem_append_left _ (List.mem_append_right _ (List.mem_append_right _ (List.mem_append_right _ (List.mem_append_right _ (List.mem_append_right _ (List.mem_append_right _ (List.mem_append_right _ (List.mem_append_right _ (List.mem_append_right _ (List.mem_append_right _ (List.mem_append_right _ (List.mem_append_right _ (List.mem_append_right _ (List.mem_append_right _ (List.mem_append_right _ (List.mem_append_right _ (List.mem_append_right _ (List.mem_append_right _ (List.mem_append_right _ (List.mem_append_right _ (List.mem_append_right _ (List.mem_append_right _ (List.mem_append_right _ (List.mem_append_right _ (List.mem_append_right _ (List.mem_append_right _ (List.mem_append_right _ (List.mem_append_right _ (List.mem_append_right _ (List.mem_append_right _ (List.mem_append_right _ (List.mem_append_right _ (List.mem_append_right _ (List.mem_append_right _ (List.mem_append_right _ (List.mem_append_right _ (List.mem_append_right _ (List.mem_append_right _ (List.mem_append_right _ (List.mem_append_right _ (List.mem_append_left _ h)))))))))))))))))))))))))))))))))))))))))))))))))))))
theorem in_r42 : ∀ w ∈ wsL_law_r42, w ∈ wsL_law := fun _ h => (List.mem_append_left _ (List.mem_append_left _ (List.mem_append_left _ (List.mem_append_left _ (List.mem_append_left _ (List.mem_append_left _ (List.mem_append_left _ (List.mem_append_left _ (List.mem_append_left _ (List.mem_append_left _ (List.mem_append_left _ (List.mem_append_left _ (List.mem_append_right _ (List.mem_append_right _ (List.mem_append_right _ (List.mem_append_right _ (List.mem_append_right _ (List.mem_append_right _ (List.mem_append_right _ (List.mem_append_right _ (List.mem_append_right _ (List.mem_append_right _ (List.mem_append_right _ (List.mem_append_right _ (List.mem_append_right _ (List.mem_append_right _ (List.mem_append_right _ (List.mem_append_right _ (List.mem_append_right _ (List.mem_append_right _ (List.mem_append_right _ (List.mem_append_right _ (List.mem_append_right _ (List.mem_append_right _ (List.mem_append_right _ (List.mem_append_right _ (List.mem_append_right _ (List.mem_append_right _ (List.mem_append_right _ (List.mem_append_right _ (List.mem_append_right _ (List.mem_append_right _ (List.mem_append_right _ (List.mem_append_right _ (List.mem_append_right _ (List.mem_append_right _ (List.mem_append_right _ (List.mem_append_right _ (List.mem_append_right _ (List.mem_append_right _ (List.mem_append_right _ (List.mem_append_right _ (List.mem_append_right _ h)))))))))))))))))))))))))))))))))))))))))))))))))))))
theorem wm_cl_L_7 : (Cond.classLink RL 7 RX9) ∈ wsL_law := in_r1 _ (List.mem_of_getElem? (i := 0) rfl)
theorem wm_ii_X9 : (Cond.instantiable RX9 5) ∈ wsL_law := in_r1 _ (List.mem_of_getElem? (i := 1) rfl)
theorem wm_in_X9 : (Cond.initialized RX9) ∈ wsL_law := in_r1 _ (List.mem_of_getElem? (i := 2) rfl)
theorem wm_cl_L_10 : (Cond.classLink RL 10 RX10) ∈ wsL_law := in_r1 _ (List.mem_of_getElem? (i := 3) rfl)
theorem wm_ii_X10 : (Cond.instantiable RX10 13) ∈ wsL_law := in_r1 _ (List.mem_of_getElem? (i := 4) rfl)
theorem wm_in_X10 : (Cond.initialized RX10) ∈ wsL_law := in_r1 _ (List.mem_of_getElem? (i := 5) rfl)
theorem wm_ml_L_9 : (Cond.methodLink RL 9 yX9_init) ∈ wsL_law := in_r1 _ (List.mem_of_getElem? (i := 6) rfl)
theorem wm_im_X9_init : (Cond.instanceMethod yX9_init) ∈ wsL_law := in_r1 _ (List.mem_of_getElem? (i := 7) rfl)
theorem wm_co_X9_init : (Cond.code yX9_init cX9_init 1 none) ∈ wsL_law := in_r1 _ (List.mem_of_getElem? (i := 8) rfl)
theorem wm_ml_X9_1 : (Cond.methodLink RX9 1 objectInit) ∈ wsL_law := in_r1 _ (List.mem_of_getElem? (i := 9) rfl)
theorem wm_im_objectInit : (Cond.instanceMethod objectInit) ∈ wsL_law := in_r1 _ (List.mem_of_getElem? (i := 10) rfl)
theorem wm_co_objectInit : (Cond.code objectInit ⟨#[0xb1]⟩ 1 none) ∈ wsL_law := in_r1 _ (List.mem_of_getElem? (i := 11) rfl)
theorem wm_cl_X9_7 : (Cond.classLink RX9 7 RX0) ∈ wsL_law := in_r1 _ (List.mem_of_getElem? (i := 12) rfl)
theorem wm_ii_X0 : (Cond.instantiable RX0 10) ∈ wsL_law := in_r1 _ (List.mem_of_getElem? (i := 13) rfl)
theorem wm_in_X0 : (Cond.initialized RX0) ∈ wsL_law := in_r1 _ (List.mem_of_getElem? (i := 14) rfl)
theorem wm_fl_X9_10 : (Cond.fieldLink RX9 10 "PurserLedgers" "now" "LPurserLedgers$Books;") ∈ wsL_law := in_r1 _ (List.mem_of_getElem? (i := 15) rfl)
theorem wm_fl_X9_16 : (Cond.fieldLink RX9 16 "PurserLedgers" "trial" "LPurserLedgers$Books;") ∈ wsL_law := in_r1 _ (List.mem_of_getElem? (i := 16) rfl)
theorem wm_cl_X9_19 : (Cond.classLink RX9 19 RX2) ∈ wsL_law := in_r1 _ (List.mem_of_getElem? (i := 17) rfl)
theorem wm_ii_X2 : (Cond.instantiable RX2 2) ∈ wsL_law := in_r1 _ (List.mem_of_getElem? (i := 18) rfl)
theorem wm_in_X2 : (Cond.initialized RX2) ∈ wsL_law := in_r1 _ (List.mem_of_getElem? (i := 19) rfl)
theorem wm_fl_X9_22 : (Cond.fieldLink RX9 22 "PurserLedgers" "history" "LPurserLedgers$History;") ∈ wsL_law := in_r1 _ (List.mem_of_getElem? (i := 20) rfl)
theorem wm_cl_X9_26 : (Cond.classLink RX9 26 RX7) ∈ wsL_law := in_r1 _ (List.mem_of_getElem? (i := 21) rfl)
theorem wm_ii_X7 : (Cond.instantiable RX7 2) ∈ wsL_law := in_r1 _ (List.mem_of_getElem? (i := 22) rfl)
theorem wm_in_X7 : (Cond.initialized RX7) ∈ wsL_law := in_r1 _ (List.mem_of_getElem? (i := 23) rfl)
theorem wm_fl_X9_29 : (Cond.fieldLink RX9 29 "PurserLedgers" "text" "LPurserLedgers$Text;") ∈ wsL_law := in_r2 _ (List.mem_of_getElem? (i := 0) rfl)
theorem wm_cl_X9_33 : (Cond.classLink RX9 33 RX5) ∈ wsL_law := in_r2 _ (List.mem_of_getElem? (i := 1) rfl)
theorem wm_ii_X5 : (Cond.instantiable RX5 5) ∈ wsL_law := in_r2 _ (List.mem_of_getElem? (i := 2) rfl)
theorem wm_in_X5 : (Cond.initialized RX5) ∈ wsL_law := in_r2 _ (List.mem_of_getElem? (i := 3) rfl)
theorem wm_fl_X9_36 : (Cond.fieldLink RX9 36 "PurserLedgers" "rehearsal" "LPurserLedgers$Rehearsal;") ∈ wsL_law := in_r2 _ (List.mem_of_getElem? (i := 4) rfl)
theorem wm_ml_X9_9 : (Cond.methodLink RX9 9 yX0_init) ∈ wsL_law := in_r2 _ (List.mem_of_getElem? (i := 5) rfl)
theorem wm_im_X0_init : (Cond.instanceMethod yX0_init) ∈ wsL_law := in_r2 _ (List.mem_of_getElem? (i := 6) rfl)
theorem wm_co_X0_init : (Cond.code yX0_init cX0_init 2 none) ∈ wsL_law := in_r2 _ (List.mem_of_getElem? (i := 7) rfl)
theorem wm_ml_X0_3 : (Cond.methodLink RX0 3 objectInit) ∈ wsL_law := in_r2 _ (List.mem_of_getElem? (i := 8) rfl)
theorem wm_cl_X0_9 : (Cond.classLink RX0 9 RX6) ∈ wsL_law := in_r2 _ (List.mem_of_getElem? (i := 9) rfl)
theorem wm_fl_X0_11 : (Cond.fieldLink RX0 11 "PurserLedgers$Books" "crew" "[LPurserLedgers$Sailor;") ∈ wsL_law := in_r2 _ (List.mem_of_getElem? (i := 10) rfl)
theorem wm_ii_X6 : (Cond.instantiable RX6 10) ∈ wsL_law := in_r2 _ (List.mem_of_getElem? (i := 11) rfl)
theorem wm_in_X6 : (Cond.initialized RX6) ∈ wsL_law := in_r2 _ (List.mem_of_getElem? (i := 12) rfl)
theorem wm_cl_X0_18 : (Cond.classLink RX0 18 RX3) ∈ wsL_law := in_r2 _ (List.mem_of_getElem? (i := 13) rfl)
theorem wm_fl_X0_20 : (Cond.fieldLink RX0 20 "PurserLedgers$Books" "chest" "[LPurserLedgers$Item;") ∈ wsL_law := in_r2 _ (List.mem_of_getElem? (i := 14) rfl)
theorem wm_ii_X3 : (Cond.instantiable RX3 5) ∈ wsL_law := in_r2 _ (List.mem_of_getElem? (i := 15) rfl)
theorem wm_in_X3 : (Cond.initialized RX3) ∈ wsL_law := in_r2 _ (List.mem_of_getElem? (i := 16) rfl)
theorem wm_ac_int : (Cond.arrayClass .int) ∈ wsL_law := in_r2 _ (List.mem_of_getElem? (i := 17) rfl)
theorem wm_fl_X0_29 : (Cond.fieldLink RX0 29 "PurserLedgers$Books" "settings" "[I") ∈ wsL_law := in_r2 _ (List.mem_of_getElem? (i := 18) rfl)
theorem wm_cl_X0_36 : (Cond.classLink RX0 36 RX1) ∈ wsL_law := in_r2 _ (List.mem_of_getElem? (i := 19) rfl)
theorem wm_ii_X1 : (Cond.instantiable RX1 4) ∈ wsL_law := in_r2 _ (List.mem_of_getElem? (i := 20) rfl)
theorem wm_in_X1 : (Cond.initialized RX1) ∈ wsL_law := in_r2 _ (List.mem_of_getElem? (i := 21) rfl)
theorem wm_fl_X0_39 : (Cond.fieldLink RX0 39 "PurserLedgers$Books" "entries" "LPurserLedgers$Entries;") ∈ wsL_law := in_r2 _ (List.mem_of_getElem? (i := 22) rfl)
theorem wm_cl_X0_43 : (Cond.classLink RX0 43 RX8) ∈ wsL_law := in_r2 _ (List.mem_of_getElem? (i := 23) rfl)
theorem wm_ii_X8 : (Cond.instantiable RX8 8) ∈ wsL_law := in_r3 _ (List.mem_of_getElem? (i := 0) rfl)
theorem wm_in_X8 : (Cond.initialized RX8) ∈ wsL_law := in_r3 _ (List.mem_of_getElem? (i := 1) rfl)
theorem wm_fl_X0_46 : (Cond.fieldLink RX0 46 "PurserLedgers$Books" "totals" "LPurserLedgers$Totals;") ∈ wsL_law := in_r3 _ (List.mem_of_getElem? (i := 2) rfl)
theorem wm_im_X6_init : (Cond.instanceMethod yX6_init) ∈ wsL_law := in_r3 _ (List.mem_of_getElem? (i := 3) rfl)
theorem wm_co_X6_init : (Cond.code yX6_init cX6_init 1 none) ∈ wsL_law := in_r3 _ (List.mem_of_getElem? (i := 4) rfl)
theorem wm_ml_X6_3 : (Cond.methodLink RX6 3 objectInit) ∈ wsL_law := in_r3 _ (List.mem_of_getElem? (i := 5) rfl)
theorem wm_im_X3_init : (Cond.instanceMethod yX3_init) ∈ wsL_law := in_r3 _ (List.mem_of_getElem? (i := 6) rfl)
theorem wm_co_X3_init : (Cond.code yX3_init cX3_init 1 none) ∈ wsL_law := in_r3 _ (List.mem_of_getElem? (i := 7) rfl)
theorem wm_ml_X3_3 : (Cond.methodLink RX3 3 objectInit) ∈ wsL_law := in_r3 _ (List.mem_of_getElem? (i := 8) rfl)
theorem wm_st_X9_copyNumbers : (Cond.static yX9_copyNumbers) ∈ wsL_law := in_r3 _ (List.mem_of_getElem? (i := 9) rfl)
theorem wm_co_X9_copyNumbers : (Cond.code yX9_copyNumbers cX9_copyNumbers 3 none) ∈ wsL_law := in_r3 _ (List.mem_of_getElem? (i := 10) rfl)
theorem wm_ml_X0_38 : (Cond.methodLink RX0 38 yX1_init) ∈ wsL_law := in_r3 _ (List.mem_of_getElem? (i := 11) rfl)
theorem wm_im_X1_init : (Cond.instanceMethod yX1_init) ∈ wsL_law := in_r3 _ (List.mem_of_getElem? (i := 12) rfl)
theorem wm_co_X1_init : (Cond.code yX1_init cX1_init 1 none) ∈ wsL_law := in_r3 _ (List.mem_of_getElem? (i := 13) rfl)
theorem wm_ml_X1_3 : (Cond.methodLink RX1 3 objectInit) ∈ wsL_law := in_r3 _ (List.mem_of_getElem? (i := 14) rfl)
theorem wm_fl_X1_9 : (Cond.fieldLink RX1 9 "PurserLedgers$Entries" "sailors" "[I") ∈ wsL_law := in_r3 _ (List.mem_of_getElem? (i := 15) rfl)
theorem wm_fl_X1_15 : (Cond.fieldLink RX1 15 "PurserLedgers$Entries" "kinds" "[I") ∈ wsL_law := in_r3 _ (List.mem_of_getElem? (i := 16) rfl)
theorem wm_fl_X1_18 : (Cond.fieldLink RX1 18 "PurserLedgers$Entries" "coins" "[I") ∈ wsL_law := in_r3 _ (List.mem_of_getElem? (i := 17) rfl)
theorem wm_ml_X0_45 : (Cond.methodLink RX0 45 yX8_init) ∈ wsL_law := in_r3 _ (List.mem_of_getElem? (i := 18) rfl)
theorem wm_im_X8_init : (Cond.instanceMethod yX8_init) ∈ wsL_law := in_r3 _ (List.mem_of_getElem? (i := 19) rfl)
theorem wm_co_X8_init : (Cond.code yX8_init cX8_init 1 none) ∈ wsL_law := in_r3 _ (List.mem_of_getElem? (i := 20) rfl)
theorem wm_ml_X8_3 : (Cond.methodLink RX8 3 objectInit) ∈ wsL_law := in_r3 _ (List.mem_of_getElem? (i := 21) rfl)
theorem wm_fl_X8_9 : (Cond.fieldLink RX8 9 "PurserLedgers$Totals" "cash" "I") ∈ wsL_law := in_r3 _ (List.mem_of_getElem? (i := 22) rfl)
theorem wm_ml_X9_21 : (Cond.methodLink RX9 21 yX2_init) ∈ wsL_law := in_r3 _ (List.mem_of_getElem? (i := 23) rfl)
theorem wm_im_X2_init : (Cond.instanceMethod yX2_init) ∈ wsL_law := in_r4 _ (List.mem_of_getElem? (i := 0) rfl)
theorem wm_co_X2_init : (Cond.code yX2_init cX2_init 2 none) ∈ wsL_law := in_r4 _ (List.mem_of_getElem? (i := 1) rfl)
theorem wm_ml_X2_3 : (Cond.methodLink RX2 3 objectInit) ∈ wsL_law := in_r4 _ (List.mem_of_getElem? (i := 2) rfl)
theorem wm_cl_X2_9 : (Cond.classLink RX2 9 RX0) ∈ wsL_law := in_r4 _ (List.mem_of_getElem? (i := 3) rfl)
theorem wm_fl_X2_11 : (Cond.fieldLink RX2 11 "PurserLedgers$History" "states" "[LPurserLedgers$Books;") ∈ wsL_law := in_r4 _ (List.mem_of_getElem? (i := 4) rfl)
theorem wm_ml_X2_17 : (Cond.methodLink RX2 17 yX0_init) ∈ wsL_law := in_r4 _ (List.mem_of_getElem? (i := 5) rfl)
theorem wm_ml_X9_28 : (Cond.methodLink RX9 28 yX7_init) ∈ wsL_law := in_r4 _ (List.mem_of_getElem? (i := 6) rfl)
theorem wm_im_X7_init : (Cond.instanceMethod yX7_init) ∈ wsL_law := in_r4 _ (List.mem_of_getElem? (i := 7) rfl)
theorem wm_co_X7_init : (Cond.code yX7_init cX7_init 1 none) ∈ wsL_law := in_r4 _ (List.mem_of_getElem? (i := 8) rfl)
theorem wm_ml_X7_3 : (Cond.methodLink RX7 3 objectInit) ∈ wsL_law := in_r4 _ (List.mem_of_getElem? (i := 9) rfl)
theorem wm_fl_X7_9 : (Cond.fieldLink RX7 9 "PurserLedgers$Text" "characters" "[I") ∈ wsL_law := in_r4 _ (List.mem_of_getElem? (i := 10) rfl)
theorem wm_ml_X9_35 : (Cond.methodLink RX9 35 yX5_init) ∈ wsL_law := in_r4 _ (List.mem_of_getElem? (i := 11) rfl)
theorem wm_im_X5_init : (Cond.instanceMethod yX5_init) ∈ wsL_law := in_r4 _ (List.mem_of_getElem? (i := 12) rfl)
theorem wm_co_X5_init : (Cond.code yX5_init cX5_init 1 none) ∈ wsL_law := in_r4 _ (List.mem_of_getElem? (i := 13) rfl)
theorem wm_ml_X5_3 : (Cond.methodLink RX5 3 objectInit) ∈ wsL_law := in_r4 _ (List.mem_of_getElem? (i := 14) rfl)
theorem wm_cl_X5_9 : (Cond.classLink RX5 9 RX4) ∈ wsL_law := in_r4 _ (List.mem_of_getElem? (i := 15) rfl)
theorem wm_ii_X4 : (Cond.instantiable RX4 3) ∈ wsL_law := in_r4 _ (List.mem_of_getElem? (i := 16) rfl)
theorem wm_in_X4 : (Cond.initialized RX4) ∈ wsL_law := in_r4 _ (List.mem_of_getElem? (i := 17) rfl)
theorem wm_fl_X5_12 : (Cond.fieldLink RX5 12 "PurserLedgers$Rehearsal" "order" "LPurserLedgers$Order;") ∈ wsL_law := in_r4 _ (List.mem_of_getElem? (i := 18) rfl)
theorem wm_ml_X5_11 : (Cond.methodLink RX5 11 yX4_init) ∈ wsL_law := in_r4 _ (List.mem_of_getElem? (i := 19) rfl)
theorem wm_im_X4_init : (Cond.instanceMethod yX4_init) ∈ wsL_law := in_r4 _ (List.mem_of_getElem? (i := 20) rfl)
theorem wm_co_X4_init : (Cond.code yX4_init cX4_init 1 none) ∈ wsL_law := in_r4 _ (List.mem_of_getElem? (i := 21) rfl)
theorem wm_ml_X4_3 : (Cond.methodLink RX4 3 objectInit) ∈ wsL_law := in_r4 _ (List.mem_of_getElem? (i := 22) rfl)
theorem wm_fl_X4_9 : (Cond.fieldLink RX4 9 "PurserLedgers$Order" "numbers" "[I") ∈ wsL_law := in_r4 _ (List.mem_of_getElem? (i := 23) rfl)
theorem wm_ml_L_12 : (Cond.methodLink RL 12 yX10_init) ∈ wsL_law := in_r5 _ (List.mem_of_getElem? (i := 0) rfl)
theorem wm_im_X10_init : (Cond.instanceMethod yX10_init) ∈ wsL_law := in_r5 _ (List.mem_of_getElem? (i := 1) rfl)
theorem wm_co_X10_init : (Cond.code yX10_init cX10_init 1 none) ∈ wsL_law := in_r5 _ (List.mem_of_getElem? (i := 2) rfl)
theorem wm_ml_X10_1 : (Cond.methodLink RX10 1 objectInit) ∈ wsL_law := in_r5 _ (List.mem_of_getElem? (i := 3) rfl)
theorem wm_fl_X10_7 : (Cond.fieldLink RX10 7 "PurserLedgersModel" "z" "[I") ∈ wsL_law := in_r5 _ (List.mem_of_getElem? (i := 4) rfl)
theorem wm_fl_X10_13 : (Cond.fieldLink RX10 13 "PurserLedgersModel" "aside" "[I") ∈ wsL_law := in_r5 _ (List.mem_of_getElem? (i := 5) rfl)
theorem wm_fl_X10_16 : (Cond.fieldLink RX10 16 "PurserLedgersModel" "before" "[I") ∈ wsL_law := in_r5 _ (List.mem_of_getElem? (i := 6) rfl)
theorem wm_fl_X10_19 : (Cond.fieldLink RX10 19 "PurserLedgersModel" "text" "[I") ∈ wsL_law := in_r5 _ (List.mem_of_getElem? (i := 7) rfl)
theorem wm_fl_X10_22 : (Cond.fieldLink RX10 22 "PurserLedgersModel" "number" "[I") ∈ wsL_law := in_r5 _ (List.mem_of_getElem? (i := 8) rfl)
theorem wm_ml_L_13 : (Cond.methodLink RL 13 yX9_sign) ∈ wsL_law := in_r5 _ (List.mem_of_getElem? (i := 9) rfl)
theorem wm_im_X9_sign : (Cond.instanceMethod yX9_sign) ∈ wsL_law := in_r5 _ (List.mem_of_getElem? (i := 10) rfl)
theorem wm_se_X9_sign : (Cond.selects RX9 yX9_sign yX9_sign) ∈ wsL_law := in_r5 _ (List.mem_of_getElem? (i := 11) rfl)
theorem wm_co_X9_sign : (Cond.code yX9_sign cX9_sign 3 (some .int)) ∈ wsL_law := in_r5 _ (List.mem_of_getElem? (i := 12) rfl)
theorem wm_ml_X9_40 : (Cond.methodLink RX9 40 yX9_newTrial) ∈ wsL_law := in_r5 _ (List.mem_of_getElem? (i := 13) rfl)
theorem wm_im_X9_newTrial : (Cond.instanceMethod yX9_newTrial) ∈ wsL_law := in_r5 _ (List.mem_of_getElem? (i := 14) rfl)
theorem wm_se_X9_newTrial : (Cond.selects RX9 yX9_newTrial yX9_newTrial) ∈ wsL_law := in_r5 _ (List.mem_of_getElem? (i := 15) rfl)
theorem wm_co_X9_newTrial : (Cond.code yX9_newTrial cX9_newTrial 1 (some (.object "PurserLedgers$Books"))) ∈ wsL_law := in_r5 _ (List.mem_of_getElem? (i := 16) rfl)
theorem wm_ml_X9_173 : (Cond.methodLink RX9 173 yX0_copyFrom) ∈ wsL_law := in_r5 _ (List.mem_of_getElem? (i := 17) rfl)
theorem wm_im_X0_copyFrom : (Cond.instanceMethod yX0_copyFrom) ∈ wsL_law := in_r5 _ (List.mem_of_getElem? (i := 18) rfl)
theorem wm_se_X0_copyFrom : (Cond.selects RX0 yX0_copyFrom yX0_copyFrom) ∈ wsL_law := in_r5 _ (List.mem_of_getElem? (i := 19) rfl)
theorem wm_co_X0_copyFrom : (Cond.code yX0_copyFrom cX0_copyFrom 3 none) ∈ wsL_law := in_r5 _ (List.mem_of_getElem? (i := 20) rfl)
theorem wm_fl_X0_63 : (Cond.fieldLink RX0 63 "PurserLedgers$Books" "signed" "I") ∈ wsL_law := in_r5 _ (List.mem_of_getElem? (i := 21) rfl)
theorem wm_fl_X0_67 : (Cond.fieldLink RX0 67 "PurserLedgers$Books" "voyage" "I") ∈ wsL_law := in_r5 _ (List.mem_of_getElem? (i := 22) rfl)
theorem wm_fl_X0_70 : (Cond.fieldLink RX0 70 "PurserLedgers$Books" "voyageDays" "I") ∈ wsL_law := in_r5 _ (List.mem_of_getElem? (i := 23) rfl)
theorem wm_fl_X0_73 : (Cond.fieldLink RX0 73 "PurserLedgers$Books" "ports" "I") ∈ wsL_law := in_r6 _ (List.mem_of_getElem? (i := 0) rfl)
theorem wm_fl_X0_76 : (Cond.fieldLink RX0 76 "PurserLedgers$Books" "atSea" "Z") ∈ wsL_law := in_r6 _ (List.mem_of_getElem? (i := 1) rfl)
theorem wm_ml_X0_50 : (Cond.methodLink RX0 50 yX6_copyFrom) ∈ wsL_law := in_r6 _ (List.mem_of_getElem? (i := 2) rfl)
theorem wm_im_X6_copyFrom : (Cond.instanceMethod yX6_copyFrom) ∈ wsL_law := in_r6 _ (List.mem_of_getElem? (i := 3) rfl)
theorem wm_se_X6_copyFrom : (Cond.selects RX6 yX6_copyFrom yX6_copyFrom) ∈ wsL_law := in_r6 _ (List.mem_of_getElem? (i := 4) rfl)
theorem wm_co_X6_copyFrom : (Cond.code yX6_copyFrom cX6_copyFrom 2 none) ∈ wsL_law := in_r6 _ (List.mem_of_getElem? (i := 5) rfl)
theorem wm_fl_X6_9 : (Cond.fieldLink RX6 9 "PurserLedgers$Sailor" "rank" "I") ∈ wsL_law := in_r6 _ (List.mem_of_getElem? (i := 6) rfl)
theorem wm_fl_X6_15 : (Cond.fieldLink RX6 15 "PurserLedgers$Sailor" "watch" "I") ∈ wsL_law := in_r6 _ (List.mem_of_getElem? (i := 7) rfl)
theorem wm_fl_X6_18 : (Cond.fieldLink RX6 18 "PurserLedgers$Sailor" "whereabouts" "I") ∈ wsL_law := in_r6 _ (List.mem_of_getElem? (i := 8) rfl)
theorem wm_fl_X6_21 : (Cond.fieldLink RX6 21 "PurserLedgers$Sailor" "seaDays" "I") ∈ wsL_law := in_r6 _ (List.mem_of_getElem? (i := 9) rfl)
theorem wm_fl_X6_24 : (Cond.fieldLink RX6 24 "PurserLedgers$Sailor" "portDays" "I") ∈ wsL_law := in_r6 _ (List.mem_of_getElem? (i := 10) rfl)
theorem wm_fl_X6_27 : (Cond.fieldLink RX6 27 "PurserLedgers$Sailor" "bought" "I") ∈ wsL_law := in_r6 _ (List.mem_of_getElem? (i := 11) rfl)
theorem wm_fl_X6_30 : (Cond.fieldLink RX6 30 "PurserLedgers$Sailor" "fines" "I") ∈ wsL_law := in_r6 _ (List.mem_of_getElem? (i := 12) rfl)
theorem wm_fl_X6_33 : (Cond.fieldLink RX6 33 "PurserLedgers$Sailor" "advances" "I") ∈ wsL_law := in_r6 _ (List.mem_of_getElem? (i := 13) rfl)
theorem wm_fl_X6_36 : (Cond.fieldLink RX6 36 "PurserLedgers$Sailor" "debt" "I") ∈ wsL_law := in_r6 _ (List.mem_of_getElem? (i := 14) rfl)
theorem wm_fl_X6_39 : (Cond.fieldLink RX6 39 "PurserLedgers$Sailor" "paid" "I") ∈ wsL_law := in_r6 _ (List.mem_of_getElem? (i := 15) rfl)
theorem wm_ml_X0_54 : (Cond.methodLink RX0 54 yX3_copyFrom) ∈ wsL_law := in_r6 _ (List.mem_of_getElem? (i := 16) rfl)
theorem wm_im_X3_copyFrom : (Cond.instanceMethod yX3_copyFrom) ∈ wsL_law := in_r6 _ (List.mem_of_getElem? (i := 17) rfl)
theorem wm_se_X3_copyFrom : (Cond.selects RX3 yX3_copyFrom yX3_copyFrom) ∈ wsL_law := in_r6 _ (List.mem_of_getElem? (i := 18) rfl)
theorem wm_co_X3_copyFrom : (Cond.code yX3_copyFrom cX3_copyFrom 2 none) ∈ wsL_law := in_r6 _ (List.mem_of_getElem? (i := 19) rfl)
theorem wm_fl_X3_9 : (Cond.fieldLink RX3 9 "PurserLedgers$Item" "inStock" "I") ∈ wsL_law := in_r6 _ (List.mem_of_getElem? (i := 20) rfl)
theorem wm_fl_X3_15 : (Cond.fieldLink RX3 15 "PurserLedgers$Item" "price" "I") ∈ wsL_law := in_r6 _ (List.mem_of_getElem? (i := 21) rfl)
theorem wm_fl_X3_18 : (Cond.fieldLink RX3 18 "PurserLedgers$Item" "bought" "I") ∈ wsL_law := in_r6 _ (List.mem_of_getElem? (i := 22) rfl)
theorem wm_fl_X3_21 : (Cond.fieldLink RX3 21 "PurserLedgers$Item" "sold" "I") ∈ wsL_law := in_r6 _ (List.mem_of_getElem? (i := 23) rfl)
theorem wm_fl_X3_24 : (Cond.fieldLink RX3 24 "PurserLedgers$Item" "charged" "I") ∈ wsL_law := in_r7 _ (List.mem_of_getElem? (i := 0) rfl)
theorem wm_ml_X0_57 : (Cond.methodLink RX0 57 yX1_copyFrom) ∈ wsL_law := in_r7 _ (List.mem_of_getElem? (i := 1) rfl)
theorem wm_im_X1_copyFrom : (Cond.instanceMethod yX1_copyFrom) ∈ wsL_law := in_r7 _ (List.mem_of_getElem? (i := 2) rfl)
theorem wm_se_X1_copyFrom : (Cond.selects RX1 yX1_copyFrom yX1_copyFrom) ∈ wsL_law := in_r7 _ (List.mem_of_getElem? (i := 3) rfl)
theorem wm_co_X1_copyFrom : (Cond.code yX1_copyFrom cX1_copyFrom 2 none) ∈ wsL_law := in_r7 _ (List.mem_of_getElem? (i := 4) rfl)
theorem wm_fl_X1_25 : (Cond.fieldLink RX1 25 "PurserLedgers$Entries" "kept" "I") ∈ wsL_law := in_r7 _ (List.mem_of_getElem? (i := 5) rfl)
theorem wm_ml_X0_60 : (Cond.methodLink RX0 60 yX8_copyFrom) ∈ wsL_law := in_r7 _ (List.mem_of_getElem? (i := 6) rfl)
theorem wm_im_X8_copyFrom : (Cond.instanceMethod yX8_copyFrom) ∈ wsL_law := in_r7 _ (List.mem_of_getElem? (i := 7) rfl)
theorem wm_se_X8_copyFrom : (Cond.selects RX8 yX8_copyFrom yX8_copyFrom) ∈ wsL_law := in_r7 _ (List.mem_of_getElem? (i := 8) rfl)
theorem wm_co_X8_copyFrom : (Cond.code yX8_copyFrom cX8_copyFrom 2 none) ∈ wsL_law := in_r7 _ (List.mem_of_getElem? (i := 9) rfl)
theorem wm_fl_X8_15 : (Cond.fieldLink RX8 15 "PurserLedgers$Totals" "drawn" "I") ∈ wsL_law := in_r7 _ (List.mem_of_getElem? (i := 10) rfl)
theorem wm_fl_X8_18 : (Cond.fieldLink RX8 18 "PurserLedgers$Totals" "spent" "I") ∈ wsL_law := in_r7 _ (List.mem_of_getElem? (i := 11) rfl)
theorem wm_fl_X8_21 : (Cond.fieldLink RX8 21 "PurserLedgers$Totals" "advanced" "I") ∈ wsL_law := in_r7 _ (List.mem_of_getElem? (i := 12) rfl)
theorem wm_fl_X8_24 : (Cond.fieldLink RX8 24 "PurserLedgers$Totals" "paid" "I") ∈ wsL_law := in_r7 _ (List.mem_of_getElem? (i := 13) rfl)
theorem wm_fl_X8_27 : (Cond.fieldLink RX8 27 "PurserLedgers$Totals" "charged" "I") ∈ wsL_law := in_r7 _ (List.mem_of_getElem? (i := 14) rfl)
theorem wm_fl_X8_30 : (Cond.fieldLink RX8 30 "PurserLedgers$Totals" "fines" "I") ∈ wsL_law := in_r7 _ (List.mem_of_getElem? (i := 15) rfl)
theorem wm_fl_X8_33 : (Cond.fieldLink RX8 33 "PurserLedgers$Totals" "forfeit" "I") ∈ wsL_law := in_r7 _ (List.mem_of_getElem? (i := 16) rfl)
theorem wm_ml_X9_44 : (Cond.methodLink RX9 44 yX0_signOn) ∈ wsL_law := in_r7 _ (List.mem_of_getElem? (i := 17) rfl)
theorem wm_im_X0_signOn : (Cond.instanceMethod yX0_signOn) ∈ wsL_law := in_r7 _ (List.mem_of_getElem? (i := 18) rfl)
theorem wm_se_X0_signOn : (Cond.selects RX0 yX0_signOn yX0_signOn) ∈ wsL_law := in_r7 _ (List.mem_of_getElem? (i := 19) rfl)
theorem wm_co_X0_signOn : (Cond.code yX0_signOn cX0_signOn 4 (some .int)) ∈ wsL_law := in_r7 _ (List.mem_of_getElem? (i := 20) rfl)
theorem wm_ct_X0_84 : (Cond.constant RX0 84 (-1000001)) ∈ wsL_law := in_r7 _ (List.mem_of_getElem? (i := 21) rfl)
theorem wm_ct_X0_85 : (Cond.constant RX0 85 (-1000002)) ∈ wsL_law := in_r7 _ (List.mem_of_getElem? (i := 22) rfl)
theorem wm_ct_X0_86 : (Cond.constant RX0 86 (-1000003)) ∈ wsL_law := in_r7 _ (List.mem_of_getElem? (i := 23) rfl)
theorem wm_st_X9_within : (Cond.static yX9_within) ∈ wsL_law := in_r8 _ (List.mem_of_getElem? (i := 0) rfl)
theorem wm_co_X9_within : (Cond.code yX9_within cX9_within 3 (some .boolean)) ∈ wsL_law := in_r8 _ (List.mem_of_getElem? (i := 1) rfl)
theorem wm_ml_X0_87 : (Cond.methodLink RX0 87 yX6_comeAboard) ∈ wsL_law := in_r8 _ (List.mem_of_getElem? (i := 2) rfl)
theorem wm_im_X6_comeAboard : (Cond.instanceMethod yX6_comeAboard) ∈ wsL_law := in_r8 _ (List.mem_of_getElem? (i := 3) rfl)
theorem wm_se_X6_comeAboard : (Cond.selects RX6 yX6_comeAboard yX6_comeAboard) ∈ wsL_law := in_r8 _ (List.mem_of_getElem? (i := 4) rfl)
theorem wm_co_X6_comeAboard : (Cond.code yX6_comeAboard cX6_comeAboard 3 none) ∈ wsL_law := in_r8 _ (List.mem_of_getElem? (i := 5) rfl)
theorem wm_ml_X6_42 : (Cond.methodLink RX6 42 yX6_beginVoyage) ∈ wsL_law := in_r8 _ (List.mem_of_getElem? (i := 6) rfl)
theorem wm_im_X6_beginVoyage : (Cond.instanceMethod yX6_beginVoyage) ∈ wsL_law := in_r8 _ (List.mem_of_getElem? (i := 7) rfl)
theorem wm_se_X6_beginVoyage : (Cond.selects RX6 yX6_beginVoyage yX6_beginVoyage) ∈ wsL_law := in_r8 _ (List.mem_of_getElem? (i := 8) rfl)
theorem wm_co_X6_beginVoyage : (Cond.code yX6_beginVoyage cX6_beginVoyage 2 none) ∈ wsL_law := in_r8 _ (List.mem_of_getElem? (i := 9) rfl)
theorem wm_ml_X9_48 : (Cond.methodLink RX9 48 yX9_settleTrial) ∈ wsL_law := in_r8 _ (List.mem_of_getElem? (i := 10) rfl)
theorem wm_im_X9_settleTrial : (Cond.instanceMethod yX9_settleTrial) ∈ wsL_law := in_r8 _ (List.mem_of_getElem? (i := 11) rfl)
theorem wm_se_X9_settleTrial : (Cond.selects RX9 yX9_settleTrial yX9_settleTrial) ∈ wsL_law := in_r8 _ (List.mem_of_getElem? (i := 12) rfl)
theorem wm_co_X9_settleTrial : (Cond.code yX9_settleTrial cX9_settleTrial 2 (some .int)) ∈ wsL_law := in_r8 _ (List.mem_of_getElem? (i := 13) rfl)
theorem wm_ml_X9_177 : (Cond.methodLink RX9 177 yX2_record) ∈ wsL_law := in_r8 _ (List.mem_of_getElem? (i := 14) rfl)
theorem wm_im_X2_record : (Cond.instanceMethod yX2_record) ∈ wsL_law := in_r8 _ (List.mem_of_getElem? (i := 15) rfl)
theorem wm_se_X2_record : (Cond.selects RX2 yX2_record yX2_record) ∈ wsL_law := in_r8 _ (List.mem_of_getElem? (i := 16) rfl)
theorem wm_co_X2_record : (Cond.code yX2_record cX2_record 5 none) ∈ wsL_law := in_r8 _ (List.mem_of_getElem? (i := 17) rfl)
theorem wm_fl_X2_22 : (Cond.fieldLink RX2 22 "PurserLedgers$History" "kept" "I") ∈ wsL_law := in_r8 _ (List.mem_of_getElem? (i := 18) rfl)
theorem wm_ml_X2_18 : (Cond.methodLink RX2 18 yX0_copyFrom) ∈ wsL_law := in_r8 _ (List.mem_of_getElem? (i := 19) rfl)
theorem wm_ml_L_17 : (Cond.methodLink RL 17 yX10_sign) ∈ wsL_law := in_r8 _ (List.mem_of_getElem? (i := 20) rfl)
theorem wm_im_X10_sign : (Cond.instanceMethod yX10_sign) ∈ wsL_law := in_r8 _ (List.mem_of_getElem? (i := 21) rfl)
theorem wm_se_X10_sign : (Cond.selects RX10 yX10_sign yX10_sign) ∈ wsL_law := in_r8 _ (List.mem_of_getElem? (i := 22) rfl)
theorem wm_co_X10_sign : (Cond.code yX10_sign cX10_sign 4 (some .int)) ∈ wsL_law := in_r8 _ (List.mem_of_getElem? (i := 23) rfl)
theorem wm_ml_X10_73 : (Cond.methodLink RX10 73 yX10_noSign) ∈ wsL_law := in_r9 _ (List.mem_of_getElem? (i := 0) rfl)
theorem wm_im_X10_noSign : (Cond.instanceMethod yX10_noSign) ∈ wsL_law := in_r9 _ (List.mem_of_getElem? (i := 1) rfl)
theorem wm_se_X10_noSign : (Cond.selects RX10 yX10_noSign yX10_noSign) ∈ wsL_law := in_r9 _ (List.mem_of_getElem? (i := 2) rfl)
theorem wm_co_X10_noSign : (Cond.code yX10_noSign cX10_noSign 3 (some .int)) ∈ wsL_law := in_r9 _ (List.mem_of_getElem? (i := 3) rfl)
theorem wm_ct_X10_64 : (Cond.constant RX10 64 (-1000001)) ∈ wsL_law := in_r9 _ (List.mem_of_getElem? (i := 4) rfl)
theorem wm_ct_X10_37 : (Cond.constant RX10 37 (-1000002)) ∈ wsL_law := in_r9 _ (List.mem_of_getElem? (i := 5) rfl)
theorem wm_ct_X10_69 : (Cond.constant RX10 69 (-1000003)) ∈ wsL_law := in_r9 _ (List.mem_of_getElem? (i := 6) rfl)
theorem wm_ml_X10_25 : (Cond.methodLink RX10 25 yX10_in) ∈ wsL_law := in_r9 _ (List.mem_of_getElem? (i := 7) rfl)
theorem wm_st_X10_in : (Cond.static yX10_in) ∈ wsL_law := in_r9 _ (List.mem_of_getElem? (i := 8) rfl)
theorem wm_co_X10_in : (Cond.code yX10_in cX10_in 3 (some .boolean)) ∈ wsL_law := in_r9 _ (List.mem_of_getElem? (i := 9) rfl)
theorem wm_ml_X10_65 : (Cond.methodLink RX10 65 yX10_isAtSea) ∈ wsL_law := in_r9 _ (List.mem_of_getElem? (i := 10) rfl)
theorem wm_im_X10_isAtSea : (Cond.instanceMethod yX10_isAtSea) ∈ wsL_law := in_r9 _ (List.mem_of_getElem? (i := 11) rfl)
theorem wm_se_X10_isAtSea : (Cond.selects RX10 yX10_isAtSea yX10_isAtSea) ∈ wsL_law := in_r9 _ (List.mem_of_getElem? (i := 12) rfl)
theorem wm_co_X10_isAtSea : (Cond.code yX10_isAtSea cX10_isAtSea 1 (some .boolean)) ∈ wsL_law := in_r9 _ (List.mem_of_getElem? (i := 13) rfl)
theorem wm_ml_X10_76 : (Cond.methodLink RX10 76 yX10_record) ∈ wsL_law := in_r9 _ (List.mem_of_getElem? (i := 14) rfl)
theorem wm_im_X10_record : (Cond.instanceMethod yX10_record) ∈ wsL_law := in_r9 _ (List.mem_of_getElem? (i := 15) rfl)
theorem wm_se_X10_record : (Cond.selects RX10 yX10_record yX10_record) ∈ wsL_law := in_r9 _ (List.mem_of_getElem? (i := 16) rfl)
theorem wm_co_X10_record : (Cond.code yX10_record cX10_record 3 none) ∈ wsL_law := in_r9 _ (List.mem_of_getElem? (i := 17) rfl)
theorem wm_fl_X10_33 : (Cond.fieldLink RX10 33 "PurserLedgersModel" "states" "I") ∈ wsL_law := in_r9 _ (List.mem_of_getElem? (i := 18) rfl)
theorem wm_ml_X10_80 : (Cond.methodLink RX10 80 yX10_doSign) ∈ wsL_law := in_r9 _ (List.mem_of_getElem? (i := 19) rfl)
theorem wm_im_X10_doSign : (Cond.instanceMethod yX10_doSign) ∈ wsL_law := in_r9 _ (List.mem_of_getElem? (i := 20) rfl)
theorem wm_se_X10_doSign : (Cond.selects RX10 yX10_doSign yX10_doSign) ∈ wsL_law := in_r9 _ (List.mem_of_getElem? (i := 21) rfl)
theorem wm_co_X10_doSign : (Cond.code yX10_doSign cX10_doSign 4 (some .int)) ∈ wsL_law := in_r9 _ (List.mem_of_getElem? (i := 22) rfl)
theorem wm_ml_X10_70 : (Cond.methodLink RX10 70 yX10_clear) ∈ wsL_law := in_r9 _ (List.mem_of_getElem? (i := 23) rfl)
theorem wm_im_X10_clear : (Cond.instanceMethod yX10_clear) ∈ wsL_law := in_r10 _ (List.mem_of_getElem? (i := 0) rfl)
theorem wm_se_X10_clear : (Cond.selects RX10 yX10_clear yX10_clear) ∈ wsL_law := in_r10 _ (List.mem_of_getElem? (i := 1) rfl)
theorem wm_co_X10_clear : (Cond.code yX10_clear cX10_clear 3 none) ∈ wsL_law := in_r10 _ (List.mem_of_getElem? (i := 2) rfl)
theorem wm_ml_X10_53 : (Cond.methodLink RX10 53 yX10_put) ∈ wsL_law := in_r10 _ (List.mem_of_getElem? (i := 3) rfl)
theorem wm_im_X10_put : (Cond.instanceMethod yX10_put) ∈ wsL_law := in_r10 _ (List.mem_of_getElem? (i := 4) rfl)
theorem wm_se_X10_put : (Cond.selects RX10 yX10_put yX10_put) ∈ wsL_law := in_r10 _ (List.mem_of_getElem? (i := 5) rfl)
theorem wm_co_X10_put : (Cond.code yX10_put cX10_put 4 none) ∈ wsL_law := in_r10 _ (List.mem_of_getElem? (i := 6) rfl)
theorem wm_ml_L_18 : (Cond.methodLink RL 18 yX9_stock) ∈ wsL_law := in_r10 _ (List.mem_of_getElem? (i := 7) rfl)
theorem wm_im_X9_stock : (Cond.instanceMethod yX9_stock) ∈ wsL_law := in_r10 _ (List.mem_of_getElem? (i := 8) rfl)
theorem wm_se_X9_stock : (Cond.selects RX9 yX9_stock yX9_stock) ∈ wsL_law := in_r10 _ (List.mem_of_getElem? (i := 9) rfl)
theorem wm_co_X9_stock : (Cond.code yX9_stock cX9_stock 4 (some .int)) ∈ wsL_law := in_r10 _ (List.mem_of_getElem? (i := 10) rfl)
theorem wm_ml_X9_52 : (Cond.methodLink RX9 52 yX0_buyForChest) ∈ wsL_law := in_r10 _ (List.mem_of_getElem? (i := 11) rfl)
theorem wm_im_X0_buyForChest : (Cond.instanceMethod yX0_buyForChest) ∈ wsL_law := in_r10 _ (List.mem_of_getElem? (i := 12) rfl)
theorem wm_se_X0_buyForChest : (Cond.selects RX0 yX0_buyForChest yX0_buyForChest) ∈ wsL_law := in_r10 _ (List.mem_of_getElem? (i := 13) rfl)
theorem wm_co_X0_buyForChest : (Cond.code yX0_buyForChest cX0_buyForChest 5 (some .int)) ∈ wsL_law := in_r10 _ (List.mem_of_getElem? (i := 14) rfl)
theorem wm_fl_X0_95 : (Cond.fieldLink RX0 95 "PurserLedgers$Item" "inStock" "I") ∈ wsL_law := in_r10 _ (List.mem_of_getElem? (i := 15) rfl)
theorem wm_fl_X0_98 : (Cond.fieldLink RX0 98 "PurserLedgers$Totals" "spent" "I") ∈ wsL_law := in_r10 _ (List.mem_of_getElem? (i := 16) rfl)
theorem wm_fl_X0_112 : (Cond.fieldLink RX0 112 "PurserLedgers$Item" "price" "I") ∈ wsL_law := in_r10 _ (List.mem_of_getElem? (i := 17) rfl)
theorem wm_ml_X0_91 : (Cond.methodLink RX0 91 yX0_findItem) ∈ wsL_law := in_r10 _ (List.mem_of_getElem? (i := 18) rfl)
theorem wm_im_X0_findItem : (Cond.instanceMethod yX0_findItem) ∈ wsL_law := in_r10 _ (List.mem_of_getElem? (i := 19) rfl)
theorem wm_se_X0_findItem : (Cond.selects RX0 yX0_findItem yX0_findItem) ∈ wsL_law := in_r10 _ (List.mem_of_getElem? (i := 20) rfl)
theorem wm_co_X0_findItem : (Cond.code yX0_findItem cX0_findItem 2 (some (.object "PurserLedgers$Item"))) ∈ wsL_law := in_r10 _ (List.mem_of_getElem? (i := 21) rfl)
theorem wm_ml_X0_101 : (Cond.methodLink RX0 101 yX8_takeCash) ∈ wsL_law := in_r10 _ (List.mem_of_getElem? (i := 22) rfl)
theorem wm_im_X8_takeCash : (Cond.instanceMethod yX8_takeCash) ∈ wsL_law := in_r10 _ (List.mem_of_getElem? (i := 23) rfl)
theorem wm_se_X8_takeCash : (Cond.selects RX8 yX8_takeCash yX8_takeCash) ∈ wsL_law := in_r11 _ (List.mem_of_getElem? (i := 0) rfl)
theorem wm_co_X8_takeCash : (Cond.code yX8_takeCash cX8_takeCash 3 none) ∈ wsL_law := in_r11 _ (List.mem_of_getElem? (i := 1) rfl)
theorem wm_ml_X8_36 : (Cond.methodLink RX8 36 yX8_missingFor) ∈ wsL_law := in_r11 _ (List.mem_of_getElem? (i := 2) rfl)
theorem wm_im_X8_missingFor : (Cond.instanceMethod yX8_missingFor) ∈ wsL_law := in_r11 _ (List.mem_of_getElem? (i := 3) rfl)
theorem wm_se_X8_missingFor : (Cond.selects RX8 yX8_missingFor yX8_missingFor) ∈ wsL_law := in_r11 _ (List.mem_of_getElem? (i := 4) rfl)
theorem wm_co_X8_missingFor : (Cond.code yX8_missingFor cX8_missingFor 2 (some .int)) ∈ wsL_law := in_r11 _ (List.mem_of_getElem? (i := 5) rfl)
theorem wm_ml_X0_105 : (Cond.methodLink RX0 105 yX0_setting) ∈ wsL_law := in_r11 _ (List.mem_of_getElem? (i := 6) rfl)
theorem wm_im_X0_setting : (Cond.instanceMethod yX0_setting) ∈ wsL_law := in_r11 _ (List.mem_of_getElem? (i := 7) rfl)
theorem wm_se_X0_setting : (Cond.selects RX0 yX0_setting yX0_setting) ∈ wsL_law := in_r11 _ (List.mem_of_getElem? (i := 8) rfl)
theorem wm_co_X0_setting : (Cond.code yX0_setting cX0_setting 2 (some .int)) ∈ wsL_law := in_r11 _ (List.mem_of_getElem? (i := 9) rfl)
theorem wm_ml_X0_109 : (Cond.methodLink RX0 109 yX3_takeIn) ∈ wsL_law := in_r11 _ (List.mem_of_getElem? (i := 10) rfl)
theorem wm_im_X3_takeIn : (Cond.instanceMethod yX3_takeIn) ∈ wsL_law := in_r11 _ (List.mem_of_getElem? (i := 11) rfl)
theorem wm_se_X3_takeIn : (Cond.selects RX3 yX3_takeIn yX3_takeIn) ∈ wsL_law := in_r11 _ (List.mem_of_getElem? (i := 12) rfl)
theorem wm_co_X3_takeIn : (Cond.code yX3_takeIn cX3_takeIn 3 none) ∈ wsL_law := in_r11 _ (List.mem_of_getElem? (i := 13) rfl)
theorem wm_ml_L_22 : (Cond.methodLink RL 22 yX10_stock) ∈ wsL_law := in_r11 _ (List.mem_of_getElem? (i := 14) rfl)
theorem wm_im_X10_stock : (Cond.instanceMethod yX10_stock) ∈ wsL_law := in_r11 _ (List.mem_of_getElem? (i := 15) rfl)
theorem wm_se_X10_stock : (Cond.selects RX10 yX10_stock yX10_stock) ∈ wsL_law := in_r11 _ (List.mem_of_getElem? (i := 16) rfl)
theorem wm_co_X10_stock : (Cond.code yX10_stock cX10_stock 5 (some .int)) ∈ wsL_law := in_r11 _ (List.mem_of_getElem? (i := 17) rfl)
theorem wm_ml_X10_89 : (Cond.methodLink RX10 89 yX10_noStock) ∈ wsL_law := in_r11 _ (List.mem_of_getElem? (i := 18) rfl)
theorem wm_im_X10_noStock : (Cond.instanceMethod yX10_noStock) ∈ wsL_law := in_r11 _ (List.mem_of_getElem? (i := 19) rfl)
theorem wm_se_X10_noStock : (Cond.selects RX10 yX10_noStock yX10_noStock) ∈ wsL_law := in_r11 _ (List.mem_of_getElem? (i := 20) rfl)
theorem wm_co_X10_noStock : (Cond.code yX10_noStock cX10_noStock 4 (some .int)) ∈ wsL_law := in_r11 _ (List.mem_of_getElem? (i := 21) rfl)
theorem wm_ml_X10_83 : (Cond.methodLink RX10 83 yX10_isItem) ∈ wsL_law := in_r11 _ (List.mem_of_getElem? (i := 22) rfl)
theorem wm_st_X10_isItem : (Cond.static yX10_isItem) ∈ wsL_law := in_r11 _ (List.mem_of_getElem? (i := 23) rfl)
theorem wm_co_X10_isItem : (Cond.code yX10_isItem cX10_isItem 1 (some .boolean)) ∈ wsL_law := in_r12 _ (List.mem_of_getElem? (i := 0) rfl)
theorem wm_ml_X10_86 : (Cond.methodLink RX10 86 yX10_ofItem) ∈ wsL_law := in_r12 _ (List.mem_of_getElem? (i := 1) rfl)
theorem wm_im_X10_ofItem : (Cond.instanceMethod yX10_ofItem) ∈ wsL_law := in_r12 _ (List.mem_of_getElem? (i := 2) rfl)
theorem wm_se_X10_ofItem : (Cond.selects RX10 yX10_ofItem yX10_ofItem) ∈ wsL_law := in_r12 _ (List.mem_of_getElem? (i := 3) rfl)
theorem wm_co_X10_ofItem : (Cond.code yX10_ofItem cX10_ofItem 3 (some .int)) ∈ wsL_law := in_r12 _ (List.mem_of_getElem? (i := 4) rfl)
theorem wm_ml_X10_92 : (Cond.methodLink RX10 92 yX10_doStock) ∈ wsL_law := in_r12 _ (List.mem_of_getElem? (i := 5) rfl)
theorem wm_im_X10_doStock : (Cond.instanceMethod yX10_doStock) ∈ wsL_law := in_r12 _ (List.mem_of_getElem? (i := 6) rfl)
theorem wm_se_X10_doStock : (Cond.selects RX10 yX10_doStock yX10_doStock) ∈ wsL_law := in_r12 _ (List.mem_of_getElem? (i := 7) rfl)
theorem wm_co_X10_doStock : (Cond.code yX10_doStock cX10_doStock 5 (some .int)) ∈ wsL_law := in_r12 _ (List.mem_of_getElem? (i := 8) rfl)
theorem wm_ml_X10_60 : (Cond.methodLink RX10 60 yX10_spend) ∈ wsL_law := in_r12 _ (List.mem_of_getElem? (i := 9) rfl)
theorem wm_im_X10_spend : (Cond.instanceMethod yX10_spend) ∈ wsL_law := in_r12 _ (List.mem_of_getElem? (i := 10) rfl)
theorem wm_se_X10_spend : (Cond.selects RX10 yX10_spend yX10_spend) ∈ wsL_law := in_r12 _ (List.mem_of_getElem? (i := 11) rfl)
theorem wm_co_X10_spend : (Cond.code yX10_spend cX10_spend 2 none) ∈ wsL_law := in_r12 _ (List.mem_of_getElem? (i := 12) rfl)
theorem wm_ml_L_23 : (Cond.methodLink RL 23 yX9_sell) ∈ wsL_law := in_r12 _ (List.mem_of_getElem? (i := 13) rfl)
theorem wm_im_X9_sell : (Cond.instanceMethod yX9_sell) ∈ wsL_law := in_r12 _ (List.mem_of_getElem? (i := 14) rfl)
theorem wm_se_X9_sell : (Cond.selects RX9 yX9_sell yX9_sell) ∈ wsL_law := in_r12 _ (List.mem_of_getElem? (i := 15) rfl)
theorem wm_co_X9_sell : (Cond.code yX9_sell cX9_sell 4 (some .int)) ∈ wsL_law := in_r12 _ (List.mem_of_getElem? (i := 16) rfl)
theorem wm_ml_X9_56 : (Cond.methodLink RX9 56 yX0_sellFromChest) ∈ wsL_law := in_r12 _ (List.mem_of_getElem? (i := 17) rfl)
theorem wm_im_X0_sellFromChest : (Cond.instanceMethod yX0_sellFromChest) ∈ wsL_law := in_r12 _ (List.mem_of_getElem? (i := 18) rfl)
theorem wm_se_X0_sellFromChest : (Cond.selects RX0 yX0_sellFromChest yX0_sellFromChest) ∈ wsL_law := in_r12 _ (List.mem_of_getElem? (i := 19) rfl)
theorem wm_co_X0_sellFromChest : (Cond.code yX0_sellFromChest cX0_sellFromChest 7 (some .int)) ∈ wsL_law := in_r12 _ (List.mem_of_getElem? (i := 20) rfl)
theorem wm_fl_X0_126 : (Cond.fieldLink RX0 126 "PurserLedgers$Sailor" "bought" "I") ∈ wsL_law := in_r12 _ (List.mem_of_getElem? (i := 21) rfl)
theorem wm_fl_X0_129 : (Cond.fieldLink RX0 129 "PurserLedgers$Totals" "charged" "I") ∈ wsL_law := in_r12 _ (List.mem_of_getElem? (i := 22) rfl)
theorem wm_ml_X0_115 : (Cond.methodLink RX0 115 yX0_findSailor) ∈ wsL_law := in_r12 _ (List.mem_of_getElem? (i := 23) rfl)
theorem wm_im_X0_findSailor : (Cond.instanceMethod yX0_findSailor) ∈ wsL_law := in_r13 _ (List.mem_of_getElem? (i := 0) rfl)
theorem wm_se_X0_findSailor : (Cond.selects RX0 yX0_findSailor yX0_findSailor) ∈ wsL_law := in_r13 _ (List.mem_of_getElem? (i := 1) rfl)
theorem wm_co_X0_findSailor : (Cond.code yX0_findSailor cX0_findSailor 2 (some (.object "PurserLedgers$Sailor"))) ∈ wsL_law := in_r13 _ (List.mem_of_getElem? (i := 2) rfl)
theorem wm_ml_X0_119 : (Cond.methodLink RX0 119 yX0_reasonAgainst) ∈ wsL_law := in_r13 _ (List.mem_of_getElem? (i := 3) rfl)
theorem wm_im_X0_reasonAgainst : (Cond.instanceMethod yX0_reasonAgainst) ∈ wsL_law := in_r13 _ (List.mem_of_getElem? (i := 4) rfl)
theorem wm_se_X0_reasonAgainst : (Cond.selects RX0 yX0_reasonAgainst yX0_reasonAgainst) ∈ wsL_law := in_r13 _ (List.mem_of_getElem? (i := 5) rfl)
theorem wm_co_X0_reasonAgainst : (Cond.code yX0_reasonAgainst cX0_reasonAgainst 4 (some .int)) ∈ wsL_law := in_r13 _ (List.mem_of_getElem? (i := 6) rfl)
theorem wm_fl_X0_136 : (Cond.fieldLink RX0 136 "PurserLedgers$Sailor" "whereabouts" "I") ∈ wsL_law := in_r13 _ (List.mem_of_getElem? (i := 7) rfl)
theorem wm_ml_X0_139 : (Cond.methodLink RX0 139 yX6_balance) ∈ wsL_law := in_r13 _ (List.mem_of_getElem? (i := 8) rfl)
theorem wm_im_X6_balance : (Cond.instanceMethod yX6_balance) ∈ wsL_law := in_r13 _ (List.mem_of_getElem? (i := 9) rfl)
theorem wm_se_X6_balance : (Cond.selects RX6 yX6_balance yX6_balance) ∈ wsL_law := in_r13 _ (List.mem_of_getElem? (i := 10) rfl)
theorem wm_co_X6_balance : (Cond.code yX6_balance cX6_balance 1 (some .int)) ∈ wsL_law := in_r13 _ (List.mem_of_getElem? (i := 11) rfl)
theorem wm_ml_X6_50 : (Cond.methodLink RX6 50 yX6_wages) ∈ wsL_law := in_r13 _ (List.mem_of_getElem? (i := 12) rfl)
theorem wm_im_X6_wages : (Cond.instanceMethod yX6_wages) ∈ wsL_law := in_r13 _ (List.mem_of_getElem? (i := 13) rfl)
theorem wm_se_X6_wages : (Cond.selects RX6 yX6_wages yX6_wages) ∈ wsL_law := in_r13 _ (List.mem_of_getElem? (i := 14) rfl)
theorem wm_co_X6_wages : (Cond.code yX6_wages cX6_wages 3 (some .int)) ∈ wsL_law := in_r13 _ (List.mem_of_getElem? (i := 15) rfl)
theorem wm_ml_X6_54 : (Cond.methodLink RX6 54 yX6_charged) ∈ wsL_law := in_r13 _ (List.mem_of_getElem? (i := 16) rfl)
theorem wm_im_X6_charged : (Cond.instanceMethod yX6_charged) ∈ wsL_law := in_r13 _ (List.mem_of_getElem? (i := 17) rfl)
theorem wm_se_X6_charged : (Cond.selects RX6 yX6_charged yX6_charged) ∈ wsL_law := in_r13 _ (List.mem_of_getElem? (i := 18) rfl)
theorem wm_co_X6_charged : (Cond.code yX6_charged cX6_charged 1 (some .int)) ∈ wsL_law := in_r13 _ (List.mem_of_getElem? (i := 19) rfl)
theorem wm_ml_X0_123 : (Cond.methodLink RX0 123 yX3_giveOut) ∈ wsL_law := in_r13 _ (List.mem_of_getElem? (i := 20) rfl)
theorem wm_im_X3_giveOut : (Cond.instanceMethod yX3_giveOut) ∈ wsL_law := in_r13 _ (List.mem_of_getElem? (i := 21) rfl)
theorem wm_se_X3_giveOut : (Cond.selects RX3 yX3_giveOut yX3_giveOut) ∈ wsL_law := in_r13 _ (List.mem_of_getElem? (i := 22) rfl)
theorem wm_co_X3_giveOut : (Cond.code yX3_giveOut cX3_giveOut 3 none) ∈ wsL_law := in_r13 _ (List.mem_of_getElem? (i := 23) rfl)
theorem wm_ml_X0_132 : (Cond.methodLink RX0 132 yX1_enter) ∈ wsL_law := in_r14 _ (List.mem_of_getElem? (i := 0) rfl)
theorem wm_im_X1_enter : (Cond.instanceMethod yX1_enter) ∈ wsL_law := in_r14 _ (List.mem_of_getElem? (i := 1) rfl)
theorem wm_se_X1_enter : (Cond.selects RX1 yX1_enter yX1_enter) ∈ wsL_law := in_r14 _ (List.mem_of_getElem? (i := 2) rfl)
theorem wm_co_X1_enter : (Cond.code yX1_enter cX1_enter 4 none) ∈ wsL_law := in_r14 _ (List.mem_of_getElem? (i := 3) rfl)
theorem wm_ml_X1_29 : (Cond.methodLink RX1 29 yX1_putAhead) ∈ wsL_law := in_r14 _ (List.mem_of_getElem? (i := 4) rfl)
theorem wm_st_X1_putAhead : (Cond.static yX1_putAhead) ∈ wsL_law := in_r14 _ (List.mem_of_getElem? (i := 5) rfl)
theorem wm_co_X1_putAhead : (Cond.code yX1_putAhead cX1_putAhead 3 none) ∈ wsL_law := in_r14 _ (List.mem_of_getElem? (i := 6) rfl)
theorem wm_ml_L_26 : (Cond.methodLink RL 26 yX10_sell) ∈ wsL_law := in_r14 _ (List.mem_of_getElem? (i := 7) rfl)
theorem wm_im_X10_sell : (Cond.instanceMethod yX10_sell) ∈ wsL_law := in_r14 _ (List.mem_of_getElem? (i := 8) rfl)
theorem wm_se_X10_sell : (Cond.selects RX10 yX10_sell yX10_sell) ∈ wsL_law := in_r14 _ (List.mem_of_getElem? (i := 9) rfl)
theorem wm_co_X10_sell : (Cond.code yX10_sell cX10_sell 5 (some .int)) ∈ wsL_law := in_r14 _ (List.mem_of_getElem? (i := 10) rfl)
theorem wm_ml_X10_107 : (Cond.methodLink RX10 107 yX10_noSell) ∈ wsL_law := in_r14 _ (List.mem_of_getElem? (i := 11) rfl)
theorem wm_im_X10_noSell : (Cond.instanceMethod yX10_noSell) ∈ wsL_law := in_r14 _ (List.mem_of_getElem? (i := 12) rfl)
theorem wm_se_X10_noSell : (Cond.selects RX10 yX10_noSell yX10_noSell) ∈ wsL_law := in_r14 _ (List.mem_of_getElem? (i := 13) rfl)
theorem wm_co_X10_noSell : (Cond.code yX10_noSell cX10_noSell 4 (some .int)) ∈ wsL_law := in_r14 _ (List.mem_of_getElem? (i := 14) rfl)
theorem wm_ml_X10_98 : (Cond.methodLink RX10 98 yX10_isSailor) ∈ wsL_law := in_r14 _ (List.mem_of_getElem? (i := 15) rfl)
theorem wm_im_X10_isSailor : (Cond.instanceMethod yX10_isSailor) ∈ wsL_law := in_r14 _ (List.mem_of_getElem? (i := 16) rfl)
theorem wm_se_X10_isSailor : (Cond.selects RX10 yX10_isSailor yX10_isSailor) ∈ wsL_law := in_r14 _ (List.mem_of_getElem? (i := 17) rfl)
theorem wm_co_X10_isSailor : (Cond.code yX10_isSailor cX10_isSailor 2 (some .boolean)) ∈ wsL_law := in_r14 _ (List.mem_of_getElem? (i := 18) rfl)
theorem wm_ml_X10_101 : (Cond.methodLink RX10 101 yX10_whyNot) ∈ wsL_law := in_r14 _ (List.mem_of_getElem? (i := 19) rfl)
theorem wm_im_X10_whyNot : (Cond.instanceMethod yX10_whyNot) ∈ wsL_law := in_r14 _ (List.mem_of_getElem? (i := 20) rfl)
theorem wm_se_X10_whyNot : (Cond.selects RX10 yX10_whyNot yX10_whyNot) ∈ wsL_law := in_r14 _ (List.mem_of_getElem? (i := 21) rfl)
theorem wm_co_X10_whyNot : (Cond.code yX10_whyNot cX10_whyNot 4 (some .int)) ∈ wsL_law := in_r14 _ (List.mem_of_getElem? (i := 22) rfl)
theorem wm_ml_X10_29 : (Cond.methodLink RX10 29 yX10_of) ∈ wsL_law := in_r14 _ (List.mem_of_getElem? (i := 23) rfl)
theorem wm_im_X10_of : (Cond.instanceMethod yX10_of) ∈ wsL_law := in_r15 _ (List.mem_of_getElem? (i := 0) rfl)
theorem wm_se_X10_of : (Cond.selects RX10 yX10_of yX10_of) ∈ wsL_law := in_r15 _ (List.mem_of_getElem? (i := 1) rfl)
theorem wm_co_X10_of : (Cond.code yX10_of cX10_of 3 (some .int)) ∈ wsL_law := in_r15 _ (List.mem_of_getElem? (i := 2) rfl)
theorem wm_ml_X10_95 : (Cond.methodLink RX10 95 yX10_balance) ∈ wsL_law := in_r15 _ (List.mem_of_getElem? (i := 3) rfl)
theorem wm_im_X10_balance : (Cond.instanceMethod yX10_balance) ∈ wsL_law := in_r15 _ (List.mem_of_getElem? (i := 4) rfl)
theorem wm_se_X10_balance : (Cond.selects RX10 yX10_balance yX10_balance) ∈ wsL_law := in_r15 _ (List.mem_of_getElem? (i := 5) rfl)
theorem wm_co_X10_balance : (Cond.code yX10_balance cX10_balance 2 (some .int)) ∈ wsL_law := in_r15 _ (List.mem_of_getElem? (i := 6) rfl)
theorem wm_ml_X10_42 : (Cond.methodLink RX10 42 yX10_isGone) ∈ wsL_law := in_r15 _ (List.mem_of_getElem? (i := 7) rfl)
theorem wm_im_X10_isGone : (Cond.instanceMethod yX10_isGone) ∈ wsL_law := in_r15 _ (List.mem_of_getElem? (i := 8) rfl)
theorem wm_se_X10_isGone : (Cond.selects RX10 yX10_isGone yX10_isGone) ∈ wsL_law := in_r15 _ (List.mem_of_getElem? (i := 9) rfl)
theorem wm_co_X10_isGone : (Cond.code yX10_isGone cX10_isGone 2 (some .boolean)) ∈ wsL_law := in_r15 _ (List.mem_of_getElem? (i := 10) rfl)
theorem wm_ml_X10_46 : (Cond.methodLink RX10 46 yX10_earned) ∈ wsL_law := in_r15 _ (List.mem_of_getElem? (i := 11) rfl)
theorem wm_im_X10_earned : (Cond.instanceMethod yX10_earned) ∈ wsL_law := in_r15 _ (List.mem_of_getElem? (i := 12) rfl)
theorem wm_se_X10_earned : (Cond.selects RX10 yX10_earned yX10_earned) ∈ wsL_law := in_r15 _ (List.mem_of_getElem? (i := 13) rfl)
theorem wm_co_X10_earned : (Cond.code yX10_earned cX10_earned 2 (some .int)) ∈ wsL_law := in_r15 _ (List.mem_of_getElem? (i := 14) rfl)
theorem wm_ml_X10_38 : (Cond.methodLink RX10 38 yX10_wages) ∈ wsL_law := in_r15 _ (List.mem_of_getElem? (i := 15) rfl)
theorem wm_st_X10_wages : (Cond.static yX10_wages) ∈ wsL_law := in_r15 _ (List.mem_of_getElem? (i := 16) rfl)
theorem wm_co_X10_wages : (Cond.code yX10_wages cX10_wages 4 (some .int)) ∈ wsL_law := in_r15 _ (List.mem_of_getElem? (i := 17) rfl)
theorem wm_ml_X10_50 : (Cond.methodLink RX10 50 yX10_charged) ∈ wsL_law := in_r15 _ (List.mem_of_getElem? (i := 18) rfl)
theorem wm_im_X10_charged : (Cond.instanceMethod yX10_charged) ∈ wsL_law := in_r15 _ (List.mem_of_getElem? (i := 19) rfl)
theorem wm_se_X10_charged : (Cond.selects RX10 yX10_charged yX10_charged) ∈ wsL_law := in_r15 _ (List.mem_of_getElem? (i := 20) rfl)
theorem wm_co_X10_charged : (Cond.code yX10_charged cX10_charged 2 (some .int)) ∈ wsL_law := in_r15 _ (List.mem_of_getElem? (i := 21) rfl)
theorem wm_ml_X10_110 : (Cond.methodLink RX10 110 yX10_doSell) ∈ wsL_law := in_r15 _ (List.mem_of_getElem? (i := 22) rfl)
theorem wm_im_X10_doSell : (Cond.instanceMethod yX10_doSell) ∈ wsL_law := in_r15 _ (List.mem_of_getElem? (i := 23) rfl)
theorem wm_se_X10_doSell : (Cond.selects RX10 yX10_doSell yX10_doSell) ∈ wsL_law := in_r16 _ (List.mem_of_getElem? (i := 0) rfl)
theorem wm_co_X10_doSell : (Cond.code yX10_doSell cX10_doSell 6 (some .int)) ∈ wsL_law := in_r16 _ (List.mem_of_getElem? (i := 1) rfl)
theorem wm_ml_X10_104 : (Cond.methodLink RX10 104 yX10_charge) ∈ wsL_law := in_r16 _ (List.mem_of_getElem? (i := 2) rfl)
theorem wm_im_X10_charge : (Cond.instanceMethod yX10_charge) ∈ wsL_law := in_r16 _ (List.mem_of_getElem? (i := 3) rfl)
theorem wm_se_X10_charge : (Cond.selects RX10 yX10_charge yX10_charge) ∈ wsL_law := in_r16 _ (List.mem_of_getElem? (i := 4) rfl)
theorem wm_co_X10_charge : (Cond.code yX10_charge cX10_charge 4 none) ∈ wsL_law := in_r16 _ (List.mem_of_getElem? (i := 5) rfl)
theorem wm_ml_X10_57 : (Cond.methodLink RX10 57 yX10_write) ∈ wsL_law := in_r16 _ (List.mem_of_getElem? (i := 6) rfl)
theorem wm_im_X10_write : (Cond.instanceMethod yX10_write) ∈ wsL_law := in_r16 _ (List.mem_of_getElem? (i := 7) rfl)
theorem wm_se_X10_write : (Cond.selects RX10 yX10_write yX10_write) ∈ wsL_law := in_r16 _ (List.mem_of_getElem? (i := 8) rfl)
theorem wm_co_X10_write : (Cond.code yX10_write cX10_write 5 none) ∈ wsL_law := in_r16 _ (List.mem_of_getElem? (i := 9) rfl)
theorem wm_ml_L_27 : (Cond.methodLink RL 27 yX9_advance) ∈ wsL_law := in_r16 _ (List.mem_of_getElem? (i := 10) rfl)
theorem wm_im_X9_advance : (Cond.instanceMethod yX9_advance) ∈ wsL_law := in_r16 _ (List.mem_of_getElem? (i := 11) rfl)
theorem wm_se_X9_advance : (Cond.selects RX9 yX9_advance yX9_advance) ∈ wsL_law := in_r16 _ (List.mem_of_getElem? (i := 12) rfl)
theorem wm_co_X9_advance : (Cond.code yX9_advance cX9_advance 3 (some .int)) ∈ wsL_law := in_r16 _ (List.mem_of_getElem? (i := 13) rfl)
theorem wm_ml_X9_59 : (Cond.methodLink RX9 59 yX0_advanceTo) ∈ wsL_law := in_r16 _ (List.mem_of_getElem? (i := 14) rfl)
theorem wm_im_X0_advanceTo : (Cond.instanceMethod yX0_advanceTo) ∈ wsL_law := in_r16 _ (List.mem_of_getElem? (i := 15) rfl)
theorem wm_se_X0_advanceTo : (Cond.selects RX0 yX0_advanceTo yX0_advanceTo) ∈ wsL_law := in_r16 _ (List.mem_of_getElem? (i := 16) rfl)
theorem wm_co_X0_advanceTo : (Cond.code yX0_advanceTo cX0_advanceTo 4 (some .int)) ∈ wsL_law := in_r16 _ (List.mem_of_getElem? (i := 17) rfl)
theorem wm_fl_X0_153 : (Cond.fieldLink RX0 153 "PurserLedgers$Sailor" "advances" "I") ∈ wsL_law := in_r16 _ (List.mem_of_getElem? (i := 18) rfl)
theorem wm_fl_X0_156 : (Cond.fieldLink RX0 156 "PurserLedgers$Totals" "advanced" "I") ∈ wsL_law := in_r16 _ (List.mem_of_getElem? (i := 19) rfl)
theorem wm_fl_X0_159 : (Cond.fieldLink RX0 159 "PurserLedgers$Totals" "cash" "I") ∈ wsL_law := in_r16 _ (List.mem_of_getElem? (i := 20) rfl)
theorem wm_ml_X0_149 : (Cond.methodLink RX0 149 yX6_isGone) ∈ wsL_law := in_r16 _ (List.mem_of_getElem? (i := 21) rfl)
theorem wm_im_X6_isGone : (Cond.instanceMethod yX6_isGone) ∈ wsL_law := in_r16 _ (List.mem_of_getElem? (i := 22) rfl)
theorem wm_se_X6_isGone : (Cond.selects RX6 yX6_isGone yX6_isGone) ∈ wsL_law := in_r16 _ (List.mem_of_getElem? (i := 23) rfl)
theorem wm_co_X6_isGone : (Cond.code yX6_isGone cX6_isGone 1 (some .boolean)) ∈ wsL_law := in_r17 _ (List.mem_of_getElem? (i := 0) rfl)
theorem wm_ml_L_30 : (Cond.methodLink RL 30 yX10_advance) ∈ wsL_law := in_r17 _ (List.mem_of_getElem? (i := 1) rfl)
theorem wm_im_X10_advance : (Cond.instanceMethod yX10_advance) ∈ wsL_law := in_r17 _ (List.mem_of_getElem? (i := 2) rfl)
theorem wm_se_X10_advance : (Cond.selects RX10 yX10_advance yX10_advance) ∈ wsL_law := in_r17 _ (List.mem_of_getElem? (i := 3) rfl)
theorem wm_co_X10_advance : (Cond.code yX10_advance cX10_advance 4 (some .int)) ∈ wsL_law := in_r17 _ (List.mem_of_getElem? (i := 4) rfl)
theorem wm_ml_X10_113 : (Cond.methodLink RX10 113 yX10_noAdvance) ∈ wsL_law := in_r17 _ (List.mem_of_getElem? (i := 5) rfl)
theorem wm_im_X10_noAdvance : (Cond.instanceMethod yX10_noAdvance) ∈ wsL_law := in_r17 _ (List.mem_of_getElem? (i := 6) rfl)
theorem wm_se_X10_noAdvance : (Cond.selects RX10 yX10_noAdvance yX10_noAdvance) ∈ wsL_law := in_r17 _ (List.mem_of_getElem? (i := 7) rfl)
theorem wm_co_X10_noAdvance : (Cond.code yX10_noAdvance cX10_noAdvance 3 (some .int)) ∈ wsL_law := in_r17 _ (List.mem_of_getElem? (i := 8) rfl)
theorem wm_ml_X10_116 : (Cond.methodLink RX10 116 yX10_doAdvance) ∈ wsL_law := in_r17 _ (List.mem_of_getElem? (i := 9) rfl)
theorem wm_im_X10_doAdvance : (Cond.instanceMethod yX10_doAdvance) ∈ wsL_law := in_r17 _ (List.mem_of_getElem? (i := 10) rfl)
theorem wm_se_X10_doAdvance : (Cond.selects RX10 yX10_doAdvance yX10_doAdvance) ∈ wsL_law := in_r17 _ (List.mem_of_getElem? (i := 11) rfl)
theorem wm_co_X10_doAdvance : (Cond.code yX10_doAdvance cX10_doAdvance 3 (some .int)) ∈ wsL_law := in_r17 _ (List.mem_of_getElem? (i := 12) rfl)
theorem wm_ml_L_31 : (Cond.methodLink RL 31 yX9_fine) ∈ wsL_law := in_r17 _ (List.mem_of_getElem? (i := 13) rfl)
theorem wm_im_X9_fine : (Cond.instanceMethod yX9_fine) ∈ wsL_law := in_r17 _ (List.mem_of_getElem? (i := 14) rfl)
theorem wm_se_X9_fine : (Cond.selects RX9 yX9_fine yX9_fine) ∈ wsL_law := in_r17 _ (List.mem_of_getElem? (i := 15) rfl)
theorem wm_co_X9_fine : (Cond.code yX9_fine cX9_fine 3 (some .int)) ∈ wsL_law := in_r17 _ (List.mem_of_getElem? (i := 16) rfl)
theorem wm_ml_X9_62 : (Cond.methodLink RX9 62 yX0_fineOne) ∈ wsL_law := in_r17 _ (List.mem_of_getElem? (i := 17) rfl)
theorem wm_im_X0_fineOne : (Cond.instanceMethod yX0_fineOne) ∈ wsL_law := in_r17 _ (List.mem_of_getElem? (i := 18) rfl)
theorem wm_se_X0_fineOne : (Cond.selects RX0 yX0_fineOne yX0_fineOne) ∈ wsL_law := in_r17 _ (List.mem_of_getElem? (i := 19) rfl)
theorem wm_co_X0_fineOne : (Cond.code yX0_fineOne cX0_fineOne 4 (some .int)) ∈ wsL_law := in_r17 _ (List.mem_of_getElem? (i := 20) rfl)
theorem wm_ml_X0_162 : (Cond.methodLink RX0 162 yX6_couldBeFined) ∈ wsL_law := in_r17 _ (List.mem_of_getElem? (i := 21) rfl)
theorem wm_im_X6_couldBeFined : (Cond.instanceMethod yX6_couldBeFined) ∈ wsL_law := in_r17 _ (List.mem_of_getElem? (i := 22) rfl)
theorem wm_se_X6_couldBeFined : (Cond.selects RX6 yX6_couldBeFined yX6_couldBeFined) ∈ wsL_law := in_r17 _ (List.mem_of_getElem? (i := 23) rfl)
theorem wm_co_X6_couldBeFined : (Cond.code yX6_couldBeFined cX6_couldBeFined 2 (some .boolean)) ∈ wsL_law := in_r18 _ (List.mem_of_getElem? (i := 0) rfl)
theorem wm_ml_X6_58 : (Cond.methodLink RX6 58 yX6_balance) ∈ wsL_law := in_r18 _ (List.mem_of_getElem? (i := 1) rfl)
theorem wm_ml_X0_166 : (Cond.methodLink RX0 166 yX0_chargeFine) ∈ wsL_law := in_r18 _ (List.mem_of_getElem? (i := 2) rfl)
theorem wm_im_X0_chargeFine : (Cond.instanceMethod yX0_chargeFine) ∈ wsL_law := in_r18 _ (List.mem_of_getElem? (i := 3) rfl)
theorem wm_se_X0_chargeFine : (Cond.selects RX0 yX0_chargeFine yX0_chargeFine) ∈ wsL_law := in_r18 _ (List.mem_of_getElem? (i := 4) rfl)
theorem wm_co_X0_chargeFine : (Cond.code yX0_chargeFine cX0_chargeFine 4 none) ∈ wsL_law := in_r18 _ (List.mem_of_getElem? (i := 5) rfl)
theorem wm_fl_X0_170 : (Cond.fieldLink RX0 170 "PurserLedgers$Sailor" "fines" "I") ∈ wsL_law := in_r18 _ (List.mem_of_getElem? (i := 6) rfl)
theorem wm_fl_X0_173 : (Cond.fieldLink RX0 173 "PurserLedgers$Totals" "fines" "I") ∈ wsL_law := in_r18 _ (List.mem_of_getElem? (i := 7) rfl)
theorem wm_ml_L_34 : (Cond.methodLink RL 34 yX10_fine) ∈ wsL_law := in_r18 _ (List.mem_of_getElem? (i := 8) rfl)
theorem wm_im_X10_fine : (Cond.instanceMethod yX10_fine) ∈ wsL_law := in_r18 _ (List.mem_of_getElem? (i := 9) rfl)
theorem wm_se_X10_fine : (Cond.selects RX10 yX10_fine yX10_fine) ∈ wsL_law := in_r18 _ (List.mem_of_getElem? (i := 10) rfl)
theorem wm_co_X10_fine : (Cond.code yX10_fine cX10_fine 4 (some .int)) ∈ wsL_law := in_r18 _ (List.mem_of_getElem? (i := 11) rfl)
theorem wm_ml_X10_119 : (Cond.methodLink RX10 119 yX10_noFine) ∈ wsL_law := in_r18 _ (List.mem_of_getElem? (i := 12) rfl)
theorem wm_im_X10_noFine : (Cond.instanceMethod yX10_noFine) ∈ wsL_law := in_r18 _ (List.mem_of_getElem? (i := 13) rfl)
theorem wm_se_X10_noFine : (Cond.selects RX10 yX10_noFine yX10_noFine) ∈ wsL_law := in_r18 _ (List.mem_of_getElem? (i := 14) rfl)
theorem wm_co_X10_noFine : (Cond.code yX10_noFine cX10_noFine 3 (some .int)) ∈ wsL_law := in_r18 _ (List.mem_of_getElem? (i := 15) rfl)
theorem wm_ml_X10_122 : (Cond.methodLink RX10 122 yX10_doFine) ∈ wsL_law := in_r18 _ (List.mem_of_getElem? (i := 16) rfl)
theorem wm_im_X10_doFine : (Cond.instanceMethod yX10_doFine) ∈ wsL_law := in_r18 _ (List.mem_of_getElem? (i := 17) rfl)
theorem wm_se_X10_doFine : (Cond.selects RX10 yX10_doFine yX10_doFine) ∈ wsL_law := in_r18 _ (List.mem_of_getElem? (i := 18) rfl)
theorem wm_co_X10_doFine : (Cond.code yX10_doFine cX10_doFine 3 (some .int)) ∈ wsL_law := in_r18 _ (List.mem_of_getElem? (i := 19) rfl)
theorem wm_ml_L_35 : (Cond.methodLink RL 35 yX9_fineWatch) ∈ wsL_law := in_r18 _ (List.mem_of_getElem? (i := 20) rfl)
theorem wm_im_X9_fineWatch : (Cond.instanceMethod yX9_fineWatch) ∈ wsL_law := in_r18 _ (List.mem_of_getElem? (i := 21) rfl)
theorem wm_se_X9_fineWatch : (Cond.selects RX9 yX9_fineWatch yX9_fineWatch) ∈ wsL_law := in_r18 _ (List.mem_of_getElem? (i := 22) rfl)
theorem wm_co_X9_fineWatch : (Cond.code yX9_fineWatch cX9_fineWatch 3 (some .int)) ∈ wsL_law := in_r18 _ (List.mem_of_getElem? (i := 23) rfl)
theorem wm_ml_X9_65 : (Cond.methodLink RX9 65 yX0_fineAll) ∈ wsL_law := in_r19 _ (List.mem_of_getElem? (i := 0) rfl)
theorem wm_im_X0_fineAll : (Cond.instanceMethod yX0_fineAll) ∈ wsL_law := in_r19 _ (List.mem_of_getElem? (i := 1) rfl)
theorem wm_se_X0_fineAll : (Cond.selects RX0 yX0_fineAll yX0_fineAll) ∈ wsL_law := in_r19 _ (List.mem_of_getElem? (i := 2) rfl)
theorem wm_co_X0_fineAll : (Cond.code yX0_fineAll cX0_fineAll 7 (some .int)) ∈ wsL_law := in_r19 _ (List.mem_of_getElem? (i := 3) rfl)
theorem wm_ml_X0_174 : (Cond.methodLink RX0 174 yX0_sizeOfWatch) ∈ wsL_law := in_r19 _ (List.mem_of_getElem? (i := 4) rfl)
theorem wm_im_X0_sizeOfWatch : (Cond.instanceMethod yX0_sizeOfWatch) ∈ wsL_law := in_r19 _ (List.mem_of_getElem? (i := 5) rfl)
theorem wm_se_X0_sizeOfWatch : (Cond.selects RX0 yX0_sizeOfWatch yX0_sizeOfWatch) ∈ wsL_law := in_r19 _ (List.mem_of_getElem? (i := 6) rfl)
theorem wm_co_X0_sizeOfWatch : (Cond.code yX0_sizeOfWatch cX0_sizeOfWatch 4 (some .int)) ∈ wsL_law := in_r19 _ (List.mem_of_getElem? (i := 7) rfl)
theorem wm_ml_X0_180 : (Cond.methodLink RX0 180 yX6_isOfWatch) ∈ wsL_law := in_r19 _ (List.mem_of_getElem? (i := 8) rfl)
theorem wm_im_X6_isOfWatch : (Cond.instanceMethod yX6_isOfWatch) ∈ wsL_law := in_r19 _ (List.mem_of_getElem? (i := 9) rfl)
theorem wm_se_X6_isOfWatch : (Cond.selects RX6 yX6_isOfWatch yX6_isOfWatch) ∈ wsL_law := in_r19 _ (List.mem_of_getElem? (i := 10) rfl)
theorem wm_co_X6_isOfWatch : (Cond.code yX6_isOfWatch cX6_isOfWatch 2 (some .boolean)) ∈ wsL_law := in_r19 _ (List.mem_of_getElem? (i := 11) rfl)
theorem wm_ml_X6_46 : (Cond.methodLink RX6 46 yX6_isGone) ∈ wsL_law := in_r19 _ (List.mem_of_getElem? (i := 12) rfl)
theorem wm_ml_X0_177 : (Cond.methodLink RX0 177 yX0_couldAllBeFined) ∈ wsL_law := in_r19 _ (List.mem_of_getElem? (i := 13) rfl)
theorem wm_im_X0_couldAllBeFined : (Cond.instanceMethod yX0_couldAllBeFined) ∈ wsL_law := in_r19 _ (List.mem_of_getElem? (i := 14) rfl)
theorem wm_se_X0_couldAllBeFined : (Cond.selects RX0 yX0_couldAllBeFined yX0_couldAllBeFined) ∈ wsL_law := in_r19 _ (List.mem_of_getElem? (i := 15) rfl)
theorem wm_co_X0_couldAllBeFined : (Cond.code yX0_couldAllBeFined cX0_couldAllBeFined 6 (some .boolean)) ∈ wsL_law := in_r19 _ (List.mem_of_getElem? (i := 16) rfl)
theorem wm_ml_L_38 : (Cond.methodLink RL 38 yX10_fineWatch) ∈ wsL_law := in_r19 _ (List.mem_of_getElem? (i := 17) rfl)
theorem wm_im_X10_fineWatch : (Cond.instanceMethod yX10_fineWatch) ∈ wsL_law := in_r19 _ (List.mem_of_getElem? (i := 18) rfl)
theorem wm_se_X10_fineWatch : (Cond.selects RX10 yX10_fineWatch yX10_fineWatch) ∈ wsL_law := in_r19 _ (List.mem_of_getElem? (i := 19) rfl)
theorem wm_co_X10_fineWatch : (Cond.code yX10_fineWatch cX10_fineWatch 6 (some .int)) ∈ wsL_law := in_r19 _ (List.mem_of_getElem? (i := 20) rfl)
theorem wm_ml_X10_125 : (Cond.methodLink RX10 125 yX10_ofWatch) ∈ wsL_law := in_r19 _ (List.mem_of_getElem? (i := 21) rfl)
theorem wm_im_X10_ofWatch : (Cond.instanceMethod yX10_ofWatch) ∈ wsL_law := in_r19 _ (List.mem_of_getElem? (i := 22) rfl)
theorem wm_se_X10_ofWatch : (Cond.selects RX10 yX10_ofWatch yX10_ofWatch) ∈ wsL_law := in_r19 _ (List.mem_of_getElem? (i := 23) rfl)
theorem wm_co_X10_ofWatch : (Cond.code yX10_ofWatch cX10_ofWatch 5 (some .int)) ∈ wsL_law := in_r20 _ (List.mem_of_getElem? (i := 0) rfl)
theorem wm_ml_X10_128 : (Cond.methodLink RX10 128 yX10_isFined) ∈ wsL_law := in_r20 _ (List.mem_of_getElem? (i := 1) rfl)
theorem wm_im_X10_isFined : (Cond.instanceMethod yX10_isFined) ∈ wsL_law := in_r20 _ (List.mem_of_getElem? (i := 2) rfl)
theorem wm_se_X10_isFined : (Cond.selects RX10 yX10_isFined yX10_isFined) ∈ wsL_law := in_r20 _ (List.mem_of_getElem? (i := 3) rfl)
theorem wm_co_X10_isFined : (Cond.code yX10_isFined cX10_isFined 3 (some .boolean)) ∈ wsL_law := in_r20 _ (List.mem_of_getElem? (i := 4) rfl)
theorem wm_ml_X10_132 : (Cond.methodLink RX10 132 yX10_partOf) ∈ wsL_law := in_r20 _ (List.mem_of_getElem? (i := 5) rfl)
theorem wm_im_X10_partOf : (Cond.instanceMethod yX10_partOf) ∈ wsL_law := in_r20 _ (List.mem_of_getElem? (i := 6) rfl)
theorem wm_se_X10_partOf : (Cond.selects RX10 yX10_partOf yX10_partOf) ∈ wsL_law := in_r20 _ (List.mem_of_getElem? (i := 7) rfl)
theorem wm_co_X10_partOf : (Cond.code yX10_partOf cX10_partOf 5 (some .int)) ∈ wsL_law := in_r20 _ (List.mem_of_getElem? (i := 8) rfl)
theorem wm_ml_L_39 : (Cond.methodLink RL 39 yX9_leave) ∈ wsL_law := in_r20 _ (List.mem_of_getElem? (i := 9) rfl)
theorem wm_im_X9_leave : (Cond.instanceMethod yX9_leave) ∈ wsL_law := in_r20 _ (List.mem_of_getElem? (i := 10) rfl)
theorem wm_se_X9_leave : (Cond.selects RX9 yX9_leave yX9_leave) ∈ wsL_law := in_r20 _ (List.mem_of_getElem? (i := 11) rfl)
theorem wm_co_X9_leave : (Cond.code yX9_leave cX9_leave 2 (some .int)) ∈ wsL_law := in_r20 _ (List.mem_of_getElem? (i := 12) rfl)
theorem wm_ml_X9_68 : (Cond.methodLink RX9 68 yX0_letAshore) ∈ wsL_law := in_r20 _ (List.mem_of_getElem? (i := 13) rfl)
theorem wm_im_X0_letAshore : (Cond.instanceMethod yX0_letAshore) ∈ wsL_law := in_r20 _ (List.mem_of_getElem? (i := 14) rfl)
theorem wm_se_X0_letAshore : (Cond.selects RX0 yX0_letAshore yX0_letAshore) ∈ wsL_law := in_r20 _ (List.mem_of_getElem? (i := 15) rfl)
theorem wm_co_X0_letAshore : (Cond.code yX0_letAshore cX0_letAshore 4 (some .int)) ∈ wsL_law := in_r20 _ (List.mem_of_getElem? (i := 16) rfl)
theorem wm_ml_X0_183 : (Cond.methodLink RX0 183 yX0_setOf) ∈ wsL_law := in_r20 _ (List.mem_of_getElem? (i := 17) rfl)
theorem wm_im_X0_setOf : (Cond.instanceMethod yX0_setOf) ∈ wsL_law := in_r20 _ (List.mem_of_getElem? (i := 18) rfl)
theorem wm_se_X0_setOf : (Cond.selects RX0 yX0_setOf yX0_setOf) ∈ wsL_law := in_r20 _ (List.mem_of_getElem? (i := 19) rfl)
theorem wm_co_X0_setOf : (Cond.code yX0_setOf cX0_setOf 4 (some .int)) ∈ wsL_law := in_r20 _ (List.mem_of_getElem? (i := 20) rfl)
theorem wm_ml_L_43 : (Cond.methodLink RL 43 yX10_leave) ∈ wsL_law := in_r20 _ (List.mem_of_getElem? (i := 21) rfl)
theorem wm_im_X10_leave : (Cond.instanceMethod yX10_leave) ∈ wsL_law := in_r20 _ (List.mem_of_getElem? (i := 22) rfl)
theorem wm_se_X10_leave : (Cond.selects RX10 yX10_leave yX10_leave) ∈ wsL_law := in_r20 _ (List.mem_of_getElem? (i := 23) rfl)
theorem wm_co_X10_leave : (Cond.code yX10_leave cX10_leave 3 (some .int)) ∈ wsL_law := in_r21 _ (List.mem_of_getElem? (i := 0) rfl)
theorem wm_ml_X10_141 : (Cond.methodLink RX10 141 yX10_noLeave) ∈ wsL_law := in_r21 _ (List.mem_of_getElem? (i := 1) rfl)
theorem wm_im_X10_noLeave : (Cond.instanceMethod yX10_noLeave) ∈ wsL_law := in_r21 _ (List.mem_of_getElem? (i := 2) rfl)
theorem wm_se_X10_noLeave : (Cond.selects RX10 yX10_noLeave yX10_noLeave) ∈ wsL_law := in_r21 _ (List.mem_of_getElem? (i := 3) rfl)
theorem wm_co_X10_noLeave : (Cond.code yX10_noLeave cX10_noLeave 2 (some .int)) ∈ wsL_law := in_r21 _ (List.mem_of_getElem? (i := 4) rfl)
theorem wm_ml_X10_135 : (Cond.methodLink RX10 135 yX10_inPlace) ∈ wsL_law := in_r21 _ (List.mem_of_getElem? (i := 5) rfl)
theorem wm_im_X10_inPlace : (Cond.instanceMethod yX10_inPlace) ∈ wsL_law := in_r21 _ (List.mem_of_getElem? (i := 6) rfl)
theorem wm_se_X10_inPlace : (Cond.selects RX10 yX10_inPlace yX10_inPlace) ∈ wsL_law := in_r21 _ (List.mem_of_getElem? (i := 7) rfl)
theorem wm_co_X10_inPlace : (Cond.code yX10_inPlace cX10_inPlace 4 (some .int)) ∈ wsL_law := in_r21 _ (List.mem_of_getElem? (i := 8) rfl)
theorem wm_ml_X10_138 : (Cond.methodLink RX10 138 yX10_aboardOf) ∈ wsL_law := in_r21 _ (List.mem_of_getElem? (i := 9) rfl)
theorem wm_im_X10_aboardOf : (Cond.instanceMethod yX10_aboardOf) ∈ wsL_law := in_r21 _ (List.mem_of_getElem? (i := 10) rfl)
theorem wm_se_X10_aboardOf : (Cond.selects RX10 yX10_aboardOf yX10_aboardOf) ∈ wsL_law := in_r21 _ (List.mem_of_getElem? (i := 11) rfl)
theorem wm_co_X10_aboardOf : (Cond.code yX10_aboardOf cX10_aboardOf 4 (some .int)) ∈ wsL_law := in_r21 _ (List.mem_of_getElem? (i := 12) rfl)
theorem wm_ml_X10_144 : (Cond.methodLink RX10 144 yX10_doLeave) ∈ wsL_law := in_r21 _ (List.mem_of_getElem? (i := 13) rfl)
theorem wm_im_X10_doLeave : (Cond.instanceMethod yX10_doLeave) ∈ wsL_law := in_r21 _ (List.mem_of_getElem? (i := 14) rfl)
theorem wm_se_X10_doLeave : (Cond.selects RX10 yX10_doLeave yX10_doLeave) ∈ wsL_law := in_r21 _ (List.mem_of_getElem? (i := 15) rfl)
theorem wm_co_X10_doLeave : (Cond.code yX10_doLeave cX10_doLeave 4 (some .int)) ∈ wsL_law := in_r21 _ (List.mem_of_getElem? (i := 16) rfl)
theorem wm_ml_L_44 : (Cond.methodLink RL 44 yX9_back) ∈ wsL_law := in_r21 _ (List.mem_of_getElem? (i := 17) rfl)
theorem wm_im_X9_back : (Cond.instanceMethod yX9_back) ∈ wsL_law := in_r21 _ (List.mem_of_getElem? (i := 18) rfl)
theorem wm_se_X9_back : (Cond.selects RX9 yX9_back yX9_back) ∈ wsL_law := in_r21 _ (List.mem_of_getElem? (i := 19) rfl)
theorem wm_co_X9_back : (Cond.code yX9_back cX9_back 3 (some .int)) ∈ wsL_law := in_r21 _ (List.mem_of_getElem? (i := 20) rfl)
theorem wm_ml_X9_71 : (Cond.methodLink RX9 71 yX0_comeBack) ∈ wsL_law := in_r21 _ (List.mem_of_getElem? (i := 21) rfl)
theorem wm_im_X0_comeBack : (Cond.instanceMethod yX0_comeBack) ∈ wsL_law := in_r21 _ (List.mem_of_getElem? (i := 22) rfl)
theorem wm_se_X0_comeBack : (Cond.selects RX0 yX0_comeBack yX0_comeBack) ∈ wsL_law := in_r21 _ (List.mem_of_getElem? (i := 23) rfl)
theorem wm_co_X0_comeBack : (Cond.code yX0_comeBack cX0_comeBack 5 (some .int)) ∈ wsL_law := in_r22 _ (List.mem_of_getElem? (i := 0) rfl)
theorem wm_ml_L_47 : (Cond.methodLink RL 47 yX10_back) ∈ wsL_law := in_r22 _ (List.mem_of_getElem? (i := 1) rfl)
theorem wm_im_X10_back : (Cond.instanceMethod yX10_back) ∈ wsL_law := in_r22 _ (List.mem_of_getElem? (i := 2) rfl)
theorem wm_se_X10_back : (Cond.selects RX10 yX10_back yX10_back) ∈ wsL_law := in_r22 _ (List.mem_of_getElem? (i := 3) rfl)
theorem wm_co_X10_back : (Cond.code yX10_back cX10_back 4 (some .int)) ∈ wsL_law := in_r22 _ (List.mem_of_getElem? (i := 4) rfl)
theorem wm_ml_X10_147 : (Cond.methodLink RX10 147 yX10_noBack) ∈ wsL_law := in_r22 _ (List.mem_of_getElem? (i := 5) rfl)
theorem wm_im_X10_noBack : (Cond.instanceMethod yX10_noBack) ∈ wsL_law := in_r22 _ (List.mem_of_getElem? (i := 6) rfl)
theorem wm_se_X10_noBack : (Cond.selects RX10 yX10_noBack yX10_noBack) ∈ wsL_law := in_r22 _ (List.mem_of_getElem? (i := 7) rfl)
theorem wm_co_X10_noBack : (Cond.code yX10_noBack cX10_noBack 3 (some .int)) ∈ wsL_law := in_r22 _ (List.mem_of_getElem? (i := 8) rfl)
theorem wm_ml_X10_150 : (Cond.methodLink RX10 150 yX10_doBack) ∈ wsL_law := in_r22 _ (List.mem_of_getElem? (i := 9) rfl)
theorem wm_im_X10_doBack : (Cond.instanceMethod yX10_doBack) ∈ wsL_law := in_r22 _ (List.mem_of_getElem? (i := 10) rfl)
theorem wm_se_X10_doBack : (Cond.selects RX10 yX10_doBack yX10_doBack) ∈ wsL_law := in_r22 _ (List.mem_of_getElem? (i := 11) rfl)
theorem wm_co_X10_doBack : (Cond.code yX10_doBack cX10_doBack 3 (some .int)) ∈ wsL_law := in_r22 _ (List.mem_of_getElem? (i := 12) rfl)
theorem wm_ml_L_48 : (Cond.methodLink RL 48 yX9_sail) ∈ wsL_law := in_r22 _ (List.mem_of_getElem? (i := 13) rfl)
theorem wm_im_X9_sail : (Cond.instanceMethod yX9_sail) ∈ wsL_law := in_r22 _ (List.mem_of_getElem? (i := 14) rfl)
theorem wm_se_X9_sail : (Cond.selects RX9 yX9_sail yX9_sail) ∈ wsL_law := in_r22 _ (List.mem_of_getElem? (i := 15) rfl)
theorem wm_co_X9_sail : (Cond.code yX9_sail cX9_sail 1 (some .int)) ∈ wsL_law := in_r22 _ (List.mem_of_getElem? (i := 16) rfl)
theorem wm_ml_X9_74 : (Cond.methodLink RX9 74 yX0_putToSea) ∈ wsL_law := in_r22 _ (List.mem_of_getElem? (i := 17) rfl)
theorem wm_im_X0_putToSea : (Cond.instanceMethod yX0_putToSea) ∈ wsL_law := in_r22 _ (List.mem_of_getElem? (i := 18) rfl)
theorem wm_se_X0_putToSea : (Cond.selects RX0 yX0_putToSea yX0_putToSea) ∈ wsL_law := in_r22 _ (List.mem_of_getElem? (i := 19) rfl)
theorem wm_co_X0_putToSea : (Cond.code yX0_putToSea cX0_putToSea 3 (some .int)) ∈ wsL_law := in_r22 _ (List.mem_of_getElem? (i := 20) rfl)
theorem wm_fl_X0_186 : (Cond.fieldLink RX0 186 "PurserLedgers$Totals" "forfeit" "I") ∈ wsL_law := in_r22 _ (List.mem_of_getElem? (i := 21) rfl)
theorem wm_ml_X0_189 : (Cond.methodLink RX0 189 yX6_goAway) ∈ wsL_law := in_r22 _ (List.mem_of_getElem? (i := 22) rfl)
theorem wm_im_X6_goAway : (Cond.instanceMethod yX6_goAway) ∈ wsL_law := in_r22 _ (List.mem_of_getElem? (i := 23) rfl)
theorem wm_se_X6_goAway : (Cond.selects RX6 yX6_goAway yX6_goAway) ∈ wsL_law := in_r23 _ (List.mem_of_getElem? (i := 0) rfl)
theorem wm_co_X6_goAway : (Cond.code yX6_goAway cX6_goAway 1 none) ∈ wsL_law := in_r23 _ (List.mem_of_getElem? (i := 1) rfl)
theorem wm_ml_L_52 : (Cond.methodLink RL 52 yX10_sail) ∈ wsL_law := in_r23 _ (List.mem_of_getElem? (i := 2) rfl)
theorem wm_im_X10_sail : (Cond.instanceMethod yX10_sail) ∈ wsL_law := in_r23 _ (List.mem_of_getElem? (i := 3) rfl)
theorem wm_se_X10_sail : (Cond.selects RX10 yX10_sail yX10_sail) ∈ wsL_law := in_r23 _ (List.mem_of_getElem? (i := 4) rfl)
theorem wm_co_X10_sail : (Cond.code yX10_sail cX10_sail 2 (some .int)) ∈ wsL_law := in_r23 _ (List.mem_of_getElem? (i := 5) rfl)
theorem wm_ml_X10_153 : (Cond.methodLink RX10 153 yX10_noSail) ∈ wsL_law := in_r23 _ (List.mem_of_getElem? (i := 6) rfl)
theorem wm_im_X10_noSail : (Cond.instanceMethod yX10_noSail) ∈ wsL_law := in_r23 _ (List.mem_of_getElem? (i := 7) rfl)
theorem wm_se_X10_noSail : (Cond.selects RX10 yX10_noSail yX10_noSail) ∈ wsL_law := in_r23 _ (List.mem_of_getElem? (i := 8) rfl)
theorem wm_co_X10_noSail : (Cond.code yX10_noSail cX10_noSail 1 (some .int)) ∈ wsL_law := in_r23 _ (List.mem_of_getElem? (i := 9) rfl)
theorem wm_ml_X10_157 : (Cond.methodLink RX10 157 yX10_doSail) ∈ wsL_law := in_r23 _ (List.mem_of_getElem? (i := 10) rfl)
theorem wm_im_X10_doSail : (Cond.instanceMethod yX10_doSail) ∈ wsL_law := in_r23 _ (List.mem_of_getElem? (i := 11) rfl)
theorem wm_se_X10_doSail : (Cond.selects RX10 yX10_doSail yX10_doSail) ∈ wsL_law := in_r23 _ (List.mem_of_getElem? (i := 12) rfl)
theorem wm_co_X10_doSail : (Cond.code yX10_doSail cX10_doSail 3 (some .int)) ∈ wsL_law := in_r23 _ (List.mem_of_getElem? (i := 13) rfl)
theorem wm_ml_L_53 : (Cond.methodLink RL 53 yX9_port) ∈ wsL_law := in_r23 _ (List.mem_of_getElem? (i := 14) rfl)
theorem wm_im_X9_port : (Cond.instanceMethod yX9_port) ∈ wsL_law := in_r23 _ (List.mem_of_getElem? (i := 15) rfl)
theorem wm_se_X9_port : (Cond.selects RX9 yX9_port yX9_port) ∈ wsL_law := in_r23 _ (List.mem_of_getElem? (i := 16) rfl)
theorem wm_co_X9_port : (Cond.code yX9_port cX9_port 1 (some .int)) ∈ wsL_law := in_r23 _ (List.mem_of_getElem? (i := 17) rfl)
theorem wm_ml_X9_78 : (Cond.methodLink RX9 78 yX0_comeIntoPort) ∈ wsL_law := in_r23 _ (List.mem_of_getElem? (i := 18) rfl)
theorem wm_im_X0_comeIntoPort : (Cond.instanceMethod yX0_comeIntoPort) ∈ wsL_law := in_r23 _ (List.mem_of_getElem? (i := 19) rfl)
theorem wm_se_X0_comeIntoPort : (Cond.selects RX0 yX0_comeIntoPort yX0_comeIntoPort) ∈ wsL_law := in_r23 _ (List.mem_of_getElem? (i := 20) rfl)
theorem wm_co_X0_comeIntoPort : (Cond.code yX0_comeIntoPort cX0_comeIntoPort 1 (some .int)) ∈ wsL_law := in_r23 _ (List.mem_of_getElem? (i := 21) rfl)
theorem wm_ml_L_56 : (Cond.methodLink RL 56 yX10_port) ∈ wsL_law := in_r23 _ (List.mem_of_getElem? (i := 22) rfl)
theorem wm_im_X10_port : (Cond.instanceMethod yX10_port) ∈ wsL_law := in_r23 _ (List.mem_of_getElem? (i := 23) rfl)
theorem wm_se_X10_port : (Cond.selects RX10 yX10_port yX10_port) ∈ wsL_law := in_r24 _ (List.mem_of_getElem? (i := 0) rfl)
theorem wm_co_X10_port : (Cond.code yX10_port cX10_port 2 (some .int)) ∈ wsL_law := in_r24 _ (List.mem_of_getElem? (i := 1) rfl)
theorem wm_ml_X10_160 : (Cond.methodLink RX10 160 yX10_noPort) ∈ wsL_law := in_r24 _ (List.mem_of_getElem? (i := 2) rfl)
theorem wm_im_X10_noPort : (Cond.instanceMethod yX10_noPort) ∈ wsL_law := in_r24 _ (List.mem_of_getElem? (i := 3) rfl)
theorem wm_se_X10_noPort : (Cond.selects RX10 yX10_noPort yX10_noPort) ∈ wsL_law := in_r24 _ (List.mem_of_getElem? (i := 4) rfl)
theorem wm_co_X10_noPort : (Cond.code yX10_noPort cX10_noPort 1 (some .int)) ∈ wsL_law := in_r24 _ (List.mem_of_getElem? (i := 5) rfl)
theorem wm_ml_X10_163 : (Cond.methodLink RX10 163 yX10_doPort) ∈ wsL_law := in_r24 _ (List.mem_of_getElem? (i := 6) rfl)
theorem wm_im_X10_doPort : (Cond.instanceMethod yX10_doPort) ∈ wsL_law := in_r24 _ (List.mem_of_getElem? (i := 7) rfl)
theorem wm_se_X10_doPort : (Cond.selects RX10 yX10_doPort yX10_doPort) ∈ wsL_law := in_r24 _ (List.mem_of_getElem? (i := 8) rfl)
theorem wm_co_X10_doPort : (Cond.code yX10_doPort cX10_doPort 1 (some .int)) ∈ wsL_law := in_r24 _ (List.mem_of_getElem? (i := 9) rfl)
theorem wm_ml_L_57 : (Cond.methodLink RL 57 yX9_days) ∈ wsL_law := in_r24 _ (List.mem_of_getElem? (i := 10) rfl)
theorem wm_im_X9_days : (Cond.instanceMethod yX9_days) ∈ wsL_law := in_r24 _ (List.mem_of_getElem? (i := 11) rfl)
theorem wm_se_X9_days : (Cond.selects RX9 yX9_days yX9_days) ∈ wsL_law := in_r24 _ (List.mem_of_getElem? (i := 12) rfl)
theorem wm_co_X9_days : (Cond.code yX9_days cX9_days 2 (some .int)) ∈ wsL_law := in_r24 _ (List.mem_of_getElem? (i := 13) rfl)
theorem wm_ml_X9_81 : (Cond.methodLink RX9 81 yX0_passDays) ∈ wsL_law := in_r24 _ (List.mem_of_getElem? (i := 14) rfl)
theorem wm_im_X0_passDays : (Cond.instanceMethod yX0_passDays) ∈ wsL_law := in_r24 _ (List.mem_of_getElem? (i := 15) rfl)
theorem wm_se_X0_passDays : (Cond.selects RX0 yX0_passDays yX0_passDays) ∈ wsL_law := in_r24 _ (List.mem_of_getElem? (i := 16) rfl)
theorem wm_co_X0_passDays : (Cond.code yX0_passDays cX0_passDays 3 (some .int)) ∈ wsL_law := in_r24 _ (List.mem_of_getElem? (i := 17) rfl)
theorem wm_ml_X0_192 : (Cond.methodLink RX0 192 yX6_passDays) ∈ wsL_law := in_r24 _ (List.mem_of_getElem? (i := 18) rfl)
theorem wm_im_X6_passDays : (Cond.instanceMethod yX6_passDays) ∈ wsL_law := in_r24 _ (List.mem_of_getElem? (i := 19) rfl)
theorem wm_se_X6_passDays : (Cond.selects RX6 yX6_passDays yX6_passDays) ∈ wsL_law := in_r24 _ (List.mem_of_getElem? (i := 20) rfl)
theorem wm_co_X6_passDays : (Cond.code yX6_passDays cX6_passDays 3 none) ∈ wsL_law := in_r24 _ (List.mem_of_getElem? (i := 21) rfl)
theorem wm_ml_L_60 : (Cond.methodLink RL 60 yX10_days) ∈ wsL_law := in_r24 _ (List.mem_of_getElem? (i := 22) rfl)
theorem wm_im_X10_days : (Cond.instanceMethod yX10_days) ∈ wsL_law := in_r24 _ (List.mem_of_getElem? (i := 23) rfl)
theorem wm_se_X10_days : (Cond.selects RX10 yX10_days yX10_days) ∈ wsL_law := in_r25 _ (List.mem_of_getElem? (i := 0) rfl)
theorem wm_co_X10_days : (Cond.code yX10_days cX10_days 3 (some .int)) ∈ wsL_law := in_r25 _ (List.mem_of_getElem? (i := 1) rfl)
theorem wm_ml_X10_166 : (Cond.methodLink RX10 166 yX10_noDays) ∈ wsL_law := in_r25 _ (List.mem_of_getElem? (i := 2) rfl)
theorem wm_im_X10_noDays : (Cond.instanceMethod yX10_noDays) ∈ wsL_law := in_r25 _ (List.mem_of_getElem? (i := 3) rfl)
theorem wm_se_X10_noDays : (Cond.selects RX10 yX10_noDays yX10_noDays) ∈ wsL_law := in_r25 _ (List.mem_of_getElem? (i := 4) rfl)
theorem wm_co_X10_noDays : (Cond.code yX10_noDays cX10_noDays 2 (some .int)) ∈ wsL_law := in_r25 _ (List.mem_of_getElem? (i := 5) rfl)
theorem wm_ml_X10_169 : (Cond.methodLink RX10 169 yX10_doDays) ∈ wsL_law := in_r25 _ (List.mem_of_getElem? (i := 6) rfl)
theorem wm_im_X10_doDays : (Cond.instanceMethod yX10_doDays) ∈ wsL_law := in_r25 _ (List.mem_of_getElem? (i := 7) rfl)
theorem wm_se_X10_doDays : (Cond.selects RX10 yX10_doDays yX10_doDays) ∈ wsL_law := in_r25 _ (List.mem_of_getElem? (i := 8) rfl)
theorem wm_co_X10_doDays : (Cond.code yX10_doDays cX10_doDays 4 (some .int)) ∈ wsL_law := in_r25 _ (List.mem_of_getElem? (i := 9) rfl)
theorem wm_ml_L_61 : (Cond.methodLink RL 61 yX9_dismiss) ∈ wsL_law := in_r25 _ (List.mem_of_getElem? (i := 10) rfl)
theorem wm_im_X9_dismiss : (Cond.instanceMethod yX9_dismiss) ∈ wsL_law := in_r25 _ (List.mem_of_getElem? (i := 11) rfl)
theorem wm_se_X9_dismiss : (Cond.selects RX9 yX9_dismiss yX9_dismiss) ∈ wsL_law := in_r25 _ (List.mem_of_getElem? (i := 12) rfl)
theorem wm_co_X9_dismiss : (Cond.code yX9_dismiss cX9_dismiss 2 (some .int)) ∈ wsL_law := in_r25 _ (List.mem_of_getElem? (i := 13) rfl)
theorem wm_ml_X9_84 : (Cond.methodLink RX9 84 yX0_sendAway) ∈ wsL_law := in_r25 _ (List.mem_of_getElem? (i := 14) rfl)
theorem wm_im_X0_sendAway : (Cond.instanceMethod yX0_sendAway) ∈ wsL_law := in_r25 _ (List.mem_of_getElem? (i := 15) rfl)
theorem wm_se_X0_sendAway : (Cond.selects RX0 yX0_sendAway yX0_sendAway) ∈ wsL_law := in_r25 _ (List.mem_of_getElem? (i := 16) rfl)
theorem wm_co_X0_sendAway : (Cond.code yX0_sendAway cX0_sendAway 4 (some .int)) ∈ wsL_law := in_r25 _ (List.mem_of_getElem? (i := 17) rfl)
theorem wm_ml_X0_196 : (Cond.methodLink RX0 196 yX0_payTo) ∈ wsL_law := in_r25 _ (List.mem_of_getElem? (i := 18) rfl)
theorem wm_im_X0_payTo : (Cond.instanceMethod yX0_payTo) ∈ wsL_law := in_r25 _ (List.mem_of_getElem? (i := 19) rfl)
theorem wm_se_X0_payTo : (Cond.selects RX0 yX0_payTo yX0_payTo) ∈ wsL_law := in_r25 _ (List.mem_of_getElem? (i := 20) rfl)
theorem wm_co_X0_payTo : (Cond.code yX0_payTo cX0_payTo 4 none) ∈ wsL_law := in_r25 _ (List.mem_of_getElem? (i := 21) rfl)
theorem wm_fl_X0_199 : (Cond.fieldLink RX0 199 "PurserLedgers$Sailor" "paid" "I") ∈ wsL_law := in_r25 _ (List.mem_of_getElem? (i := 22) rfl)
theorem wm_fl_X0_202 : (Cond.fieldLink RX0 202 "PurserLedgers$Totals" "paid" "I") ∈ wsL_law := in_r25 _ (List.mem_of_getElem? (i := 23) rfl)
theorem wm_ml_L_64 : (Cond.methodLink RL 64 yX10_dismiss) ∈ wsL_law := in_r26 _ (List.mem_of_getElem? (i := 0) rfl)
theorem wm_im_X10_dismiss : (Cond.instanceMethod yX10_dismiss) ∈ wsL_law := in_r26 _ (List.mem_of_getElem? (i := 1) rfl)
theorem wm_se_X10_dismiss : (Cond.selects RX10 yX10_dismiss yX10_dismiss) ∈ wsL_law := in_r26 _ (List.mem_of_getElem? (i := 2) rfl)
theorem wm_co_X10_dismiss : (Cond.code yX10_dismiss cX10_dismiss 3 (some .int)) ∈ wsL_law := in_r26 _ (List.mem_of_getElem? (i := 3) rfl)
theorem wm_ml_X10_172 : (Cond.methodLink RX10 172 yX10_pay) ∈ wsL_law := in_r26 _ (List.mem_of_getElem? (i := 4) rfl)
theorem wm_im_X10_pay : (Cond.instanceMethod yX10_pay) ∈ wsL_law := in_r26 _ (List.mem_of_getElem? (i := 5) rfl)
theorem wm_se_X10_pay : (Cond.selects RX10 yX10_pay yX10_pay) ∈ wsL_law := in_r26 _ (List.mem_of_getElem? (i := 6) rfl)
theorem wm_co_X10_pay : (Cond.code yX10_pay cX10_pay 3 none) ∈ wsL_law := in_r26 _ (List.mem_of_getElem? (i := 7) rfl)
theorem wm_ml_L_65 : (Cond.methodLink RL 65 yX9_payOff) ∈ wsL_law := in_r26 _ (List.mem_of_getElem? (i := 8) rfl)
theorem wm_im_X9_payOff : (Cond.instanceMethod yX9_payOff) ∈ wsL_law := in_r26 _ (List.mem_of_getElem? (i := 9) rfl)
theorem wm_se_X9_payOff : (Cond.selects RX9 yX9_payOff yX9_payOff) ∈ wsL_law := in_r26 _ (List.mem_of_getElem? (i := 10) rfl)
theorem wm_co_X9_payOff : (Cond.code yX9_payOff cX9_payOff 1 (some .int)) ∈ wsL_law := in_r26 _ (List.mem_of_getElem? (i := 11) rfl)
theorem wm_ml_X9_87 : (Cond.methodLink RX9 87 yX0_endVoyage) ∈ wsL_law := in_r26 _ (List.mem_of_getElem? (i := 12) rfl)
theorem wm_im_X0_endVoyage : (Cond.instanceMethod yX0_endVoyage) ∈ wsL_law := in_r26 _ (List.mem_of_getElem? (i := 13) rfl)
theorem wm_se_X0_endVoyage : (Cond.selects RX0 yX0_endVoyage yX0_endVoyage) ∈ wsL_law := in_r26 _ (List.mem_of_getElem? (i := 14) rfl)
theorem wm_co_X0_endVoyage : (Cond.code yX0_endVoyage cX0_endVoyage 4 (some .int)) ∈ wsL_law := in_r26 _ (List.mem_of_getElem? (i := 15) rfl)
theorem wm_ml_X0_203 : (Cond.methodLink RX0 203 yX6_beginVoyage) ∈ wsL_law := in_r26 _ (List.mem_of_getElem? (i := 16) rfl)
theorem wm_ml_L_68 : (Cond.methodLink RL 68 yX10_payOff) ∈ wsL_law := in_r26 _ (List.mem_of_getElem? (i := 17) rfl)
theorem wm_im_X10_payOff : (Cond.instanceMethod yX10_payOff) ∈ wsL_law := in_r26 _ (List.mem_of_getElem? (i := 18) rfl)
theorem wm_se_X10_payOff : (Cond.selects RX10 yX10_payOff yX10_payOff) ∈ wsL_law := in_r26 _ (List.mem_of_getElem? (i := 19) rfl)
theorem wm_co_X10_payOff : (Cond.code yX10_payOff cX10_payOff 2 (some .int)) ∈ wsL_law := in_r26 _ (List.mem_of_getElem? (i := 20) rfl)
theorem wm_ml_X10_176 : (Cond.methodLink RX10 176 yX10_noPayOff) ∈ wsL_law := in_r26 _ (List.mem_of_getElem? (i := 21) rfl)
theorem wm_im_X10_noPayOff : (Cond.instanceMethod yX10_noPayOff) ∈ wsL_law := in_r26 _ (List.mem_of_getElem? (i := 22) rfl)
theorem wm_se_X10_noPayOff : (Cond.selects RX10 yX10_noPayOff yX10_noPayOff) ∈ wsL_law := in_r26 _ (List.mem_of_getElem? (i := 23) rfl)
theorem wm_co_X10_noPayOff : (Cond.code yX10_noPayOff cX10_noPayOff 1 (some .int)) ∈ wsL_law := in_r27 _ (List.mem_of_getElem? (i := 0) rfl)
theorem wm_ml_X10_179 : (Cond.methodLink RX10 179 yX10_doPayOff) ∈ wsL_law := in_r27 _ (List.mem_of_getElem? (i := 1) rfl)
theorem wm_im_X10_doPayOff : (Cond.instanceMethod yX10_doPayOff) ∈ wsL_law := in_r27 _ (List.mem_of_getElem? (i := 2) rfl)
theorem wm_se_X10_doPayOff : (Cond.selects RX10 yX10_doPayOff yX10_doPayOff) ∈ wsL_law := in_r27 _ (List.mem_of_getElem? (i := 3) rfl)
theorem wm_co_X10_doPayOff : (Cond.code yX10_doPayOff cX10_doPayOff 4 (some .int)) ∈ wsL_law := in_r27 _ (List.mem_of_getElem? (i := 4) rfl)
theorem wm_ml_L_69 : (Cond.methodLink RL 69 yX9_set) ∈ wsL_law := in_r27 _ (List.mem_of_getElem? (i := 5) rfl)
theorem wm_im_X9_set : (Cond.instanceMethod yX9_set) ∈ wsL_law := in_r27 _ (List.mem_of_getElem? (i := 6) rfl)
theorem wm_se_X9_set : (Cond.selects RX9 yX9_set yX9_set) ∈ wsL_law := in_r27 _ (List.mem_of_getElem? (i := 7) rfl)
theorem wm_co_X9_set : (Cond.code yX9_set cX9_set 3 (some .int)) ∈ wsL_law := in_r27 _ (List.mem_of_getElem? (i := 8) rfl)
theorem wm_ml_X9_90 : (Cond.methodLink RX9 90 yX0_changeSetting) ∈ wsL_law := in_r27 _ (List.mem_of_getElem? (i := 9) rfl)
theorem wm_im_X0_changeSetting : (Cond.instanceMethod yX0_changeSetting) ∈ wsL_law := in_r27 _ (List.mem_of_getElem? (i := 10) rfl)
theorem wm_se_X0_changeSetting : (Cond.selects RX0 yX0_changeSetting yX0_changeSetting) ∈ wsL_law := in_r27 _ (List.mem_of_getElem? (i := 11) rfl)
theorem wm_co_X0_changeSetting : (Cond.code yX0_changeSetting cX0_changeSetting 4 (some .int)) ∈ wsL_law := in_r27 _ (List.mem_of_getElem? (i := 12) rfl)
theorem wm_ml_L_72 : (Cond.methodLink RL 72 yX10_set) ∈ wsL_law := in_r27 _ (List.mem_of_getElem? (i := 13) rfl)
theorem wm_im_X10_set : (Cond.instanceMethod yX10_set) ∈ wsL_law := in_r27 _ (List.mem_of_getElem? (i := 14) rfl)
theorem wm_se_X10_set : (Cond.selects RX10 yX10_set yX10_set) ∈ wsL_law := in_r27 _ (List.mem_of_getElem? (i := 15) rfl)
theorem wm_co_X10_set : (Cond.code yX10_set cX10_set 4 (some .int)) ∈ wsL_law := in_r27 _ (List.mem_of_getElem? (i := 16) rfl)
theorem wm_ml_L_73 : (Cond.methodLink RL 73 yX9_sailor) ∈ wsL_law := in_r27 _ (List.mem_of_getElem? (i := 17) rfl)
theorem wm_im_X9_sailor : (Cond.instanceMethod yX9_sailor) ∈ wsL_law := in_r27 _ (List.mem_of_getElem? (i := 18) rfl)
theorem wm_se_X9_sailor : (Cond.selects RX9 yX9_sailor yX9_sailor) ∈ wsL_law := in_r27 _ (List.mem_of_getElem? (i := 19) rfl)
theorem wm_co_X9_sailor : (Cond.code yX9_sailor cX9_sailor 4 (some .int)) ∈ wsL_law := in_r27 _ (List.mem_of_getElem? (i := 20) rfl)
theorem wm_ct_X9_97 : (Cond.constant RX9 97 (-1000001)) ∈ wsL_law := in_r27 _ (List.mem_of_getElem? (i := 21) rfl)
theorem wm_ml_X9_93 : (Cond.methodLink RX9 93 yX0_findSailor) ∈ wsL_law := in_r27 _ (List.mem_of_getElem? (i := 22) rfl)
theorem wm_ml_X9_98 : (Cond.methodLink RX9 98 yX6_tell) ∈ wsL_law := in_r27 _ (List.mem_of_getElem? (i := 23) rfl)
theorem wm_im_X6_tell : (Cond.instanceMethod yX6_tell) ∈ wsL_law := in_r28 _ (List.mem_of_getElem? (i := 0) rfl)
theorem wm_se_X6_tell : (Cond.selects RX6 yX6_tell yX6_tell) ∈ wsL_law := in_r28 _ (List.mem_of_getElem? (i := 1) rfl)
theorem wm_co_X6_tell : (Cond.code yX6_tell cX6_tell 2 (some .int)) ∈ wsL_law := in_r28 _ (List.mem_of_getElem? (i := 2) rfl)
theorem wm_ct_X6_64 : (Cond.constant RX6 64 (-1000001)) ∈ wsL_law := in_r28 _ (List.mem_of_getElem? (i := 3) rfl)
theorem wm_ml_X6_61 : (Cond.methodLink RX6 61 yX6_earned) ∈ wsL_law := in_r28 _ (List.mem_of_getElem? (i := 4) rfl)
theorem wm_im_X6_earned : (Cond.instanceMethod yX6_earned) ∈ wsL_law := in_r28 _ (List.mem_of_getElem? (i := 5) rfl)
theorem wm_se_X6_earned : (Cond.selects RX6 yX6_earned yX6_earned) ∈ wsL_law := in_r28 _ (List.mem_of_getElem? (i := 6) rfl)
theorem wm_co_X6_earned : (Cond.code yX6_earned cX6_earned 1 (some .int)) ∈ wsL_law := in_r28 _ (List.mem_of_getElem? (i := 7) rfl)
theorem wm_ml_L_76 : (Cond.methodLink RL 76 yX10_sailor) ∈ wsL_law := in_r28 _ (List.mem_of_getElem? (i := 8) rfl)
theorem wm_im_X10_sailor : (Cond.instanceMethod yX10_sailor) ∈ wsL_law := in_r28 _ (List.mem_of_getElem? (i := 9) rfl)
theorem wm_se_X10_sailor : (Cond.selects RX10 yX10_sailor yX10_sailor) ∈ wsL_law := in_r28 _ (List.mem_of_getElem? (i := 10) rfl)
theorem wm_co_X10_sailor : (Cond.code yX10_sailor cX10_sailor 3 (some .int)) ∈ wsL_law := in_r28 _ (List.mem_of_getElem? (i := 11) rfl)
theorem wm_ml_L_77 : (Cond.methodLink RL 77 yX9_item) ∈ wsL_law := in_r28 _ (List.mem_of_getElem? (i := 12) rfl)
theorem wm_im_X9_item : (Cond.instanceMethod yX9_item) ∈ wsL_law := in_r28 _ (List.mem_of_getElem? (i := 13) rfl)
theorem wm_se_X9_item : (Cond.selects RX9 yX9_item yX9_item) ∈ wsL_law := in_r28 _ (List.mem_of_getElem? (i := 14) rfl)
theorem wm_co_X9_item : (Cond.code yX9_item cX9_item 4 (some .int)) ∈ wsL_law := in_r28 _ (List.mem_of_getElem? (i := 15) rfl)
theorem wm_ml_X9_103 : (Cond.methodLink RX9 103 yX0_findItem) ∈ wsL_law := in_r28 _ (List.mem_of_getElem? (i := 16) rfl)
theorem wm_ml_X9_107 : (Cond.methodLink RX9 107 yX3_tell) ∈ wsL_law := in_r28 _ (List.mem_of_getElem? (i := 17) rfl)
theorem wm_im_X3_tell : (Cond.instanceMethod yX3_tell) ∈ wsL_law := in_r28 _ (List.mem_of_getElem? (i := 18) rfl)
theorem wm_se_X3_tell : (Cond.selects RX3 yX3_tell yX3_tell) ∈ wsL_law := in_r28 _ (List.mem_of_getElem? (i := 19) rfl)
theorem wm_co_X3_tell : (Cond.code yX3_tell cX3_tell 2 (some .int)) ∈ wsL_law := in_r28 _ (List.mem_of_getElem? (i := 20) rfl)
theorem wm_ct_X3_27 : (Cond.constant RX3 27 (-1000001)) ∈ wsL_law := in_r28 _ (List.mem_of_getElem? (i := 21) rfl)
theorem wm_ml_L_80 : (Cond.methodLink RL 80 yX10_item) ∈ wsL_law := in_r28 _ (List.mem_of_getElem? (i := 22) rfl)
theorem wm_im_X10_item : (Cond.instanceMethod yX10_item) ∈ wsL_law := in_r28 _ (List.mem_of_getElem? (i := 23) rfl)
theorem wm_se_X10_item : (Cond.selects RX10 yX10_item yX10_item) ∈ wsL_law := in_r29 _ (List.mem_of_getElem? (i := 0) rfl)
theorem wm_co_X10_item : (Cond.code yX10_item cX10_item 3 (some .int)) ∈ wsL_law := in_r29 _ (List.mem_of_getElem? (i := 1) rfl)
theorem wm_ml_L_81 : (Cond.methodLink RL 81 yX9_book) ∈ wsL_law := in_r29 _ (List.mem_of_getElem? (i := 2) rfl)
theorem wm_im_X9_book : (Cond.instanceMethod yX9_book) ∈ wsL_law := in_r29 _ (List.mem_of_getElem? (i := 3) rfl)
theorem wm_se_X9_book : (Cond.selects RX9 yX9_book yX9_book) ∈ wsL_law := in_r29 _ (List.mem_of_getElem? (i := 4) rfl)
theorem wm_co_X9_book : (Cond.code yX9_book cX9_book 3 (some .int)) ∈ wsL_law := in_r29 _ (List.mem_of_getElem? (i := 5) rfl)
theorem wm_fl_X9_110 : (Cond.fieldLink RX9 110 "PurserLedgers$Books" "entries" "LPurserLedgers$Entries;") ∈ wsL_law := in_r29 _ (List.mem_of_getElem? (i := 6) rfl)
theorem wm_ml_X9_114 : (Cond.methodLink RX9 114 yX1_tell) ∈ wsL_law := in_r29 _ (List.mem_of_getElem? (i := 7) rfl)
theorem wm_im_X1_tell : (Cond.instanceMethod yX1_tell) ∈ wsL_law := in_r29 _ (List.mem_of_getElem? (i := 8) rfl)
theorem wm_se_X1_tell : (Cond.selects RX1 yX1_tell yX1_tell) ∈ wsL_law := in_r29 _ (List.mem_of_getElem? (i := 9) rfl)
theorem wm_co_X1_tell : (Cond.code yX1_tell cX1_tell 3 (some .int)) ∈ wsL_law := in_r29 _ (List.mem_of_getElem? (i := 10) rfl)
theorem wm_ct_X1_37 : (Cond.constant RX1 37 (-1000001)) ∈ wsL_law := in_r29 _ (List.mem_of_getElem? (i := 11) rfl)
theorem wm_ct_X1_38 : (Cond.constant RX1 38 (-1000004)) ∈ wsL_law := in_r29 _ (List.mem_of_getElem? (i := 12) rfl)
theorem wm_ml_X1_39 : (Cond.methodLink RX1 39 yX1_numberAt) ∈ wsL_law := in_r29 _ (List.mem_of_getElem? (i := 13) rfl)
theorem wm_st_X1_numberAt : (Cond.static yX1_numberAt) ∈ wsL_law := in_r29 _ (List.mem_of_getElem? (i := 14) rfl)
theorem wm_co_X1_numberAt : (Cond.code yX1_numberAt cX1_numberAt 2 (some .int)) ∈ wsL_law := in_r29 _ (List.mem_of_getElem? (i := 15) rfl)
theorem wm_ml_L_84 : (Cond.methodLink RL 84 yX10_book) ∈ wsL_law := in_r29 _ (List.mem_of_getElem? (i := 16) rfl)
theorem wm_im_X10_book : (Cond.instanceMethod yX10_book) ∈ wsL_law := in_r29 _ (List.mem_of_getElem? (i := 17) rfl)
theorem wm_se_X10_book : (Cond.selects RX10 yX10_book yX10_book) ∈ wsL_law := in_r29 _ (List.mem_of_getElem? (i := 18) rfl)
theorem wm_co_X10_book : (Cond.code yX10_book cX10_book 3 (some .int)) ∈ wsL_law := in_r29 _ (List.mem_of_getElem? (i := 19) rfl)
theorem wm_ct_X10_182 : (Cond.constant RX10 182 (-1000004)) ∈ wsL_law := in_r29 _ (List.mem_of_getElem? (i := 20) rfl)
theorem wm_ml_L_85 : (Cond.methodLink RL 85 yX9_why) ∈ wsL_law := in_r29 _ (List.mem_of_getElem? (i := 21) rfl)
theorem wm_im_X9_why : (Cond.instanceMethod yX9_why) ∈ wsL_law := in_r29 _ (List.mem_of_getElem? (i := 22) rfl)
theorem wm_se_X9_why : (Cond.selects RX9 yX9_why yX9_why) ∈ wsL_law := in_r29 _ (List.mem_of_getElem? (i := 23) rfl)
theorem wm_co_X9_why : (Cond.code yX9_why cX9_why 4 (some .int)) ∈ wsL_law := in_r30 _ (List.mem_of_getElem? (i := 0) rfl)
theorem wm_ml_X9_118 : (Cond.methodLink RX9 118 yX0_reasonNotToSell) ∈ wsL_law := in_r30 _ (List.mem_of_getElem? (i := 1) rfl)
theorem wm_im_X0_reasonNotToSell : (Cond.instanceMethod yX0_reasonNotToSell) ∈ wsL_law := in_r30 _ (List.mem_of_getElem? (i := 2) rfl)
theorem wm_se_X0_reasonNotToSell : (Cond.selects RX0 yX0_reasonNotToSell yX0_reasonNotToSell) ∈ wsL_law := in_r30 _ (List.mem_of_getElem? (i := 3) rfl)
theorem wm_co_X0_reasonNotToSell : (Cond.code yX0_reasonNotToSell cX0_reasonNotToSell 6 (some .int)) ∈ wsL_law := in_r30 _ (List.mem_of_getElem? (i := 4) rfl)
theorem wm_ml_L_88 : (Cond.methodLink RL 88 yX10_why) ∈ wsL_law := in_r30 _ (List.mem_of_getElem? (i := 5) rfl)
theorem wm_im_X10_why : (Cond.instanceMethod yX10_why) ∈ wsL_law := in_r30 _ (List.mem_of_getElem? (i := 6) rfl)
theorem wm_se_X10_why : (Cond.selects RX10 yX10_why yX10_why) ∈ wsL_law := in_r30 _ (List.mem_of_getElem? (i := 7) rfl)
theorem wm_co_X10_why : (Cond.code yX10_why cX10_why 4 (some .int)) ∈ wsL_law := in_r30 _ (List.mem_of_getElem? (i := 8) rfl)
theorem wm_ml_L_89 : (Cond.methodLink RL 89 yX9_most) ∈ wsL_law := in_r30 _ (List.mem_of_getElem? (i := 9) rfl)
theorem wm_im_X9_most : (Cond.instanceMethod yX9_most) ∈ wsL_law := in_r30 _ (List.mem_of_getElem? (i := 10) rfl)
theorem wm_se_X9_most : (Cond.selects RX9 yX9_most yX9_most) ∈ wsL_law := in_r30 _ (List.mem_of_getElem? (i := 11) rfl)
theorem wm_co_X9_most : (Cond.code yX9_most cX9_most 3 (some .int)) ∈ wsL_law := in_r30 _ (List.mem_of_getElem? (i := 12) rfl)
theorem wm_ml_X9_121 : (Cond.methodLink RX9 121 yX0_couldBuy) ∈ wsL_law := in_r30 _ (List.mem_of_getElem? (i := 13) rfl)
theorem wm_im_X0_couldBuy : (Cond.instanceMethod yX0_couldBuy) ∈ wsL_law := in_r30 _ (List.mem_of_getElem? (i := 14) rfl)
theorem wm_se_X0_couldBuy : (Cond.selects RX0 yX0_couldBuy yX0_couldBuy) ∈ wsL_law := in_r30 _ (List.mem_of_getElem? (i := 15) rfl)
theorem wm_co_X0_couldBuy : (Cond.code yX0_couldBuy cX0_couldBuy 6 (some .int)) ∈ wsL_law := in_r30 _ (List.mem_of_getElem? (i := 16) rfl)
theorem wm_ml_X0_143 : (Cond.methodLink RX0 143 Lib.Math.min.name) ∈ wsL_law := in_r30 _ (List.mem_of_getElem? (i := 17) rfl)
theorem wm_st_Lib_Math_min_name : (Cond.static Lib.Math.min.name) ∈ wsL_law := in_r30 _ (List.mem_of_getElem? (i := 18) rfl)
theorem wm_in_java_lang_Math : (Cond.initialized "java/lang/Math") ∈ wsL_law := in_r30 _ (List.mem_of_getElem? (i := 19) rfl)
theorem wm_co_Lib_Math_min_name : (Cond.code Lib.Math.min.name Lib.Math.min.code 2 (some .int)) ∈ wsL_law := in_r30 _ (List.mem_of_getElem? (i := 20) rfl)
theorem wm_ml_L_92 : (Cond.methodLink RL 92 yX10_most) ∈ wsL_law := in_r30 _ (List.mem_of_getElem? (i := 21) rfl)
theorem wm_im_X10_most : (Cond.instanceMethod yX10_most) ∈ wsL_law := in_r30 _ (List.mem_of_getElem? (i := 22) rfl)
theorem wm_se_X10_most : (Cond.selects RX10 yX10_most yX10_most) ∈ wsL_law := in_r30 _ (List.mem_of_getElem? (i := 23) rfl)
theorem wm_co_X10_most : (Cond.code yX10_most cX10_most 4 (some .int)) ∈ wsL_law := in_r31 _ (List.mem_of_getElem? (i := 0) rfl)
theorem wm_ml_L_93 : (Cond.methodLink RL 93 yX9_clearIn) ∈ wsL_law := in_r31 _ (List.mem_of_getElem? (i := 1) rfl)
theorem wm_im_X9_clearIn : (Cond.instanceMethod yX9_clearIn) ∈ wsL_law := in_r31 _ (List.mem_of_getElem? (i := 2) rfl)
theorem wm_se_X9_clearIn : (Cond.selects RX9 yX9_clearIn yX9_clearIn) ∈ wsL_law := in_r31 _ (List.mem_of_getElem? (i := 3) rfl)
theorem wm_co_X9_clearIn : (Cond.code yX9_clearIn cX9_clearIn 2 (some .int)) ∈ wsL_law := in_r31 _ (List.mem_of_getElem? (i := 4) rfl)
theorem wm_ml_X9_124 : (Cond.methodLink RX9 124 yX0_daysUntilClear) ∈ wsL_law := in_r31 _ (List.mem_of_getElem? (i := 5) rfl)
theorem wm_im_X0_daysUntilClear : (Cond.instanceMethod yX0_daysUntilClear) ∈ wsL_law := in_r31 _ (List.mem_of_getElem? (i := 6) rfl)
theorem wm_se_X0_daysUntilClear : (Cond.selects RX0 yX0_daysUntilClear yX0_daysUntilClear) ∈ wsL_law := in_r31 _ (List.mem_of_getElem? (i := 7) rfl)
theorem wm_co_X0_daysUntilClear : (Cond.code yX0_daysUntilClear cX0_daysUntilClear 5 (some .int)) ∈ wsL_law := in_r31 _ (List.mem_of_getElem? (i := 8) rfl)
theorem wm_fl_X0_209 : (Cond.fieldLink RX0 209 "PurserLedgers$Sailor" "debt" "I") ∈ wsL_law := in_r31 _ (List.mem_of_getElem? (i := 9) rfl)
theorem wm_ct_X0_218 : (Cond.constant RX0 218 (-1000004)) ∈ wsL_law := in_r31 _ (List.mem_of_getElem? (i := 10) rfl)
theorem wm_ml_X0_212 : (Cond.methodLink RX0 212 yX6_charged) ∈ wsL_law := in_r31 _ (List.mem_of_getElem? (i := 11) rfl)
theorem wm_ml_X0_214 : (Cond.methodLink RX0 214 yX6_earnedAfter) ∈ wsL_law := in_r31 _ (List.mem_of_getElem? (i := 12) rfl)
theorem wm_im_X6_earnedAfter : (Cond.instanceMethod yX6_earnedAfter) ∈ wsL_law := in_r31 _ (List.mem_of_getElem? (i := 13) rfl)
theorem wm_se_X6_earnedAfter : (Cond.selects RX6 yX6_earnedAfter yX6_earnedAfter) ∈ wsL_law := in_r31 _ (List.mem_of_getElem? (i := 14) rfl)
theorem wm_co_X6_earnedAfter : (Cond.code yX6_earnedAfter cX6_earnedAfter 3 (some .int)) ∈ wsL_law := in_r31 _ (List.mem_of_getElem? (i := 15) rfl)
theorem wm_ml_L_96 : (Cond.methodLink RL 96 yX10_clearIn) ∈ wsL_law := in_r31 _ (List.mem_of_getElem? (i := 16) rfl)
theorem wm_im_X10_clearIn : (Cond.instanceMethod yX10_clearIn) ∈ wsL_law := in_r31 _ (List.mem_of_getElem? (i := 17) rfl)
theorem wm_se_X10_clearIn : (Cond.selects RX10 yX10_clearIn yX10_clearIn) ∈ wsL_law := in_r31 _ (List.mem_of_getElem? (i := 18) rfl)
theorem wm_co_X10_clearIn : (Cond.code yX10_clearIn cX10_clearIn 7 (some .int)) ∈ wsL_law := in_r31 _ (List.mem_of_getElem? (i := 19) rfl)
theorem wm_ml_L_97 : (Cond.methodLink RL 97 yX9_ifPaidOff) ∈ wsL_law := in_r31 _ (List.mem_of_getElem? (i := 20) rfl)
theorem wm_im_X9_ifPaidOff : (Cond.instanceMethod yX9_ifPaidOff) ∈ wsL_law := in_r31 _ (List.mem_of_getElem? (i := 21) rfl)
theorem wm_se_X9_ifPaidOff : (Cond.selects RX9 yX9_ifPaidOff yX9_ifPaidOff) ∈ wsL_law := in_r31 _ (List.mem_of_getElem? (i := 22) rfl)
theorem wm_co_X9_ifPaidOff : (Cond.code yX9_ifPaidOff cX9_ifPaidOff 2 (some .int)) ∈ wsL_law := in_r31 _ (List.mem_of_getElem? (i := 23) rfl)
theorem wm_ml_X9_127 : (Cond.methodLink RX9 127 yX0_tellPayingOff) ∈ wsL_law := in_r32 _ (List.mem_of_getElem? (i := 0) rfl)
theorem wm_im_X0_tellPayingOff : (Cond.instanceMethod yX0_tellPayingOff) ∈ wsL_law := in_r32 _ (List.mem_of_getElem? (i := 1) rfl)
theorem wm_se_X0_tellPayingOff : (Cond.selects RX0 yX0_tellPayingOff yX0_tellPayingOff) ∈ wsL_law := in_r32 _ (List.mem_of_getElem? (i := 2) rfl)
theorem wm_co_X0_tellPayingOff : (Cond.code yX0_tellPayingOff cX0_tellPayingOff 2 (some .int)) ∈ wsL_law := in_r32 _ (List.mem_of_getElem? (i := 3) rfl)
theorem wm_ml_X0_219 : (Cond.methodLink RX0 219 yX0_wouldBePaid) ∈ wsL_law := in_r32 _ (List.mem_of_getElem? (i := 4) rfl)
theorem wm_im_X0_wouldBePaid : (Cond.instanceMethod yX0_wouldBePaid) ∈ wsL_law := in_r32 _ (List.mem_of_getElem? (i := 5) rfl)
theorem wm_se_X0_wouldBePaid : (Cond.selects RX0 yX0_wouldBePaid yX0_wouldBePaid) ∈ wsL_law := in_r32 _ (List.mem_of_getElem? (i := 6) rfl)
theorem wm_co_X0_wouldBePaid : (Cond.code yX0_wouldBePaid cX0_wouldBePaid 3 (some .int)) ∈ wsL_law := in_r32 _ (List.mem_of_getElem? (i := 7) rfl)
theorem wm_ml_X0_231 : (Cond.methodLink RX0 231 Lib.Math.max.name) ∈ wsL_law := in_r32 _ (List.mem_of_getElem? (i := 8) rfl)
theorem wm_st_Lib_Math_max_name : (Cond.static Lib.Math.max.name) ∈ wsL_law := in_r32 _ (List.mem_of_getElem? (i := 9) rfl)
theorem wm_co_Lib_Math_max_name : (Cond.code Lib.Math.max.name Lib.Math.max.code 2 (some .int)) ∈ wsL_law := in_r32 _ (List.mem_of_getElem? (i := 10) rfl)
theorem wm_ml_X0_222 : (Cond.methodLink RX0 222 yX8_missingFor) ∈ wsL_law := in_r32 _ (List.mem_of_getElem? (i := 11) rfl)
theorem wm_ml_X0_225 : (Cond.methodLink RX0 225 yX0_debtsTogether) ∈ wsL_law := in_r32 _ (List.mem_of_getElem? (i := 12) rfl)
theorem wm_im_X0_debtsTogether : (Cond.instanceMethod yX0_debtsTogether) ∈ wsL_law := in_r32 _ (List.mem_of_getElem? (i := 13) rfl)
theorem wm_se_X0_debtsTogether : (Cond.selects RX0 yX0_debtsTogether yX0_debtsTogether) ∈ wsL_law := in_r32 _ (List.mem_of_getElem? (i := 14) rfl)
theorem wm_co_X0_debtsTogether : (Cond.code yX0_debtsTogether cX0_debtsTogether 3 (some .int)) ∈ wsL_law := in_r32 _ (List.mem_of_getElem? (i := 15) rfl)
theorem wm_ml_X0_228 : (Cond.methodLink RX0 228 yX0_setOfDebtors) ∈ wsL_law := in_r32 _ (List.mem_of_getElem? (i := 16) rfl)
theorem wm_im_X0_setOfDebtors : (Cond.instanceMethod yX0_setOfDebtors) ∈ wsL_law := in_r32 _ (List.mem_of_getElem? (i := 17) rfl)
theorem wm_se_X0_setOfDebtors : (Cond.selects RX0 yX0_setOfDebtors yX0_setOfDebtors) ∈ wsL_law := in_r32 _ (List.mem_of_getElem? (i := 18) rfl)
theorem wm_co_X0_setOfDebtors : (Cond.code yX0_setOfDebtors cX0_setOfDebtors 3 (some .int)) ∈ wsL_law := in_r32 _ (List.mem_of_getElem? (i := 19) rfl)
theorem wm_ml_L_100 : (Cond.methodLink RL 100 yX10_ifPaidOff) ∈ wsL_law := in_r32 _ (List.mem_of_getElem? (i := 20) rfl)
theorem wm_im_X10_ifPaidOff : (Cond.instanceMethod yX10_ifPaidOff) ∈ wsL_law := in_r32 _ (List.mem_of_getElem? (i := 21) rfl)
theorem wm_se_X10_ifPaidOff : (Cond.selects RX10 yX10_ifPaidOff yX10_ifPaidOff) ∈ wsL_law := in_r32 _ (List.mem_of_getElem? (i := 22) rfl)
theorem wm_co_X10_ifPaidOff : (Cond.code yX10_ifPaidOff cX10_ifPaidOff 7 (some .int)) ∈ wsL_law := in_r32 _ (List.mem_of_getElem? (i := 23) rfl)
theorem wm_ml_L_101 : (Cond.methodLink RL 101 yX9_poorest) ∈ wsL_law := in_r33 _ (List.mem_of_getElem? (i := 0) rfl)
theorem wm_im_X9_poorest : (Cond.instanceMethod yX9_poorest) ∈ wsL_law := in_r33 _ (List.mem_of_getElem? (i := 1) rfl)
theorem wm_se_X9_poorest : (Cond.selects RX9 yX9_poorest yX9_poorest) ∈ wsL_law := in_r33 _ (List.mem_of_getElem? (i := 2) rfl)
theorem wm_co_X9_poorest : (Cond.code yX9_poorest cX9_poorest 2 (some .int)) ∈ wsL_law := in_r33 _ (List.mem_of_getElem? (i := 3) rfl)
theorem wm_ml_X9_130 : (Cond.methodLink RX9 130 yX0_sailorByBalance) ∈ wsL_law := in_r33 _ (List.mem_of_getElem? (i := 4) rfl)
theorem wm_im_X0_sailorByBalance : (Cond.instanceMethod yX0_sailorByBalance) ∈ wsL_law := in_r33 _ (List.mem_of_getElem? (i := 5) rfl)
theorem wm_se_X0_sailorByBalance : (Cond.selects RX0 yX0_sailorByBalance yX0_sailorByBalance) ∈ wsL_law := in_r33 _ (List.mem_of_getElem? (i := 6) rfl)
theorem wm_co_X0_sailorByBalance : (Cond.code yX0_sailorByBalance cX0_sailorByBalance 3 (some .int)) ∈ wsL_law := in_r33 _ (List.mem_of_getElem? (i := 7) rfl)
theorem wm_ml_X0_234 : (Cond.methodLink RX0 234 yX0_poorerThan) ∈ wsL_law := in_r33 _ (List.mem_of_getElem? (i := 8) rfl)
theorem wm_im_X0_poorerThan : (Cond.instanceMethod yX0_poorerThan) ∈ wsL_law := in_r33 _ (List.mem_of_getElem? (i := 9) rfl)
theorem wm_se_X0_poorerThan : (Cond.selects RX0 yX0_poorerThan yX0_poorerThan) ∈ wsL_law := in_r33 _ (List.mem_of_getElem? (i := 10) rfl)
theorem wm_co_X0_poorerThan : (Cond.code yX0_poorerThan cX0_poorerThan 6 (some .int)) ∈ wsL_law := in_r33 _ (List.mem_of_getElem? (i := 11) rfl)
theorem wm_ml_L_104 : (Cond.methodLink RL 104 yX10_poorest) ∈ wsL_law := in_r33 _ (List.mem_of_getElem? (i := 12) rfl)
theorem wm_im_X10_poorest : (Cond.instanceMethod yX10_poorest) ∈ wsL_law := in_r33 _ (List.mem_of_getElem? (i := 13) rfl)
theorem wm_se_X10_poorest : (Cond.selects RX10 yX10_poorest yX10_poorest) ∈ wsL_law := in_r33 _ (List.mem_of_getElem? (i := 14) rfl)
theorem wm_co_X10_poorest : (Cond.code yX10_poorest cX10_poorest 7 (some .int)) ∈ wsL_law := in_r33 _ (List.mem_of_getElem? (i := 15) rfl)
theorem wm_ml_L_105 : (Cond.methodLink RL 105 yX9_share) ∈ wsL_law := in_r33 _ (List.mem_of_getElem? (i := 16) rfl)
theorem wm_im_X9_share : (Cond.instanceMethod yX9_share) ∈ wsL_law := in_r33 _ (List.mem_of_getElem? (i := 17) rfl)
theorem wm_se_X9_share : (Cond.selects RX9 yX9_share yX9_share) ∈ wsL_law := in_r33 _ (List.mem_of_getElem? (i := 18) rfl)
theorem wm_co_X9_share : (Cond.code yX9_share cX9_share 1 (some .int)) ∈ wsL_law := in_r33 _ (List.mem_of_getElem? (i := 19) rfl)
theorem wm_ml_X9_133 : (Cond.methodLink RX9 133 yX0_chargedShare) ∈ wsL_law := in_r33 _ (List.mem_of_getElem? (i := 20) rfl)
theorem wm_im_X0_chargedShare : (Cond.instanceMethod yX0_chargedShare) ∈ wsL_law := in_r33 _ (List.mem_of_getElem? (i := 21) rfl)
theorem wm_se_X0_chargedShare : (Cond.selects RX0 yX0_chargedShare yX0_chargedShare) ∈ wsL_law := in_r33 _ (List.mem_of_getElem? (i := 22) rfl)
theorem wm_co_X0_chargedShare : (Cond.code yX0_chargedShare cX0_chargedShare 4 (some .int)) ∈ wsL_law := in_r33 _ (List.mem_of_getElem? (i := 23) rfl)
theorem wm_ml_X0_237 : (Cond.methodLink RX0 237 yX6_earned) ∈ wsL_law := in_r34 _ (List.mem_of_getElem? (i := 0) rfl)
theorem wm_st_X9_bitsOf : (Cond.static yX9_bitsOf) ∈ wsL_law := in_r34 _ (List.mem_of_getElem? (i := 1) rfl)
theorem wm_co_X9_bitsOf : (Cond.code yX9_bitsOf cX9_bitsOf 4 (some .int)) ∈ wsL_law := in_r34 _ (List.mem_of_getElem? (i := 2) rfl)
theorem wm_cf_X9_180 : (Cond.constantFloat RX9 180 (1258291200)) ∈ wsL_law := in_r34 _ (List.mem_of_getElem? (i := 3) rfl)
theorem wm_ml_L_108 : (Cond.methodLink RL 108 yX10_share) ∈ wsL_law := in_r34 _ (List.mem_of_getElem? (i := 4) rfl)
theorem wm_im_X10_share : (Cond.instanceMethod yX10_share) ∈ wsL_law := in_r34 _ (List.mem_of_getElem? (i := 5) rfl)
theorem wm_se_X10_share : (Cond.selects RX10 yX10_share yX10_share) ∈ wsL_law := in_r34 _ (List.mem_of_getElem? (i := 6) rfl)
theorem wm_co_X10_share : (Cond.code yX10_share cX10_share 4 (some .int)) ∈ wsL_law := in_r34 _ (List.mem_of_getElem? (i := 7) rfl)
theorem wm_ml_X10_183 : (Cond.methodLink RX10 183 yJxf58ca_floatToIntBits_5c35a) ∈ wsL_law := in_r34 _ (List.mem_of_getElem? (i := 8) rfl)
theorem wm_st_Jxf58ca_floatToIntBits_5c35a : (Cond.static yJxf58ca_floatToIntBits_5c35a) ∈ wsL_law := in_r34 _ (List.mem_of_getElem? (i := 9) rfl)
theorem wm_in_RJxf58ca : (Cond.initialized RJxf58ca) ∈ wsL_law := in_r34 _ (List.mem_of_getElem? (i := 10) rfl)
theorem wm_co_Jxf58ca_floatToIntBits_5c35a : (Cond.code yJxf58ca_floatToIntBits_5c35a cJxf58ca_floatToIntBits_5c35a 1 (some .int)) ∈ wsL_law := in_r34 _ (List.mem_of_getElem? (i := 11) rfl)
theorem wm_ml_RJxf58ca_74 : (Cond.methodLink RJxf58ca 74 ⟨"java/lang/Float", "floatToRawIntBits", "(F)I"⟩) ∈ wsL_law := in_r34 _ (List.mem_of_getElem? (i := 12) rfl)
theorem wm_ow_r34_13 : (Cond.native ⟨"java/lang/Float", "floatToRawIntBits", "(F)I"⟩) ∈ wsL_law := in_r34 _ (List.mem_of_getElem? (i := 13) rfl)
theorem wm_st__java_lang_Float_ : (Cond.static ⟨"java/lang/Float", "floatToRawIntBits", "(F)I"⟩) ∈ wsL_law := in_r34 _ (List.mem_of_getElem? (i := 14) rfl)
theorem wm_in_java_lang_Float : (Cond.initialized "java/lang/Float") ∈ wsL_law := in_r34 _ (List.mem_of_getElem? (i := 15) rfl)
theorem wm_ct_RJxf58ca_77 : (Cond.constant RJxf58ca 77 (2143289344)) ∈ wsL_law := in_r34 _ (List.mem_of_getElem? (i := 16) rfl)
theorem wm_ml_RJxf58ca_59 : (Cond.methodLink RJxf58ca 59 yJxf58ca_isNaN_12338) ∈ wsL_law := in_r34 _ (List.mem_of_getElem? (i := 17) rfl)
theorem wm_st_Jxf58ca_isNaN_12338 : (Cond.static yJxf58ca_isNaN_12338) ∈ wsL_law := in_r34 _ (List.mem_of_getElem? (i := 18) rfl)
theorem wm_co_Jxf58ca_isNaN_12338 : (Cond.code yJxf58ca_isNaN_12338 cJxf58ca_isNaN_12338 1 (some .boolean)) ∈ wsL_law := in_r34 _ (List.mem_of_getElem? (i := 19) rfl)
theorem wm_ml_L_109 : (Cond.methodLink RL 109 yX9_count) ∈ wsL_law := in_r34 _ (List.mem_of_getElem? (i := 20) rfl)
theorem wm_im_X9_count : (Cond.instanceMethod yX9_count) ∈ wsL_law := in_r34 _ (List.mem_of_getElem? (i := 21) rfl)
theorem wm_se_X9_count : (Cond.selects RX9 yX9_count yX9_count) ∈ wsL_law := in_r34 _ (List.mem_of_getElem? (i := 22) rfl)
theorem wm_co_X9_count : (Cond.code yX9_count cX9_count 2 (some .int)) ∈ wsL_law := in_r34 _ (List.mem_of_getElem? (i := 23) rfl)
theorem wm_fl_X9_136 : (Cond.fieldLink RX9 136 "PurserLedgers$History" "kept" "I") ∈ wsL_law := in_r35 _ (List.mem_of_getElem? (i := 0) rfl)
theorem wm_fl_X9_140 : (Cond.fieldLink RX9 140 "PurserLedgers$Text" "length" "I") ∈ wsL_law := in_r35 _ (List.mem_of_getElem? (i := 1) rfl)
theorem wm_ml_X9_143 : (Cond.methodLink RX9 143 yX0_tell) ∈ wsL_law := in_r35 _ (List.mem_of_getElem? (i := 2) rfl)
theorem wm_im_X0_tell : (Cond.instanceMethod yX0_tell) ∈ wsL_law := in_r35 _ (List.mem_of_getElem? (i := 3) rfl)
theorem wm_se_X0_tell : (Cond.selects RX0 yX0_tell yX0_tell) ∈ wsL_law := in_r35 _ (List.mem_of_getElem? (i := 4) rfl)
theorem wm_co_X0_tell : (Cond.code yX0_tell cX0_tell 2 (some .int)) ∈ wsL_law := in_r35 _ (List.mem_of_getElem? (i := 5) rfl)
theorem wm_fl_X0_244 : (Cond.fieldLink RX0 244 "PurserLedgers$Entries" "kept" "I") ∈ wsL_law := in_r35 _ (List.mem_of_getElem? (i := 6) rfl)
theorem wm_ml_X0_247 : (Cond.methodLink RX0 247 yX0_tellCoins) ∈ wsL_law := in_r35 _ (List.mem_of_getElem? (i := 7) rfl)
theorem wm_im_X0_tellCoins : (Cond.instanceMethod yX0_tellCoins) ∈ wsL_law := in_r35 _ (List.mem_of_getElem? (i := 8) rfl)
theorem wm_se_X0_tellCoins : (Cond.selects RX0 yX0_tellCoins yX0_tellCoins) ∈ wsL_law := in_r35 _ (List.mem_of_getElem? (i := 9) rfl)
theorem wm_co_X0_tellCoins : (Cond.code yX0_tellCoins cX0_tellCoins 2 (some .int)) ∈ wsL_law := in_r35 _ (List.mem_of_getElem? (i := 10) rfl)
theorem wm_fl_X0_250 : (Cond.fieldLink RX0 250 "PurserLedgers$Totals" "drawn" "I") ∈ wsL_law := in_r35 _ (List.mem_of_getElem? (i := 11) rfl)
theorem wm_ct_X0_253 : (Cond.constant RX0 253 (100000)) ∈ wsL_law := in_r35 _ (List.mem_of_getElem? (i := 12) rfl)
theorem wm_ml_L_112 : (Cond.methodLink RL 112 yX10_count) ∈ wsL_law := in_r35 _ (List.mem_of_getElem? (i := 13) rfl)
theorem wm_im_X10_count : (Cond.instanceMethod yX10_count) ∈ wsL_law := in_r35 _ (List.mem_of_getElem? (i := 14) rfl)
theorem wm_se_X10_count : (Cond.selects RX10 yX10_count yX10_count) ∈ wsL_law := in_r35 _ (List.mem_of_getElem? (i := 15) rfl)
theorem wm_co_X10_count : (Cond.code yX10_count cX10_count 2 (some .int)) ∈ wsL_law := in_r35 _ (List.mem_of_getElem? (i := 16) rfl)
theorem wm_ct_X10_189 : (Cond.constant RX10 189 (100000)) ∈ wsL_law := in_r35 _ (List.mem_of_getElem? (i := 17) rfl)
theorem wm_fl_X10_190 : (Cond.fieldLink RX10 190 "PurserLedgersModel" "length" "I") ∈ wsL_law := in_r35 _ (List.mem_of_getElem? (i := 18) rfl)
theorem wm_ml_L_113 : (Cond.methodLink RL 113 yX9_undo) ∈ wsL_law := in_r35 _ (List.mem_of_getElem? (i := 19) rfl)
theorem wm_im_X9_undo : (Cond.instanceMethod yX9_undo) ∈ wsL_law := in_r35 _ (List.mem_of_getElem? (i := 20) rfl)
theorem wm_se_X9_undo : (Cond.selects RX9 yX9_undo yX9_undo) ∈ wsL_law := in_r35 _ (List.mem_of_getElem? (i := 21) rfl)
theorem wm_co_X9_undo : (Cond.code yX9_undo cX9_undo 1 (some .int)) ∈ wsL_law := in_r35 _ (List.mem_of_getElem? (i := 22) rfl)
theorem wm_ml_X9_144 : (Cond.methodLink RX9 144 yX2_restoreInto) ∈ wsL_law := in_r35 _ (List.mem_of_getElem? (i := 23) rfl)
theorem wm_im_X2_restoreInto : (Cond.instanceMethod yX2_restoreInto) ∈ wsL_law := in_r36 _ (List.mem_of_getElem? (i := 0) rfl)
theorem wm_se_X2_restoreInto : (Cond.selects RX2 yX2_restoreInto yX2_restoreInto) ∈ wsL_law := in_r36 _ (List.mem_of_getElem? (i := 1) rfl)
theorem wm_co_X2_restoreInto : (Cond.code yX2_restoreInto cX2_restoreInto 5 (some .int)) ∈ wsL_law := in_r36 _ (List.mem_of_getElem? (i := 2) rfl)
theorem wm_ct_X2_26 : (Cond.constant RX2 26 (-1000002)) ∈ wsL_law := in_r36 _ (List.mem_of_getElem? (i := 3) rfl)
theorem wm_ml_L_116 : (Cond.methodLink RL 116 yX10_undo) ∈ wsL_law := in_r36 _ (List.mem_of_getElem? (i := 4) rfl)
theorem wm_im_X10_undo : (Cond.instanceMethod yX10_undo) ∈ wsL_law := in_r36 _ (List.mem_of_getElem? (i := 5) rfl)
theorem wm_se_X10_undo : (Cond.selects RX10 yX10_undo yX10_undo) ∈ wsL_law := in_r36 _ (List.mem_of_getElem? (i := 6) rfl)
theorem wm_co_X10_undo : (Cond.code yX10_undo cX10_undo 2 (some .int)) ∈ wsL_law := in_r36 _ (List.mem_of_getElem? (i := 7) rfl)
theorem wm_ml_L_117 : (Cond.methodLink RL 117 yX9_type) ∈ wsL_law := in_r36 _ (List.mem_of_getElem? (i := 8) rfl)
theorem wm_im_X9_type : (Cond.instanceMethod yX9_type) ∈ wsL_law := in_r36 _ (List.mem_of_getElem? (i := 9) rfl)
theorem wm_se_X9_type : (Cond.selects RX9 yX9_type yX9_type) ∈ wsL_law := in_r36 _ (List.mem_of_getElem? (i := 10) rfl)
theorem wm_co_X9_type : (Cond.code yX9_type cX9_type 2 (some .int)) ∈ wsL_law := in_r36 _ (List.mem_of_getElem? (i := 11) rfl)
theorem wm_ml_X9_148 : (Cond.methodLink RX9 148 yX7_append) ∈ wsL_law := in_r36 _ (List.mem_of_getElem? (i := 12) rfl)
theorem wm_im_X7_append : (Cond.instanceMethod yX7_append) ∈ wsL_law := in_r36 _ (List.mem_of_getElem? (i := 13) rfl)
theorem wm_se_X7_append : (Cond.selects RX7 yX7_append yX7_append) ∈ wsL_law := in_r36 _ (List.mem_of_getElem? (i := 14) rfl)
theorem wm_co_X7_append : (Cond.code yX7_append cX7_append 2 (some .int)) ∈ wsL_law := in_r36 _ (List.mem_of_getElem? (i := 15) rfl)
theorem wm_ct_X7_19 : (Cond.constant RX7 19 (-1000001)) ∈ wsL_law := in_r36 _ (List.mem_of_getElem? (i := 16) rfl)
theorem wm_fl_X7_20 : (Cond.fieldLink RX7 20 "PurserLedgers$Text" "length" "I") ∈ wsL_law := in_r36 _ (List.mem_of_getElem? (i := 17) rfl)
theorem wm_ct_X7_24 : (Cond.constant RX7 24 (-1000003)) ∈ wsL_law := in_r36 _ (List.mem_of_getElem? (i := 18) rfl)
theorem wm_ml_L_120 : (Cond.methodLink RL 120 yX10_type) ∈ wsL_law := in_r36 _ (List.mem_of_getElem? (i := 19) rfl)
theorem wm_im_X10_type : (Cond.instanceMethod yX10_type) ∈ wsL_law := in_r36 _ (List.mem_of_getElem? (i := 20) rfl)
theorem wm_se_X10_type : (Cond.selects RX10 yX10_type yX10_type) ∈ wsL_law := in_r36 _ (List.mem_of_getElem? (i := 21) rfl)
theorem wm_co_X10_type : (Cond.code yX10_type cX10_type 2 (some .int)) ∈ wsL_law := in_r36 _ (List.mem_of_getElem? (i := 22) rfl)
theorem wm_ml_L_121 : (Cond.methodLink RL 121 yX9_clearText) ∈ wsL_law := in_r36 _ (List.mem_of_getElem? (i := 23) rfl)
theorem wm_im_X9_clearText : (Cond.instanceMethod yX9_clearText) ∈ wsL_law := in_r37 _ (List.mem_of_getElem? (i := 0) rfl)
theorem wm_se_X9_clearText : (Cond.selects RX9 yX9_clearText yX9_clearText) ∈ wsL_law := in_r37 _ (List.mem_of_getElem? (i := 1) rfl)
theorem wm_co_X9_clearText : (Cond.code yX9_clearText cX9_clearText 1 (some .int)) ∈ wsL_law := in_r37 _ (List.mem_of_getElem? (i := 2) rfl)
theorem wm_ml_X9_151 : (Cond.methodLink RX9 151 yX7_empty) ∈ wsL_law := in_r37 _ (List.mem_of_getElem? (i := 3) rfl)
theorem wm_im_X7_empty : (Cond.instanceMethod yX7_empty) ∈ wsL_law := in_r37 _ (List.mem_of_getElem? (i := 4) rfl)
theorem wm_se_X7_empty : (Cond.selects RX7 yX7_empty yX7_empty) ∈ wsL_law := in_r37 _ (List.mem_of_getElem? (i := 5) rfl)
theorem wm_co_X7_empty : (Cond.code yX7_empty cX7_empty 2 (some .int)) ∈ wsL_law := in_r37 _ (List.mem_of_getElem? (i := 6) rfl)
theorem wm_ml_L_124 : (Cond.methodLink RL 124 yX10_clearText) ∈ wsL_law := in_r37 _ (List.mem_of_getElem? (i := 7) rfl)
theorem wm_im_X10_clearText : (Cond.instanceMethod yX10_clearText) ∈ wsL_law := in_r37 _ (List.mem_of_getElem? (i := 8) rfl)
theorem wm_se_X10_clearText : (Cond.selects RX10 yX10_clearText yX10_clearText) ∈ wsL_law := in_r37 _ (List.mem_of_getElem? (i := 9) rfl)
theorem wm_co_X10_clearText : (Cond.code yX10_clearText cX10_clearText 2 (some .int)) ∈ wsL_law := in_r37 _ (List.mem_of_getElem? (i := 10) rfl)
theorem wm_ml_L_125 : (Cond.methodLink RL 125 yX9_fault) ∈ wsL_law := in_r37 _ (List.mem_of_getElem? (i := 11) rfl)
theorem wm_im_X9_fault : (Cond.instanceMethod yX9_fault) ∈ wsL_law := in_r37 _ (List.mem_of_getElem? (i := 12) rfl)
theorem wm_se_X9_fault : (Cond.selects RX9 yX9_fault yX9_fault) ∈ wsL_law := in_r37 _ (List.mem_of_getElem? (i := 13) rfl)
theorem wm_co_X9_fault : (Cond.code yX9_fault cX9_fault 2 (some .int)) ∈ wsL_law := in_r37 _ (List.mem_of_getElem? (i := 14) rfl)
theorem wm_ml_X9_154 : (Cond.methodLink RX9 154 yX9_within) ∈ wsL_law := in_r37 _ (List.mem_of_getElem? (i := 15) rfl)
theorem wm_ml_X9_158 : (Cond.methodLink RX9 158 yX5_runThrough) ∈ wsL_law := in_r37 _ (List.mem_of_getElem? (i := 16) rfl)
theorem wm_im_X5_runThrough : (Cond.instanceMethod yX5_runThrough) ∈ wsL_law := in_r37 _ (List.mem_of_getElem? (i := 17) rfl)
theorem wm_se_X5_runThrough : (Cond.selects RX5 yX5_runThrough yX5_runThrough) ∈ wsL_law := in_r37 _ (List.mem_of_getElem? (i := 18) rfl)
theorem wm_co_X5_runThrough : (Cond.code yX5_runThrough cX5_runThrough 5 none) ∈ wsL_law := in_r37 _ (List.mem_of_getElem? (i := 19) rfl)
theorem wm_fl_X5_18 : (Cond.fieldLink RX5 18 "PurserLedgers$Rehearsal" "done" "I") ∈ wsL_law := in_r37 _ (List.mem_of_getElem? (i := 20) rfl)
theorem wm_fl_X5_22 : (Cond.fieldLink RX5 22 "PurserLedgers$Rehearsal" "position" "I") ∈ wsL_law := in_r37 _ (List.mem_of_getElem? (i := 21) rfl)
theorem wm_fl_X5_25 : (Cond.fieldLink RX5 25 "PurserLedgers$Rehearsal" "reason" "I") ∈ wsL_law := in_r37 _ (List.mem_of_getElem? (i := 22) rfl)
theorem wm_fl_X5_28 : (Cond.fieldLink RX5 28 "PurserLedgers$Rehearsal" "cause" "I") ∈ wsL_law := in_r37 _ (List.mem_of_getElem? (i := 23) rfl)
theorem wm_fl_X5_31 : (Cond.fieldLink RX5 31 "PurserLedgers$Text" "length" "I") ∈ wsL_law := in_r38 _ (List.mem_of_getElem? (i := 0) rfl)
theorem wm_fl_X5_40 : (Cond.fieldLink RX5 40 "PurserLedgers$Order" "place" "I") ∈ wsL_law := in_r38 _ (List.mem_of_getElem? (i := 1) rfl)
theorem wm_ml_X5_36 : (Cond.methodLink RX5 36 yX4_readFrom) ∈ wsL_law := in_r38 _ (List.mem_of_getElem? (i := 2) rfl)
theorem wm_im_X4_readFrom : (Cond.instanceMethod yX4_readFrom) ∈ wsL_law := in_r38 _ (List.mem_of_getElem? (i := 3) rfl)
theorem wm_se_X4_readFrom : (Cond.selects RX4 yX4_readFrom yX4_readFrom) ∈ wsL_law := in_r38 _ (List.mem_of_getElem? (i := 4) rfl)
theorem wm_co_X4_readFrom : (Cond.code yX4_readFrom cX4_readFrom 6 (some .boolean)) ∈ wsL_law := in_r38 _ (List.mem_of_getElem? (i := 5) rfl)
theorem wm_fl_X4_15 : (Cond.fieldLink RX4 15 "PurserLedgers$Order" "place" "I") ∈ wsL_law := in_r38 _ (List.mem_of_getElem? (i := 6) rfl)
theorem wm_fl_X4_25 : (Cond.fieldLink RX4 25 "PurserLedgers$Order" "letter" "I") ∈ wsL_law := in_r38 _ (List.mem_of_getElem? (i := 7) rfl)
theorem wm_ml_X4_19 : (Cond.methodLink RX4 19 yX7_at) ∈ wsL_law := in_r38 _ (List.mem_of_getElem? (i := 8) rfl)
theorem wm_im_X7_at : (Cond.instanceMethod yX7_at) ∈ wsL_law := in_r38 _ (List.mem_of_getElem? (i := 9) rfl)
theorem wm_se_X7_at : (Cond.selects RX7 yX7_at yX7_at) ∈ wsL_law := in_r38 _ (List.mem_of_getElem? (i := 10) rfl)
theorem wm_co_X7_at : (Cond.code yX7_at cX7_at 2 (some .int)) ∈ wsL_law := in_r38 _ (List.mem_of_getElem? (i := 11) rfl)
theorem wm_ml_X4_28 : (Cond.methodLink RX4 28 yX4_numbersOf) ∈ wsL_law := in_r38 _ (List.mem_of_getElem? (i := 12) rfl)
theorem wm_st_X4_numbersOf : (Cond.static yX4_numbersOf) ∈ wsL_law := in_r38 _ (List.mem_of_getElem? (i := 13) rfl)
theorem wm_co_X4_numbersOf : (Cond.code yX4_numbersOf cX4_numbersOf 1 (some .int)) ∈ wsL_law := in_r38 _ (List.mem_of_getElem? (i := 14) rfl)
theorem wm_ml_X4_31 : (Cond.methodLink RX4 31 yX4_readSign) ∈ wsL_law := in_r38 _ (List.mem_of_getElem? (i := 15) rfl)
theorem wm_im_X4_readSign : (Cond.instanceMethod yX4_readSign) ∈ wsL_law := in_r38 _ (List.mem_of_getElem? (i := 16) rfl)
theorem wm_se_X4_readSign : (Cond.selects RX4 yX4_readSign yX4_readSign) ∈ wsL_law := in_r38 _ (List.mem_of_getElem? (i := 17) rfl)
theorem wm_co_X4_readSign : (Cond.code yX4_readSign cX4_readSign 3 (some .boolean)) ∈ wsL_law := in_r38 _ (List.mem_of_getElem? (i := 18) rfl)
theorem wm_ml_X4_35 : (Cond.methodLink RX4 35 yX4_readNumber) ∈ wsL_law := in_r38 _ (List.mem_of_getElem? (i := 19) rfl)
theorem wm_im_X4_readNumber : (Cond.instanceMethod yX4_readNumber) ∈ wsL_law := in_r38 _ (List.mem_of_getElem? (i := 20) rfl)
theorem wm_se_X4_readNumber : (Cond.selects RX4 yX4_readNumber yX4_readNumber) ∈ wsL_law := in_r38 _ (List.mem_of_getElem? (i := 21) rfl)
theorem wm_co_X4_readNumber : (Cond.code yX4_readNumber cX4_readNumber 4 (some .int)) ∈ wsL_law := in_r38 _ (List.mem_of_getElem? (i := 22) rfl)
theorem wm_ml_X4_43 : (Cond.methodLink RX4 43 Lib.Math.max.name) ∈ wsL_law := in_r38 _ (List.mem_of_getElem? (i := 23) rfl)
theorem wm_ml_X5_43 : (Cond.methodLink RX5 43 yX4_carryOut) ∈ wsL_law := in_r39 _ (List.mem_of_getElem? (i := 0) rfl)
theorem wm_im_X4_carryOut : (Cond.instanceMethod yX4_carryOut) ∈ wsL_law := in_r39 _ (List.mem_of_getElem? (i := 1) rfl)
theorem wm_se_X4_carryOut : (Cond.selects RX4 yX4_carryOut yX4_carryOut) ∈ wsL_law := in_r39 _ (List.mem_of_getElem? (i := 2) rfl)
theorem wm_co_X4_carryOut : (Cond.code yX4_carryOut cX4_carryOut 2 (some .int)) ∈ wsL_law := in_r39 _ (List.mem_of_getElem? (i := 3) rfl)
theorem wm_ml_X4_49 : (Cond.methodLink RX4 49 yX4_number) ∈ wsL_law := in_r39 _ (List.mem_of_getElem? (i := 4) rfl)
theorem wm_im_X4_number : (Cond.instanceMethod yX4_number) ∈ wsL_law := in_r39 _ (List.mem_of_getElem? (i := 5) rfl)
theorem wm_se_X4_number : (Cond.selects RX4 yX4_number yX4_number) ∈ wsL_law := in_r39 _ (List.mem_of_getElem? (i := 6) rfl)
theorem wm_co_X4_number : (Cond.code yX4_number cX4_number 2 (some .int)) ∈ wsL_law := in_r39 _ (List.mem_of_getElem? (i := 7) rfl)
theorem wm_ml_X4_52 : (Cond.methodLink RX4 52 yX0_signOn) ∈ wsL_law := in_r39 _ (List.mem_of_getElem? (i := 8) rfl)
theorem wm_ml_X4_57 : (Cond.methodLink RX4 57 yX0_buyForChest) ∈ wsL_law := in_r39 _ (List.mem_of_getElem? (i := 9) rfl)
theorem wm_ml_X4_61 : (Cond.methodLink RX4 61 yX0_sellFromChest) ∈ wsL_law := in_r39 _ (List.mem_of_getElem? (i := 10) rfl)
theorem wm_ml_X4_64 : (Cond.methodLink RX4 64 yX0_advanceTo) ∈ wsL_law := in_r39 _ (List.mem_of_getElem? (i := 11) rfl)
theorem wm_ml_X4_67 : (Cond.methodLink RX4 67 yX0_fineOne) ∈ wsL_law := in_r39 _ (List.mem_of_getElem? (i := 12) rfl)
theorem wm_ml_X4_70 : (Cond.methodLink RX4 70 yX0_passDays) ∈ wsL_law := in_r39 _ (List.mem_of_getElem? (i := 13) rfl)
theorem wm_ml_X4_73 : (Cond.methodLink RX4 73 yX0_letAshore) ∈ wsL_law := in_r39 _ (List.mem_of_getElem? (i := 14) rfl)
theorem wm_ml_X4_76 : (Cond.methodLink RX4 76 yX0_comeBack) ∈ wsL_law := in_r39 _ (List.mem_of_getElem? (i := 15) rfl)
theorem wm_ml_X4_79 : (Cond.methodLink RX4 79 yX0_putToSea) ∈ wsL_law := in_r39 _ (List.mem_of_getElem? (i := 16) rfl)
theorem wm_ml_X4_83 : (Cond.methodLink RX4 83 yX0_comeIntoPort) ∈ wsL_law := in_r39 _ (List.mem_of_getElem? (i := 17) rfl)
theorem wm_ml_X4_86 : (Cond.methodLink RX4 86 yX0_endVoyage) ∈ wsL_law := in_r39 _ (List.mem_of_getElem? (i := 18) rfl)
theorem wm_ml_X9_162 : (Cond.methodLink RX9 162 yX5_tellFault) ∈ wsL_law := in_r39 _ (List.mem_of_getElem? (i := 19) rfl)
theorem wm_im_X5_tellFault : (Cond.instanceMethod yX5_tellFault) ∈ wsL_law := in_r39 _ (List.mem_of_getElem? (i := 20) rfl)
theorem wm_se_X5_tellFault : (Cond.selects RX5 yX5_tellFault yX5_tellFault) ∈ wsL_law := in_r39 _ (List.mem_of_getElem? (i := 21) rfl)
theorem wm_co_X5_tellFault : (Cond.code yX5_tellFault cX5_tellFault 2 (some .int)) ∈ wsL_law := in_r39 _ (List.mem_of_getElem? (i := 22) rfl)
theorem wm_ct_X5_51 : (Cond.constant RX5 51 (-1000004)) ∈ wsL_law := in_r39 _ (List.mem_of_getElem? (i := 23) rfl)
theorem wm_ml_X5_47 : (Cond.methodLink RX5 47 yX5_isFaulty) ∈ wsL_law := in_r40 _ (List.mem_of_getElem? (i := 0) rfl)
theorem wm_im_X5_isFaulty : (Cond.instanceMethod yX5_isFaulty) ∈ wsL_law := in_r40 _ (List.mem_of_getElem? (i := 1) rfl)
theorem wm_se_X5_isFaulty : (Cond.selects RX5 yX5_isFaulty yX5_isFaulty) ∈ wsL_law := in_r40 _ (List.mem_of_getElem? (i := 2) rfl)
theorem wm_co_X5_isFaulty : (Cond.code yX5_isFaulty cX5_isFaulty 1 (some .boolean)) ∈ wsL_law := in_r40 _ (List.mem_of_getElem? (i := 3) rfl)
theorem wm_ml_L_128 : (Cond.methodLink RL 128 yX10_fault) ∈ wsL_law := in_r40 _ (List.mem_of_getElem? (i := 4) rfl)
theorem wm_im_X10_fault : (Cond.instanceMethod yX10_fault) ∈ wsL_law := in_r40 _ (List.mem_of_getElem? (i := 5) rfl)
theorem wm_se_X10_fault : (Cond.selects RX10 yX10_fault yX10_fault) ∈ wsL_law := in_r40 _ (List.mem_of_getElem? (i := 6) rfl)
theorem wm_co_X10_fault : (Cond.code yX10_fault cX10_fault 3 (some .int)) ∈ wsL_law := in_r40 _ (List.mem_of_getElem? (i := 7) rfl)
theorem wm_fl_X10_217 : (Cond.fieldLink RX10 217 "PurserLedgersModel" "position" "I") ∈ wsL_law := in_r40 _ (List.mem_of_getElem? (i := 8) rfl)
theorem wm_fl_X10_220 : (Cond.fieldLink RX10 220 "PurserLedgersModel" "reason" "I") ∈ wsL_law := in_r40 _ (List.mem_of_getElem? (i := 9) rfl)
theorem wm_fl_X10_214 : (Cond.fieldLink RX10 214 "PurserLedgersModel" "cause" "I") ∈ wsL_law := in_r40 _ (List.mem_of_getElem? (i := 10) rfl)
theorem wm_ml_X10_226 : (Cond.methodLink RX10 226 yX10_putAside) ∈ wsL_law := in_r40 _ (List.mem_of_getElem? (i := 11) rfl)
theorem wm_im_X10_putAside : (Cond.instanceMethod yX10_putAside) ∈ wsL_law := in_r40 _ (List.mem_of_getElem? (i := 12) rfl)
theorem wm_se_X10_putAside : (Cond.selects RX10 yX10_putAside yX10_putAside) ∈ wsL_law := in_r40 _ (List.mem_of_getElem? (i := 13) rfl)
theorem wm_co_X10_putAside : (Cond.code yX10_putAside cX10_putAside 2 none) ∈ wsL_law := in_r40 _ (List.mem_of_getElem? (i := 14) rfl)
theorem wm_ml_X10_229 : (Cond.methodLink RX10 229 yX10_doText) ∈ wsL_law := in_r40 _ (List.mem_of_getElem? (i := 15) rfl)
theorem wm_im_X10_doText : (Cond.instanceMethod yX10_doText) ∈ wsL_law := in_r40 _ (List.mem_of_getElem? (i := 16) rfl)
theorem wm_se_X10_doText : (Cond.selects RX10 yX10_doText yX10_doText) ∈ wsL_law := in_r40 _ (List.mem_of_getElem? (i := 17) rfl)
theorem wm_co_X10_doText : (Cond.code yX10_doText cX10_doText 3 (some .boolean)) ∈ wsL_law := in_r40 _ (List.mem_of_getElem? (i := 18) rfl)
theorem wm_fl_X10_205 : (Cond.fieldLink RX10 205 "PurserLedgersModel" "orders" "I") ∈ wsL_law := in_r40 _ (List.mem_of_getElem? (i := 19) rfl)
theorem wm_fl_X10_202 : (Cond.fieldLink RX10 202 "PurserLedgersModel" "broken" "I") ∈ wsL_law := in_r40 _ (List.mem_of_getElem? (i := 20) rfl)
theorem wm_ml_X10_208 : (Cond.methodLink RX10 208 yX10_readOrder) ∈ wsL_law := in_r40 _ (List.mem_of_getElem? (i := 21) rfl)
theorem wm_im_X10_readOrder : (Cond.instanceMethod yX10_readOrder) ∈ wsL_law := in_r40 _ (List.mem_of_getElem? (i := 22) rfl)
theorem wm_se_X10_readOrder : (Cond.selects RX10 yX10_readOrder yX10_readOrder) ∈ wsL_law := in_r40 _ (List.mem_of_getElem? (i := 23) rfl)
theorem wm_co_X10_readOrder : (Cond.code yX10_readOrder cX10_readOrder 6 (some .int)) ∈ wsL_law := in_r41 _ (List.mem_of_getElem? (i := 0) rfl)
theorem wm_fl_X10_196 : (Cond.fieldLink RX10 196 "PurserLedgersModel" "letter" "I") ∈ wsL_law := in_r41 _ (List.mem_of_getElem? (i := 1) rfl)
theorem wm_ml_X10_193 : (Cond.methodLink RX10 193 yX10_at) ∈ wsL_law := in_r41 _ (List.mem_of_getElem? (i := 2) rfl)
theorem wm_im_X10_at : (Cond.instanceMethod yX10_at) ∈ wsL_law := in_r41 _ (List.mem_of_getElem? (i := 3) rfl)
theorem wm_se_X10_at : (Cond.selects RX10 yX10_at yX10_at) ∈ wsL_law := in_r41 _ (List.mem_of_getElem? (i := 4) rfl)
theorem wm_co_X10_at : (Cond.code yX10_at cX10_at 2 (some .int)) ∈ wsL_law := in_r41 _ (List.mem_of_getElem? (i := 5) rfl)
theorem wm_ml_X10_199 : (Cond.methodLink RX10 199 yX10_numbers) ∈ wsL_law := in_r41 _ (List.mem_of_getElem? (i := 6) rfl)
theorem wm_st_X10_numbers : (Cond.static yX10_numbers) ∈ wsL_law := in_r41 _ (List.mem_of_getElem? (i := 7) rfl)
theorem wm_co_X10_numbers : (Cond.code yX10_numbers cX10_numbers 1 (some .int)) ∈ wsL_law := in_r41 _ (List.mem_of_getElem? (i := 8) rfl)
theorem wm_ml_X10_211 : (Cond.methodLink RX10 211 yX10_noOrder) ∈ wsL_law := in_r41 _ (List.mem_of_getElem? (i := 9) rfl)
theorem wm_im_X10_noOrder : (Cond.instanceMethod yX10_noOrder) ∈ wsL_law := in_r41 _ (List.mem_of_getElem? (i := 10) rfl)
theorem wm_se_X10_noOrder : (Cond.selects RX10 yX10_noOrder yX10_noOrder) ∈ wsL_law := in_r41 _ (List.mem_of_getElem? (i := 11) rfl)
theorem wm_co_X10_noOrder : (Cond.code yX10_noOrder cX10_noOrder 1 (some .int)) ∈ wsL_law := in_r41 _ (List.mem_of_getElem? (i := 12) rfl)
theorem wm_ml_X10_223 : (Cond.methodLink RX10 223 yX10_doOrder) ∈ wsL_law := in_r41 _ (List.mem_of_getElem? (i := 13) rfl)
theorem wm_im_X10_doOrder : (Cond.instanceMethod yX10_doOrder) ∈ wsL_law := in_r41 _ (List.mem_of_getElem? (i := 14) rfl)
theorem wm_se_X10_doOrder : (Cond.selects RX10 yX10_doOrder yX10_doOrder) ∈ wsL_law := in_r41 _ (List.mem_of_getElem? (i := 15) rfl)
theorem wm_co_X10_doOrder : (Cond.code yX10_doOrder cX10_doOrder 1 (some .int)) ∈ wsL_law := in_r41 _ (List.mem_of_getElem? (i := 16) rfl)
theorem wm_ml_X10_232 : (Cond.methodLink RX10 232 yX10_putBack) ∈ wsL_law := in_r41 _ (List.mem_of_getElem? (i := 17) rfl)
theorem wm_im_X10_putBack : (Cond.instanceMethod yX10_putBack) ∈ wsL_law := in_r41 _ (List.mem_of_getElem? (i := 18) rfl)
theorem wm_se_X10_putBack : (Cond.selects RX10 yX10_putBack yX10_putBack) ∈ wsL_law := in_r41 _ (List.mem_of_getElem? (i := 19) rfl)
theorem wm_co_X10_putBack : (Cond.code yX10_putBack cX10_putBack 2 none) ∈ wsL_law := in_r41 _ (List.mem_of_getElem? (i := 20) rfl)
theorem wm_ml_L_129 : (Cond.methodLink RL 129 yX9_play) ∈ wsL_law := in_r41 _ (List.mem_of_getElem? (i := 21) rfl)
theorem wm_im_X9_play : (Cond.instanceMethod yX9_play) ∈ wsL_law := in_r41 _ (List.mem_of_getElem? (i := 22) rfl)
theorem wm_se_X9_play : (Cond.selects RX9 yX9_play yX9_play) ∈ wsL_law := in_r41 _ (List.mem_of_getElem? (i := 23) rfl)
theorem wm_co_X9_play : (Cond.code yX9_play cX9_play 1 (some .int)) ∈ wsL_law := in_r42 _ (List.mem_of_getElem? (i := 0) rfl)
theorem wm_ct_X9_169 : (Cond.constant RX9 169 (-1000002)) ∈ wsL_law := in_r42 _ (List.mem_of_getElem? (i := 1) rfl)
theorem wm_fl_X9_170 : (Cond.fieldLink RX9 170 "PurserLedgers$Rehearsal" "done" "I") ∈ wsL_law := in_r42 _ (List.mem_of_getElem? (i := 2) rfl)
theorem wm_ml_X9_165 : (Cond.methodLink RX9 165 yX5_isFaulty) ∈ wsL_law := in_r42 _ (List.mem_of_getElem? (i := 3) rfl)
theorem wm_ml_L_132 : (Cond.methodLink RL 132 yX10_play) ∈ wsL_law := in_r42 _ (List.mem_of_getElem? (i := 4) rfl)
theorem wm_im_X10_play : (Cond.instanceMethod yX10_play) ∈ wsL_law := in_r42 _ (List.mem_of_getElem? (i := 5) rfl)
theorem wm_se_X10_play : (Cond.selects RX10 yX10_play yX10_play) ∈ wsL_law := in_r42 _ (List.mem_of_getElem? (i := 6) rfl)
theorem wm_co_X10_play : (Cond.code yX10_play cX10_play 1 (some .int)) ∈ wsL_law := in_r42 _ (List.mem_of_getElem? (i := 7) rfl)
set_option maxRecDepth 100000 in
theorem wsL_good : wsL_law.all goodWord = true := by decide +kernel
/-- the one word list: a method's own code, then all words of the law -/
def wsO (y : MethodName) (cc : ByteArray) (n : Nat) (r : Option FieldType) : List Cond := Cond.code y cc n r :: wsL_law
theorem wsO_good {y y2 : MethodName} {cc cc2 : ByteArray} {n n2 : Nat} {r r2 : Option FieldType} (h : Cond.code y2 cc2 n2 r2 ∈ wsL_law) : GoodIn (wsO y cc n r) (wsO y2 cc2 n2 r2) := fun w hw => (List.mem_cons.mp hw).elim (fun e => by subst e; exact ⟨List.mem_cons_of_mem _ h, good_of_word (List.all_eq_true.mp wsL_good _ h)⟩) (fun hw => ⟨List.mem_cons_of_mem _ hw, good_of_word (List.all_eq_true.mp wsL_good _ hw)⟩)
